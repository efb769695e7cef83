/-! ===== an act of the law keeps what holds of a school ===== -/
section LINV3
variable {A B : Ab}
theorem zSwap_0 {x y n m : Nat} (hn : n ≤ 20) (hm : m ≤ 20) (l1 : (A.s (2 * x)).length ≤ 20) (l2 : (A.s (2 * y + 1)).length ≤ 20) (h : rSwap A x y n m = 0) : x ≠ y ∧ n ≤ (A.s (2 * x)).length ∧ m ≤ (A.s (2 * y + 1)).length := by
  unfold rSwap at h
  have h1 : ¬ x = y := fun q => by rw [if_pos q] at h; exact absurd h (by decide)
  rw [if_neg h1] at h
  have h2 : ¬ (0 < A.f x 8 ∨ 0 < A.f y 8) := fun q => by rw [if_pos q] at h; exact absurd h (by decide)
  rw [if_neg h2] at h
  have h3 : ¬ (nI (A.s (2 * x)).length < nI n ∨ nI (A.s (2 * y + 1)).length < nI m) := fun q => by rw [if_pos q] at h; exact absurd h (by decide)
  refine ⟨h1, ?_, ?_⟩
  · rcases Nat.lt_or_ge (A.s (2 * x)).length n with q | q
    · exact absurd (Or.inl (nI_lt q (by omega))) h3
    · exact q
  · rcases Nat.lt_or_ge (A.s (2 * y + 1)).length m with q | q
    · exact absurd (Or.inr (nI_lt q (by omega))) h3
    · exact q
theorem zGive_0 {x y s n : Nat} (hn : n ≤ 20) (l1 : (A.s (2 * x + s)).length ≤ 20) (h : rGive A x y s n = 0) : n ≤ (A.s (2 * x + s)).length := by
  unfold rGive at h
  have h2 : ¬ (0 < A.f x 8 ∨ 0 < A.f y 8) := fun q => by rw [if_pos q] at h; exact absurd h (by decide)
  rw [if_neg h2] at h
  have h3 : ¬ nI (A.s (2 * x + s)).length < nI n := fun q => by rw [if_pos q] at h; exact absurd h (by decide)
  rcases Nat.lt_or_ge (A.s (2 * x + s)).length n with q | q
  · exact absurd (nI_lt q (by omega)) h3
  · exact q
theorem zPay_0 {x y s n : Nat} (h : rPay A x y s n = 0) : x ≠ y ∧ rGive A x y s n = 0 := by
  unfold rPay at h
  have h1 : ¬ x = y := fun q => by rw [if_pos q] at h; exact absurd h (by decide)
  rw [if_neg h1] at h
  have h2 : ¬ owedV A.d (nI x) (nI y) (nI s) < nI n := fun q => by rw [if_pos q] at h; exact absurd h (by decide)
  rw [if_neg h2] at h
  exact ⟨h1, h⟩
theorem zLend_0 {x y s n : Nat} (h : rLend A x y s n = 0) : x ≠ y ∧ rGive A x y s n = 0 := by
  have h1 : ¬ x = y := fun q => by unfold rLend at h; rw [if_pos q] at h; exact absurd h (by decide)
  rw [rLend_eq h1] at h
  refine ⟨h1, ?_⟩
  by_cases q : rGive A x y s n ≠ 0
  · rw [if_pos q] at h
    exact absurd h q
  · exact Decidable.not_not.mp q
theorem pay_inv {k x y s n : Nat} (hO : Ok A) (hG : Gd A) (hB : Bd k A) (hx : x < A.n) (hy : y < A.n) (hs : s < 2) (hn1 : 1 ≤ n) (hn : n ≤ 20) (e : acPay A x y s n = some B) : Gd B ∧ Bd (k + 1) B := by
  unfold acPay at e
  by_cases q : rPay A x y s n = 0
  · rw [if_pos q] at e
    cases e
    obtain ⟨h1, h2⟩ := zPay_0 q
    exact ⟨gd_pay hO hG hx hy hs h1 hn1 hn q (zGive_0 hn (hO.2.2.2.1 _ (by omega)).1 h2), bd_pay hB hO.1.2⟩
  · rw [if_neg q] at e
    cases e
theorem acR_inv {k w a b : Nat} (hO : Ok A) (hG : Gd A) (hB : Bd k A) (e : acR A w a b = some B) : Gd B ∧ Bd (k + 1) B := by
  have h12 := hO.1.2
  have hn : 0 < A.n := by have := hO.1.1; omega
  have hp : a % A.n < A.n := Nat.mod_lt _ hn
  have hq : b % A.n < A.n := Nat.mod_lt _ hn
  by_cases c3 : w < 3
  · rw [acR_a c3] at e
    by_cases q : rMake A (a % A.n) (a / 7 % 2) (1 + b / 5 % 6) = 0
    · rw [if_pos q] at e
      cases e
      exact ⟨gd_make hG hp (by omega), bd_make hB (by omega) (by omega)⟩
    · rw [if_neg q] at e
      cases e
  by_cases c6 : w < 6
  · rw [acR_b ⟨c3, c6⟩] at e
    by_cases q : rSwap A (a % A.n) (b % A.n) (a / 3 % 4) (b / 3 % 4) = 0
    · rw [if_pos q] at e
      cases e
      obtain ⟨h1, h2, h3⟩ := zSwap_0 (by omega) (by omega) (hO.2.2.2.1 _ (by omega)).1 (hO.2.2.2.1 _ (by omega)).1 q
      exact ⟨gd_swap hG hp hq h1 h2 h3, bd_swap hB h12⟩
    · rw [if_neg q] at e
      cases e
  by_cases c8 : w < 8
  · rw [acR_c ⟨c6, c8⟩] at e
    by_cases q : rLend A (a % A.n) (b % A.n) (a / 7 % 2) (1 + b / 5 % 6) = 0
    · rw [if_pos q] at e
      cases e
      obtain ⟨h1, h2⟩ := zLend_0 q
      exact ⟨gd_lend hO hG hp hq (by omega) h1 (zGive_0 (by omega) (hO.2.2.2.1 _ (by omega)).1 h2), bd_lend hB h12⟩
    · rw [if_neg q] at e
      cases e
  by_cases d8 : w = 8
  · rw [acR_d d8] at e
    by_cases q : 0 < A.d.length ∧ 0 < b % 3
    · rw [if_pos q] at e
      obtain ⟨⟨x, hx, ex⟩, ⟨y, hy, ey⟩, ⟨s, hs, es⟩, -⟩ := hO.2.2.2.2.2.1 (a % A.d.length) (Nat.mod_lt _ q.1)
      rw [ex, ey, es, tn_nI (p := x) (by omega), tn_nI (p := y) (by omega), tn_nI (p := s) (by omega)] at e
      exact pay_inv hO hG hB hx hy hs (by omega) (by omega) e
    · rw [if_neg q] at e
      exact pay_inv hO hG hB hp hq (by omega) (by omega) (by omega) e
  by_cases d9 : w = 9
  · rw [acR_e d9] at e
    by_cases q : rMove A (a % A.n) (nI (a / 3 % 6)) (nI (b / 3 % 6)) = 0
    · rw [if_pos q] at e
      cases e
      have hf : onV A (nI (a / 3 % 6)) (nI (b / 3 % 6)) = -1 := by
        unfold rMove at q
        by_cases z : 0 < A.f (a % A.n) 8
        · rw [if_pos z] at q
          exact absurd q (by decide)
        · rw [if_neg z] at q
          by_cases z2 : onV A (nI (a / 3 % 6)) (nI (b / 3 % 6)) = -1
          · exact z2
          · rw [if_neg z2] at q
            exact absurd q (by decide)
      exact ⟨gd_seat hG h12 hp (by omega) (by omega) hf, hB.go (Or.inl rfl) zero20 (Or.inl rfl) zero12⟩
    · rw [if_neg q] at e
      cases e
  by_cases d10 : w = 10
  · rw [acR_f d10] at e
    by_cases q : A.f (a % A.n) 6 = 0
    · rw [if_pos q] at e
      cases e
    · rw [if_neg q] at e
      cases e
      exact ⟨gd_admit hG, hB.go (Or.inl rfl) zero20 (Or.inl rfl) zero12⟩
  · rw [acR_g (by omega)] at e
    by_cases q : 999 < A.g 1 + nI 1
    · rw [if_pos q] at e
      cases e
    · rw [if_neg q] at e
      cases e
      exact ⟨gd_week hO hG, bd_week hB⟩
end LINV3
