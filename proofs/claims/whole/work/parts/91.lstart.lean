/-! ===== the start's state ===== -/
section LSTART
def MB : Mm := moM MA
def f0 (p t : Nat) : Int32 := (([[0, 0, 8, 3, 0, 30], [0, 1, 2, 9, 0, 30], [1, 0, 5, 5, 1, 30], [3, 3, 7, 7, 0, 30], [3, 4, 1, 6, 1, 30]] : List (List Int32)).getD p []).getD t 0
def A0 : Ab := (5, fun t => if t = 2 then 30 else if t = 3 then 4 else if t = 4 then 2 else if t = 5 then 1 else 0, f0, fun _ => [], [])
def g0 : Gs := (A0, [], fun _ => none, fun _ => 0, [], (0, -1), [])
theorem CR0 : CR MB 0 A0 := by
  refine ⟨⟨by decide +kernel, by decide⟩, (by decide +kernel : ∀ t, t < 5 → MB.1 7 0 0 (4 + t) = A0.g (1 + t)), (by decide +kernel : ∀ t, t < 10 → MB.1 11 0 0 t = A0.g (7 + t)), (by decide +kernel : ∀ p, p < 12 → MB.1 12 0 p 0 = nI p), (by decide +kernel : ∀ p, p < 5 → ∀ t, t < 10 → MB.1 12 0 p (pF t) = A0.f p t), fun q hq => ⟨(by decide +kernel : ∀ q, q < 10 → MB.1 13 0 q 1 = nI 0) q hq, Nat.zero_le _, fun k hk => absurd hk (Nat.not_lt_zero k)⟩, by decide +kernel, Nat.zero_le _, fun i hi => absurd hi (Nat.not_lt_zero i)⟩
theorem CG0 : CG MB g0 := by
  refine ⟨CR0, ⟨Nat.zero_le _, by decide +kernel, (by decide +kernel : ∀ r, r < 6 → ∀ p, p < 12 → MB.1 12 (2 + r) p 0 = nI p), 0, by decide, by decide +kernel, fun i hi => absurd hi (Nat.not_lt_zero i)⟩, fun s hs => ⟨(by decide +kernel : ∀ s, s < 2 → ∀ p, p < 12 → MB.1 12 (8 + s) p 0 = nI p) s hs, Or.inl ⟨rfl, (by decide +kernel : ∀ s, s < 2 → MB.1 18 0 0 s = 0) s hs⟩⟩, fun r h1 h2 => (by decide +kernel : ∀ r, r < 11 → MB.1 19 0 0 r = 0) r (by omega), ⟨⟨by decide +kernel, Nat.zero_le _, fun k hk => absurd hk (Nat.not_lt_zero k)⟩, by decide +kernel, by decide +kernel⟩, ⟨by decide +kernel, Nat.zero_le _, fun k hk => absurd hk (Nat.not_lt_zero k)⟩, (by decide +kernel : ∀ p, p < 12 → MB.1 12 1 p 0 = nI p)⟩
theorem MR0 : MR MB 0 A0 := by
  refine ⟨⟨by decide +kernel, by decide⟩, (by decide +kernel : ∀ t, t < 5 → MB.1 21 0 0 (761 * 0 + (1 + t)) = A0.g (1 + t)), (by decide +kernel : ∀ t, t < 10 → MB.1 21 0 0 (761 * 0 + (7 + t)) = A0.g (7 + t)), (by decide +kernel : ∀ p, p < 5 → ∀ t, t < 10 → MB.1 21 0 0 (761 * 0 + (17 + 12 * p + t)) = A0.f p t), fun p hp t ht => ⟨(by decide +kernel : ∀ p, p < 5 → ∀ t, t < 2 → MB.1 21 0 0 (761 * 0 + (17 + 12 * p + (10 + t))) = nI 0) p hp t ht, Nat.zero_le _, fun k hk => absurd hk (Nat.not_lt_zero k)⟩, by decide +kernel, Nat.zero_le _, fun i hi => absurd hi (Nat.not_lt_zero i)⟩
theorem MG0 : MG MB g0 := by
  refine ⟨⟨by decide +kernel, Nat.zero_le _⟩, MR0, ⟨Nat.zero_le _, by decide +kernel, fun i hi => absurd hi (Nat.not_lt_zero i)⟩, fun s hs => Or.inl ⟨rfl, (by decide +kernel : ∀ s, s < 2 → MB.1 22 0 0 s = 0) s hs⟩, fun r h1 h2 => (by decide +kernel : ∀ r, r < 11 → MB.1 23 0 0 r = 0) r (by omega), ⟨by decide +kernel, Nat.zero_le _, fun k hk => absurd hk (Nat.not_lt_zero k)⟩, ⟨by decide +kernel, by decide +kernel⟩, by decide +kernel, Nat.zero_le _, fun k hk => absurd hk (Nat.not_lt_zero k)⟩
theorem Okg0 : Okg g0 := by
  refine ⟨⟨⟨by decide, by decide⟩, ⟨by decide, by decide, by decide⟩, fun p hp => ⟨(by decide +kernel : ∀ p, p < 5 → 1 ≤ f0 p 2 ∧ f0 p 2 ≤ 9) p hp, (by decide +kernel : ∀ p, p < 5 → 1 ≤ f0 p 3 ∧ f0 p 3 ≤ 9) p hp, (by decide +kernel : ∀ p, p < 5 → f0 p 4 = 0 ∨ f0 p 4 = 1) p hp, (by decide +kernel : ∀ p, p < 5 → 0 ≤ f0 p 8) p hp, fun _ => false, (by decide +kernel : ∀ p, p < 5 → f0 p 9 = bs (fun _ => false) 5) p hp⟩, fun q hq => ⟨Nat.zero_le _, fun k hk => absurd hk (Nat.not_lt_zero k)⟩, Nat.zero_le _, fun i hi => absurd hi (Nat.not_lt_zero i), fun i k hi => absurd hi (Nat.not_lt_zero i)⟩, fun i hi => absurd hi (Nat.not_lt_zero i), fun s hs B h => by cases h⟩
theorem MA_hi : ∀ k, 20 ≤ k → MA.1 k = M0.1 k := by
  intro k hk
  funext j p t
  unfold MA enU enM bgM opM
  simp only [taM]
  repeat (first | rfl | refine (up_nk (by omega)).trans ?_)
theorem MB_2 : MB.2 = (0, 0) := rfl
end LSTART
