/-! ===== a school changed, a thing at a time ===== -/
section CUPD
def Ab.sF (A : Ab) (p t : Nat) (v : Int32) : Ab := (A.n, A.g, fun i k => if i = p ∧ k = t then v else A.f i k, A.s, A.d)
def Ab.sG (A : Ab) (t : Nat) (v : Int32) : Ab := (A.n, fun k => if k = t then v else A.g k, A.f, A.s, A.d)
def Ab.sS (A : Ab) (q : Nat) (L : List Int32) : Ab := (A.n, A.g, A.f, fun k => if k = q then L else A.s k, A.d)
def Ab.sD (A : Ab) (d : List De) : Ab := (A.n, A.g, A.f, A.s, d)
/-- a school's cells -/
def dC (j : Nat) : Nat → Nat → Nat → Prop := fun k j' _ => 7 ≤ k ∧ k ≤ 14 ∧ j' = j
variable {M M' : Mm} {j p q t : Nat} {A : Ab} {v : Int32} {L : List Int32} {d : List De}
theorem pF_inj {a b : Nat} (ha : a < 10) (hb : b < 10) (h : pF a = pF b) : a = b := by
  rcases (show a = 0 ∨ a = 1 ∨ a = 2 ∨ a = 3 ∨ a = 4 ∨ a = 5 ∨ a = 6 ∨ a = 7 ∨ a = 8 ∨ a = 9 by omega) with rfl | rfl | rfl | rfl | rfl | rfl | rfl | rfl | rfl | rfl <;>
  rcases (show b = 0 ∨ b = 1 ∨ b = 2 ∨ b = 3 ∨ b = 4 ∨ b = 5 ∨ b = 6 ∨ b = 7 ∨ b = 8 ∨ b = 9 by omega) with rfl | rfl | rfl | rfl | rfl | rfl | rfl | rfl | rfl | rfl <;> first | rfl | (exact absurd h (by decide))
theorem pF_ne0 {a : Nat} : pF a ≠ 0 := by
  unfold pF
  split <;> decide
theorem Sat.up {k j' p' t' : Nat} {w : Int32} (h : Sat M j q L) (hn : ¬ (k = 13 ∨ k = 14) ∨ j' ≠ j ∨ p' ≠ q) : Sat (M.up k j' p' t' w) j q L := h.keep (fun k2 hk2 t2 => by
  rcases hn with hn | hn | hn
  · exact up_nk (fun e => hn (e ▸ hk2))
  · exact up_nj (fun e => hn e.symm)
  · exact up_np (fun e => hn e.symm))
theorem Dbt.up {k j' p' t' : Nat} {w : Int32} (h : Dbt M j d) (hn : ¬ (k = 9 ∨ k = 10) ∨ j' ≠ j) : Dbt (M.up k j' p' t' w) j d := h.keep (fun k2 hk2 p2 t2 => by
  rcases hn with hn | hn
  · exact up_nk (fun e => hn (e ▸ hk2))
  · exact up_nj (fun e => hn e.symm))
theorem CR.upF (h : CR M j A) (ht : t < 10) : CR (M.up 12 j p (pF t) v) j (A.sF p t v) := by
  obtain ⟨h1, h2, h3, h4, h5, h6, h7⟩ := h
  refine ⟨⟨(up_nk (k' := 7) (by decide)).trans h1.1, h1.2⟩, fun t ht => (up_nk (k' := 7) (by decide)).trans (h2 t ht), fun t ht => (up_nk (k' := 11) (by decide)).trans (h3 t ht), fun i hi => (up_t pF_ne0.symm).trans (h4 i hi), fun i hi k hk => ?_, fun q hq => (h6 q hq).up (Or.inl (by decide)), h7.up (Or.inl (by decide))⟩
  show _ = if i = p ∧ k = t then v else A.f i k
  by_cases hip : i = p
  · subst hip
    by_cases hkt : k = t
    · subst hkt
      rw [up_at, if_pos ⟨rfl, rfl⟩]
    · rw [up_t (fun e => hkt (pF_inj hk ht e)), if_neg (fun q => hkt q.2)]
      exact h5 i hi k hk
  · rw [up_np hip, if_neg (fun q => hip q.1)]
    exact h5 i hi k hk
theorem CR.upG (h : CR M j A) (ht : t < 5) : CR (M.up 7 j 0 (4 + t) v) j (A.sG (1 + t) v) := by
  obtain ⟨h1, h2, h3, h4, h5, h6, h7⟩ := h
  refine ⟨⟨(up_t (by omega)).trans h1.1, h1.2⟩, fun k hk => ?_, fun k hk => ?_, fun i hi => (up_nk (k' := 12) (by decide)).trans (h4 i hi), fun i hi k hk => (up_nk (k' := 12) (by decide)).trans (h5 i hi k hk), fun q hq => (h6 q hq).up (Or.inl (by decide)), h7.up (Or.inl (by decide))⟩
  · show _ = if 1 + k = 1 + t then v else A.g (1 + k)
    by_cases hkt : k = t
    · subst hkt
      rw [up_at, if_pos rfl]
    · rw [up_t (by omega), if_neg (by omega)]
      exact h2 k hk
  · show _ = if 7 + k = 1 + t then v else A.g (7 + k)
    rw [up_nk (k' := 11) (by decide), if_neg (by omega)]
    exact h3 k hk
theorem CR.upT (h : CR M j A) (ht : t < 10) : CR (M.up 11 j 0 t v) j (A.sG (7 + t) v) := by
  obtain ⟨h1, h2, h3, h4, h5, h6, h7⟩ := h
  refine ⟨⟨(up_nk (k' := 7) (by decide)).trans h1.1, h1.2⟩, fun k hk => ?_, fun k hk => ?_, fun i hi => (up_nk (k' := 12) (by decide)).trans (h4 i hi), fun i hi k hk => (up_nk (k' := 12) (by decide)).trans (h5 i hi k hk), fun q hq => (h6 q hq).up (Or.inl (by decide)), h7.up (Or.inl (by decide))⟩
  · show _ = if 1 + k = 7 + t then v else A.g (1 + k)
    rw [up_nk (k' := 7) (by decide), if_neg (by omega)]
    exact h2 k hk
  · show _ = if 7 + k = 7 + t then v else A.g (7 + k)
    by_cases hkt : k = t
    · subst hkt
      rw [up_at, if_pos rfl]
    · rw [up_t hkt, if_neg (by omega)]
      exact h3 k hk
theorem CR.upS (h : CR M j A) (hs : Sat M' j q L) (hf : Fr (dS j q) M M') : CR M' j (A.sS q L) := by
  obtain ⟨h1, h2, h3, h4, h5, h6, h7⟩ := h
  have e : ∀ k p t, k ≠ 13 → k ≠ 14 → M'.1 k j p t = M.1 k j p t := fun k p t a b => hf.at (fun q => q.1.elim a b) t
  refine ⟨⟨(e 7 0 3 (by decide) (by decide)).trans h1.1, h1.2⟩, fun k hk => (e 7 0 _ (by decide) (by decide)).trans (h2 k hk), fun k hk => (e 11 0 _ (by decide) (by decide)).trans (h3 k hk), fun i hi => (e 12 i 0 (by decide) (by decide)).trans (h4 i hi), fun i hi k hk => (e 12 i _ (by decide) (by decide)).trans (h5 i hi k hk), fun q2 hq2 => ?_, h7.keep (fun k hk p t => e k p t (by omega) (by omega))⟩
  show Sat M' j q2 (if q2 = q then L else A.s q2)
  by_cases hq : q2 = q
  · subst hq
    rw [if_pos rfl]
    exact hs
  · rw [if_neg hq]
    exact (h6 q2 hq2).keep (fun k hk t => hf.at (fun z => hq z.2.2) t)
theorem CR.upD (h : CR M j A) (hs : Dbt M' j d) (hf : Fr (dD j) M M') : CR M' j (A.sD d) := by
  obtain ⟨h1, h2, h3, h4, h5, h6, h7⟩ := h
  have e : ∀ k p t, k ≠ 9 → k ≠ 10 → M'.1 k j p t = M.1 k j p t := fun k p t a b => hf.at (fun q => q.1.elim a b) t
  exact ⟨⟨(e 7 0 3 (by decide) (by decide)).trans h1.1, h1.2⟩, fun k hk => (e 7 0 _ (by decide) (by decide)).trans (h2 k hk), fun k hk => (e 11 0 _ (by decide) (by decide)).trans (h3 k hk), fun i hi => (e 12 i 0 (by decide) (by decide)).trans (h4 i hi), fun i hi k hk => (e 12 i _ (by decide) (by decide)).trans (h5 i hi k hk), fun q2 hq2 => (h6 q2 hq2).keep (fun k hk t => e k q2 t (by omega) (by omega)), hs⟩
theorem CR.up0 (h : CR M j A) : CR (M.up 13 j q 1 0) j (A.sS q []) := h.upS ⟨up_at, by decide, fun k hk => absurd hk (Nat.not_lt_zero k)⟩ (Fr.rfl.up ⟨Or.inl rfl, rfl, rfl⟩)
theorem dC_S : ∀ k j' p, dS j q k j' p → dC j k j' p := fun k j' p h => by
  rcases h.1 with e | e
  · subst e; exact ⟨by decide, by decide, h.2.1⟩
  · subst e; exact ⟨by decide, by decide, h.2.1⟩
theorem dC_D : ∀ k j' p, dD j k j' p → dC j k j' p := fun k j' p h => by
  rcases h.1 with e | e
  · subst e; exact ⟨by decide, by decide, h.2⟩
  · subst e; exact ⟨by decide, by decide, h.2⟩
theorem Fr.upC {M0 : Mm} {k p t : Nat} (h : Fr (dC j) M0 M) (hk : 7 ≤ k) (hk2 : k ≤ 14) : Fr (dC j) M0 (M.up k j p t v) := h.up ⟨hk, hk2, Eq.refl j⟩
/-- another school stays -/
theorem CR.fr {j2 : Nat} (h : CR M j2 A) (hf : Fr (dC j) M M') (hne : j2 ≠ j) : CR M' j2 A := h.keep (fun k _ _ p t => hf.at (fun q => hne q.2.2) t)
end CUPD
