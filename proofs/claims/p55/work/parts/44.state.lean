/-! ===== the whole state; HomeworkBarter$Undoable ===== -/
section CSTA
def Ab0 : Ab := (0, fun _ => 0, fun _ _ => 0, fun _ => [], [])
def ug (U : List Ab) (i : Nat) : Ab := U.getD i Ab0
/-- now, the undoable states (the earliest first), the slots, the refusals, the text, the error, what is written -/
abbrev Gs : Type := Ab × List Ab × (Nat → Option Ab) × (Nat → Int32) × List Int32 × (Int32 × Int32) × List Int32
abbrev Gs.A (g : Gs) : Ab := g.1
abbrev Gs.U (g : Gs) : List Ab := g.2.1
abbrev Gs.S (g : Gs) : Nat → Option Ab := g.2.2.1
abbrev Gs.R (g : Gs) : Nat → Int32 := g.2.2.2.1
abbrev Gs.L (g : Gs) : List Int32 := g.2.2.2.2.1
abbrev Gs.e (g : Gs) : Int32 × Int32 := g.2.2.2.2.2.1
abbrev Gs.W (g : Gs) : List Int32 := g.2.2.2.2.2.2
abbrev tn (x : Int32) : Nat := x.toNatClampNeg
def wOk (n : Nat) (w : Int32) : Prop := ∃ p : Nat → Bool, w = bs p n
def mOk (n : Nat) (L : List Int32) : Prop := L.length ≤ 20 ∧ ∀ k, k < L.length → ∃ m, m < n ∧ L.getD k 0 = nI m
def dOk (n : Nat) (d : List De) : Prop := d.length ≤ 30 ∧ (∀ i, i < d.length → (∃ x, x < n ∧ dg d i 0 = nI x) ∧ (∃ y, y < n ∧ dg d i 1 = nI y) ∧ (∃ s, s < 2 ∧ dg d i 2 = nI s) ∧ ∃ v, 1 ≤ v ∧ v ≤ 99 ∧ dg d i 3 = nI v) ∧ ∀ i k, i < d.length → k < d.length → dg d i 0 = dg d k 0 → dg d i 1 = dg d k 1 → dg d i 2 = dg d k 2 → i = k
def fOk (n : Nat) (f : Nat → Int32) : Prop := (1 ≤ f 2 ∧ f 2 ≤ 9) ∧ (1 ≤ f 3 ∧ f 3 ≤ 9) ∧ (f 4 = 0 ∨ f 4 = 1) ∧ 0 ≤ f 8 ∧ wOk n (f 9)
def Ok (A : Ab) : Prop := (2 ≤ A.n ∧ A.n ≤ 12) ∧ (0 ≤ A.g 3 ∧ 0 ≤ A.g 4 ∧ 0 ≤ A.g 5) ∧ (∀ p, p < A.n → fOk A.n (A.f p)) ∧ (∀ q, q < 2 * A.n → mOk A.n (A.s q)) ∧ dOk A.n A.d
theorem Ok.spy {A : Ab} (h : Ok A) : ∀ p, p < A.n → A.f p 4 = 0 ∨ A.f p 4 = 1 := fun p hp => (h.2.2.1 p hp).2.2.1
theorem Ok.subj {A : Ab} (h : Ok A) : ∀ i, i < A.d.length → ∃ s, s < 2 ∧ dg A.d i 2 = nI s := fun i hi => (h.2.2.2.2.2.1 i hi).2.2.1
def Okg (g : Gs) : Prop := Ok g.A ∧ (∀ i, i < g.U.length → Ok (ug g.U i)) ∧ ∀ s, s < 2 → ∀ B, g.S s = some B → Ok B
def Und (M : Mm) (U : List Ab) : Prop := U.length ≤ 6 ∧ M.1 15 0 0 2 = nI U.length ∧ (∀ r, r < 6 → ∀ p, p < 12 → M.1 12 (2 + r) p 0 = nI p) ∧ ∃ nx, nx < 6 ∧ M.1 15 0 0 1 = nI nx ∧ ∀ i, i < U.length → CR M (2 + (nx + 6 - U.length + i) % 6) (ug U i)
def Slt (M : Mm) (S : Nat → Option Ab) : Prop := ∀ s, s < 2 → (∀ p, p < 12 → M.1 12 (8 + s) p 0 = nI p) ∧ ((S s = none ∧ M.1 18 0 0 s = 0) ∨ ∃ B, S s = some B ∧ M.1 18 0 0 s = 1 ∧ CR M (8 + s) B)
def Rfd (M : Mm) (R : Nat → Int32) : Prop := ∀ r, 1 ≤ r → r ≤ 10 → M.1 19 0 0 r = R r
def Tx (M : Mm) (L : List Int32) (e : Int32 × Int32) : Prop := Txt M 0 L ∧ M.1 1 0 0 5 = e.1 ∧ M.1 1 0 0 6 = e.2
def CG (M : Mm) (g : Gs) : Prop := CR M 0 g.A ∧ Und M g.U ∧ Slt M g.S ∧ Rfd M g.R ∧ Tx M g.L g.e ∧ Txt M 1 g.W ∧ ∀ p, p < 12 → M.1 12 1 p 0 = nI p
variable {E : Ed} {M M' : Mm} {P : Res → Mm → Prop} {L : List Int32} {T : Tks} {A : Ab} {j : Nat} {D : Nat → Nat → Nat → Prop}
def dCl : Nat → Nat → Nat → Prop := fun k _ _ => k ≤ 19
theorem CR.frD {j2 : Nat} (h : CR M j2 A) (hf : Fr D M M') (hd : ∀ k j p, D k j p → ¬ (7 ≤ k ∧ k ≤ 14 ∧ j = j2)) : CR M' j2 A := h.keep (fun k h7 h14 p t => hf.at (fun q => hd k j2 p q ⟨h7, h14, rfl⟩) t)
theorem Und.fr {U : List Ab} (h : Und M U) (hf : Fr D M M') (hd : ∀ k j p, D k j p → ¬ (k = 15 ∨ (7 ≤ k ∧ k ≤ 14 ∧ 2 ≤ j ∧ j < 8))) : Und M' U := by
  obtain ⟨h1, h2, h3, nx, h4, h5, h6⟩ := h
  refine ⟨h1, (hf.at (fun q => hd 15 0 0 q (Or.inl rfl)) 2).trans h2, fun r hr p hp => (hf.at (fun q => hd 12 (2 + r) p q (Or.inr ⟨by decide, by decide, by omega, by omega⟩)) 0).trans (h3 r hr p hp), nx, h4, (hf.at (fun q => hd 15 0 0 q (Or.inl rfl)) 1).trans h5, fun i hi => (h6 i hi).frD hf (fun k j p q z => hd k j p q (Or.inr ⟨z.1, z.2.1, by omega, by omega⟩))⟩
theorem Slt.fr {S : Nat → Option Ab} (h : Slt M S) (hf : Fr D M M') (hd : ∀ k j p, D k j p → ¬ (k = 18 ∨ (7 ≤ k ∧ k ≤ 14 ∧ 8 ≤ j))) : Slt M' S := by
  intro s hs
  obtain ⟨h1, h2⟩ := h s hs
  refine ⟨fun p hp => (hf.at (fun q => hd 12 (8 + s) p q (Or.inr ⟨by decide, by decide, by omega⟩)) 0).trans (h1 p hp), ?_⟩
  have e : M'.1 18 0 0 s = M.1 18 0 0 s := hf.at (fun q => hd 18 0 0 q (Or.inl rfl)) s
  rcases h2 with ⟨a, b⟩ | ⟨B, a, b, c⟩
  · exact Or.inl ⟨a, e.trans b⟩
  · exact Or.inr ⟨B, a, e.trans b, c.frD hf (fun k j p q z => hd k j p q (Or.inr ⟨z.1, z.2.1, by omega⟩))⟩
theorem Rfd.fr {R : Nat → Int32} (h : Rfd M R) (hf : Fr D M M') (hd : ∀ k j p, D k j p → ¬ k = 19) : Rfd M' R := fun r h1 h2 => (hf.at (fun q => hd 19 0 0 q rfl) r).trans (h r h1 h2)
theorem Tx.fr {e : Int32 × Int32} (h : Tx M L e) (hf : Fr D M M') (hd : ∀ k j p, D k j p → ¬ (k = 1 ∨ (k = 2 ∨ k = 3) ∧ j = 0)) : Tx M' L e :=
  ⟨h.1.keep (fun k hk t => hf.at (fun q => hd k 0 0 q (Or.inr ⟨hk, rfl⟩)) t), (hf.at (fun q => hd 1 0 0 q (Or.inl rfl)) 5).trans h.2.1, (hf.at (fun q => hd 1 0 0 q (Or.inl rfl)) 6).trans h.2.2⟩
theorem Txt.fr (h : Txt M j L) (hf : Fr D M M') (hd : ∀ k j' p, D k j' p → ¬ ((k = 2 ∨ k = 3) ∧ j' = j)) : Txt M' j L := h.keep (fun k hk t => hf.at (fun q => hd k j 0 q ⟨hk, rfl⟩) t)
/-- a school other than the first changed, or nothing of it -/
theorem CG.fr {g : Gs} (h : CG M g) (hf : Fr D M M') (hd : ∀ k j p, D k j p → 20 ≤ k ∨ (7 ≤ k ∧ k ≤ 14 ∧ j = 1)) (h1 : ∀ p, p < 12 → M'.1 12 1 p 0 = nI p) : CG M' g := by
  obtain ⟨a, b, c, d, e, f, i⟩ := h
  exact ⟨a.frD hf (fun k j p q z => by have := hd k j p q; omega), b.fr hf (fun k j p q z => by have := hd k j p q; omega), c.fr hf (fun k j p q z => by have := hd k j p q; omega), d.fr hf (fun k j p q z => by have := hd k j p q; omega), e.fr hf (fun k j p q z => by have := hd k j p q; omega), f.fr hf (fun k j p q z => by have := hd k j p q; omega), h1⟩
theorem CG.out {g : Gs} (h : CG M g) (hf : Fr D M M') (hd : ∀ k j p, D k j p → 20 ≤ k) : CG M' g := h.fr hf (fun k j p q => Or.inl (hd k j p q)) (fun p hp => (hf.at (fun q => absurd (hd 12 1 p q) (by decide)) 0).trans (h.2.2.2.2.2.2 p hp))
/-- the first school changed -/
theorem CG.act {g : Gs} (h : CG M g) (hA : CR M' 0 A) (hf : Fr (dC 0) M M') : CG M' (A, g.2) := by
  obtain ⟨a, b, c, d, e, f, i⟩ := h
  have hd : ∀ k j p, dC 0 k j p → 7 ≤ k ∧ k ≤ 14 ∧ j = 0 := fun k j p q => q
  exact ⟨hA, b.fr hf (fun k j p q z => by have := hd k j p q; omega), c.fr hf (fun k j p q z => by have := hd k j p q; omega), d.fr hf (fun k j p q z => by have := hd k j p q; omega), e.fr hf (fun k j p q z => by have := hd k j p q; omega), f.fr hf (fun k j p q z => by have := hd k j p q; omega), fun p hp => (hf.at (fun q => absurd (hd 12 1 p q).2.2 (by decide)) 0).trans (i p hp)⟩
theorem dC_Cl : ∀ k j' p, dC j k j' p → dCl k j' p := fun k j' p q => by have q' : 7 ≤ k ∧ k ≤ 14 ∧ j' = j := q; show k ≤ 19; omega
-- undo
def pushU (U : List Ab) (A : Ab) : List Ab := (if U.length < 6 then U else U.tail) ++ [A]
theorem ug_app {U : List Ab} {i : Nat} (h : i < U.length) : ug (U ++ [A]) i = ug U i := by
  unfold ug
  simp [List.getD_eq_getElem?_getD, List.getElem?_append_left h]
theorem ug_end {U : List Ab} : ug (U ++ [A]) U.length = A := by
  unfold ug
  simp [List.getD_eq_getElem?_getD]
theorem ug_tail {U : List Ab} {i : Nat} : ug U.tail i = ug U (i + 1) := by
  unfold ug
  simp [List.getD_eq_getElem?_getD]
theorem ug_dl {U : List Ab} {i : Nat} (h : i < U.length - 1) : ug U.dropLast i = ug U i := by
  unfold ug
  simp [List.getD_eq_getElem?_getD, List.getElem?_dropLast, h]
  rw [List.getElem?_eq_getElem (by omega)]
  rfl
def dUn : Nat → Nat → Nat → Prop := fun k j _ => k = 15 ∨ (7 ≤ k ∧ k ≤ 14 ∧ 2 ≤ j ∧ j < 8)
theorem dC_Un {r : Nat} (hr : r < 6) : ∀ k j p, dC (2 + r) k j p → dUn k j p := fun k j p q => by have q' : 7 ≤ k ∧ k ≤ 14 ∧ j = 2 + r := q; right; omega
theorem six {n : Nat} (h : n < 2 ^ 31) : nI n - nI n / 6 * 6 = nI (n % 6) := pk_rem (d := 6) h (by decide) (by decide)
theorem s_X7_remember {U : List Ab} (hA : CR M 0 A) (hO : Ok A) (hU : Und M U) (h : ∀ M', Und M' (pushU U A) → Fr dUn M M' → P (.inl none) M') : Sp E yX7_remember cX7_remember zX7_remember [.ref (ad E 15 0 0), .ref (ad E 7 0 0)] M P := by
  obtain ⟨h1, h2, h3, nx, h4, h5, h6⟩ := id hU
  refine Sp_of (own := RX7) (by decide) rfl rfl (Nat.le_of_ble_eq_true rfl) (fun C => ?_)
  refine G_aload_n dX7_remember_0 rfl ?_
  refine gf_X7_11 dX7_remember_1  ?_
  refine G_aload_n dX7_remember_4 rfl ?_
  refine gf_X7_18 dX7_remember_5  ?_
  refine G_aald dX7_remember_8 ⟨by decide, rfl, rfl⟩ rfl rfl h5 h4 (by decide) rfl ?_
  refine G_aload_n dX7_remember_9 rfl ?_
  refine cv_X7_22 (cs' := 0) (ss' := 0) dX7_remember_10 (show 2 + nx < 10 by omega) (Nat.le_of_ble_eq_true rfl) (Nat.le_of_ble_eq_true rfl) (Nat.le_of_ble_eq_true rfl) rfl rfl (Nat.le_of_ble_eq_true rfl) (Nat.le_of_ble_eq_true rfl) rfl ?_
  refine s_X3_copyFrom (by omega) (by decide) (by omega) hA hO.spy (h3 nx h4) (fun M1 hB hf1 => hGo_v ?_)
  have e5 : M1.1 15 0 0 1 = nI nx := (hf1.at (fun q => absurd q.2.1 (by decide)) 1).trans h5
  have e2 : M1.1 15 0 0 2 = nI U.length := (hf1.at (fun q => absurd q.2.1 (by decide)) 2).trans h2
  have hq : ∀ r, r < 6 → ∀ p, p < 12 → M1.1 12 (2 + r) p 0 = nI p := fun r hr p hp => by
    by_cases e : r = nx
    · subst e
      exact hB.2.2.2.1 p hp
    · exact (hf1.at (fun q => absurd q.2.2 (by omega)) 0).trans (h3 r hr p hp)
  have hk : ∀ i, i < U.length → (nx + 6 - U.length + i) % 6 ≠ nx → CR M1 (2 + (nx + 6 - U.length + i) % 6) (ug U i) := fun i hi hne => (h6 i hi).fr hf1 (by omega)
  refine G_aload_n dX7_remember_13 rfl ?_
  refine G_aload_n dX7_remember_14 rfl ?_
  refine gf_X7_18 dX7_remember_15  ?_
  refine G_iconst (v := 1) dX7_remember_18 (by decide) ?_
  refine G_iadd dX7_remember_19 ?_
  refine G_bipush (v := 6) dX7_remember_20 (by decide) ?_
  refine G_irem dX7_remember_22 (by decide) ?_
  rw [e5, show nI nx + 1 = nI (nx + 1) from nI_1 nx, six (by omega)]
  refine pf_X7_18 dX7_remember_23  ?_
  refine G_aload_n dX7_remember_26 rfl ?_
  refine gf_X7_26 dX7_remember_27  ?_
  rw [up_t (by decide), e2]
  have hF0 := hf1.mono (dC_Un h4)
  refine G_bipush (v := 6) dX7_remember_30 (by decide) ?_
  refine G_icmp_ge (tgt := 45) dX7_remember_32 (by decide) (fun c32 => ?_) (fun c32 => ?_)
  · have hl : U.length = 6 := by
      rcases Nat.lt_or_ge U.length 6 with q | q
      · exact absurd c32 (nI_ge (b := 6) q (by decide))
      · omega
    refine G_vret dX7_remember_45 rfl (Nat.le_of_ble_eq_true rfl) (Nat.le_of_ble_eq_true rfl) ?_
    have hp : pushU U A = U.tail ++ [A] := by unfold pushU; rw [if_neg (by omega)]
    rw [hp] at h
    have ht : U.tail.length = 5 := by rw [List.length_tail]; omega
    refine h _ ⟨by rw [List.length_append, ht]; exact Nat.le_refl 6, ?_, fun r hr p hp => (up_nk (by decide)).trans (hq r hr p hp), (nx + 1) % 6, by omega, up_at, fun i hi => ?_⟩ (hF0.up (Or.inl rfl))
    · rw [up_t (by decide), e2, List.length_append, ht, hl]
      rfl
    · rw [List.length_append, ht] at hi ⊢
      have hi6 : i < 6 := hi
      refine CR.keep (M := M1) ?_ (fun k _ _ p t => up_nk (by omega))
      by_cases e : i = 5
      · subst e
        rw [show ug (U.tail ++ [A]) 5 = A by rw [← ht]; exact ug_end, show ((nx + 1) % 6 + 6 - (5 + [A].length) + 5) % 6 = nx by show ((nx + 1) % 6 + 6 - 6 + 5) % 6 = nx; omega]
        exact hB
      · rw [ug_app (by omega), ug_tail]
        have e2 : ((nx + 1) % 6 + 6 - (5 + [A].length) + i) % 6 = (nx + 6 - U.length + (i + 1)) % 6 := by
          show ((nx + 1) % 6 + 6 - 6 + i) % 6 = _
          omega
        rw [e2]
        exact hk (i + 1) (by omega) (by omega)
  · have hl : U.length < 6 := by
      rcases Nat.lt_or_ge U.length 6 with q | q
      · exact q
      · exact absurd (nI_le (a := 6) q (by omega)) c32
    refine G_aload_n dX7_remember_35 rfl ?_
    refine G_dup dX7_remember_36 rfl ?_
    refine gf_X7_26 dX7_remember_37  ?_
    rw [up_t (by decide), e2]
    refine G_iconst (v := 1) dX7_remember_40 (by decide) ?_
    refine G_iadd dX7_remember_41 ?_
    refine pf_X7_26 dX7_remember_42  ?_
    refine G_vret dX7_remember_45 rfl (Nat.le_of_ble_eq_true rfl) (Nat.le_of_ble_eq_true rfl) ?_
    have hp : pushU U A = U ++ [A] := by unfold pushU; rw [if_pos hl]
    rw [hp] at h
    refine h _ ⟨by rw [List.length_append]; exact hl, ?_, fun r hr p hp => (up_nk (by decide)).trans ((up_nk (by decide)).trans (hq r hr p hp)), (nx + 1) % 6, by omega, (up_t (by decide)).trans up_at, fun i hi => ?_⟩ ((hF0.up (Or.inl rfl)).up (Or.inl rfl))
    · rw [up_at, List.length_append, nI_1]
      rfl
    · rw [List.length_append] at hi ⊢
      have hi6 : i < U.length + 1 := hi
      refine CR.keep (M := M1) ?_ (fun k _ _ p t => (up_nk (by omega)).trans (up_nk (by omega)))
      have e0 : U.length + [A].length = U.length + 1 := rfl
      rw [e0]
      by_cases e : i = U.length
      · subst e
        rw [ug_end, show ((nx + 1) % 6 + 6 - (U.length + 1) + U.length) % 6 = nx by omega]
        exact hB
      · rw [ug_app (by omega), show ((nx + 1) % 6 + 6 - (U.length + 1) + i) % 6 = (nx + 6 - U.length + i) % 6 by omega]
        exact hk i (by omega) (by omega)
theorem s_X7_forgetAll {U : List Ab} (hU : Und M U) (h : ∀ M', Und M' [] → Fr (fun k _ _ => k = 15) M M' → P (.inl none) M') : Sp E yX7_forgetAll cX7_forgetAll zX7_forgetAll [.ref (ad E 15 0 0)] M P := by
  obtain ⟨h1, h2, h3, nx, h4, h5, h6⟩ := id hU
  refine Sp_of (own := RX7) (by decide) rfl rfl (Nat.le_of_ble_eq_true rfl) (fun C => ?_)
  refine G_aload_n dX7_forgetAll_0 rfl ?_
  refine G_iconst (v := 0) dX7_forgetAll_1 (by decide) ?_
  refine pf_X7_26 dX7_forgetAll_2  ?_
  refine G_vret dX7_forgetAll_5 rfl (Nat.le_of_ble_eq_true rfl) (Nat.le_of_ble_eq_true rfl) ?_
  exact h _ ⟨by decide, up_at, fun r hr p hp => (up_nk (by decide)).trans (h3 r hr p hp), nx, h4, (up_t (by decide)).trans h5, fun i hi => absurd hi (Nat.not_lt_zero i)⟩ (Fr.rfl.up rfl)
theorem s_X7_bringBack {U : List Ab} (h0 : ∀ p, p < 12 → M.1 12 0 p 0 = nI p) (hU : Und M U) (hl : 0 < U.length) (hO : Ok (ug U (U.length - 1))) (h : ∀ M', Und M' U.dropLast → CR M' 0 (ug U (U.length - 1)) → Fr (fun k j p => k = 15 ∨ dC 0 k j p) M M' → P (.inl none) M') : Sp E yX7_bringBack cX7_bringBack zX7_bringBack [.ref (ad E 15 0 0), .ref (ad E 7 0 0)] M P := by
  obtain ⟨h1, h2, h3, nx, h4, h5, h6⟩ := id hU
  refine Sp_of (own := RX7) (by decide) rfl rfl (Nat.le_of_ble_eq_true rfl) (fun C => ?_)
  refine G_aload_n dX7_bringBack_0 rfl ?_
  refine gf_X7_26 dX7_bringBack_1  ?_
  rw [h2]
  refine G_if_ne (tgt := 8) dX7_bringBack_4 (by decide) (fun c4 => ?_) (fun c4 => ?_)
  · refine G_aload_n dX7_bringBack_8 rfl ?_
    refine G_aload_n dX7_bringBack_9 rfl ?_
    refine gf_X7_18 dX7_bringBack_10  ?_
    refine G_bipush (v := 6) dX7_bringBack_13 (by decide) ?_
    refine G_iadd dX7_bringBack_15 ?_
    refine G_iconst (v := 1) dX7_bringBack_16 (by decide) ?_
    refine G_isub dX7_bringBack_17 ?_
    refine G_bipush (v := 6) dX7_bringBack_18 (by decide) ?_
    refine G_irem dX7_bringBack_20 (by decide) ?_
    rw [h5, show nI nx + 6 = nI (nx + 6) from nI_add nx 6, show nI (nx + 6) - 1 = nI (nx + 5) from nI_pred (nx + 5), six (by omega)]
    refine pf_X7_18 dX7_bringBack_21  ?_
    refine G_aload_n dX7_bringBack_24 rfl ?_
    refine G_dup dX7_bringBack_25 rfl ?_
    refine gf_X7_26 dX7_bringBack_26  ?_
    rw [up_t (by decide), h2]
    have eU : nI U.length - 1 = nI (U.length - 1) := by
      have := nI_pred (U.length - 1)
      rw [show U.length - 1 + 1 = U.length by omega] at this
      exact this
    refine G_iconst (v := 1) dX7_bringBack_29 (by decide) ?_
    refine G_isub dX7_bringBack_30 ?_
    rw [eU]
    have hn6 : (nx + 5) % 6 < 6 := Nat.mod_lt _ (by decide)
    have hB : CR ((M.up 15 0 0 1 (nI ((nx + 5) % 6))).up 15 0 0 2 (nI (U.length - 1))) (2 + (nx + 5) % 6) (ug U (U.length - 1)) := by
      refine CR.keep (M := M) ?_ (fun k _ _ p t => (up_nk (by omega)).trans (up_nk (by omega)))
      have := h6 (U.length - 1) (by omega)
      rw [show (nx + 6 - U.length + (U.length - 1)) % 6 = (nx + 5) % 6 by omega] at this
      exact this
    refine pf_X7_26 dX7_bringBack_31  ?_
    refine G_aload_n dX7_bringBack_34 rfl ?_
    refine G_aload_n dX7_bringBack_35 rfl ?_
    refine gf_X7_11 dX7_bringBack_36  ?_
    refine G_aload_n dX7_bringBack_39 rfl ?_
    refine gf_X7_18 dX7_bringBack_40  ?_
    refine G_aald dX7_bringBack_43 ⟨by decide, rfl, rfl⟩ rfl rfl ((up_t (by decide)).trans up_at) hn6 (by decide) rfl ?_
    refine cv_X7_22 (cs' := 0) (ss' := 0) dX7_bringBack_44 (by decide) (Nat.le_of_ble_eq_true rfl) (Nat.le_of_ble_eq_true rfl) (Nat.le_of_ble_eq_true rfl) rfl rfl (Nat.le_of_ble_eq_true rfl) (Nat.le_of_ble_eq_true rfl) rfl ?_
    refine s_X3_copyFrom (j2 := 2 + (nx + 5) % 6) (by decide) (by omega) (by omega) hB hO.spy (fun p hp => (up_nk (by decide)).trans ((up_nk (by decide)).trans (h0 p hp))) (fun M1 hA hf1 => hGo_v ?_)
    refine G_vret dX7_bringBack_47 rfl (Nat.le_of_ble_eq_true rfl) (Nat.le_of_ble_eq_true rfl) ?_
    have hF : Fr (fun k j p => k = 15 ∨ dC 0 k j p) M M1 := ((Fr.rfl.up (Or.inl rfl)).up (Or.inl rfl)).trans (hf1.mono (fun k j p q => Or.inr q))
    have hdl : U.dropLast.length = U.length - 1 := List.length_dropLast
    refine h M1 ⟨by omega, ?_, fun r hr p hp => ?_, (nx + 5) % 6, hn6, ?_, fun i hi => ?_⟩ hA hF
    · rw [hdl]
      exact (hf1.at (fun q => absurd q.2.1 (by decide)) 2).trans up_at
    · exact (hF.at (fun q => by rcases q with q | q; exact absurd q (by decide); exact absurd q.2.2 (by omega)) 0).trans (h3 r hr p hp)
    · exact (hf1.at (fun q => absurd q.2.1 (by decide)) 1).trans ((up_t (by decide)).trans up_at)
    · rw [hdl] at hi ⊢
      rw [ug_dl hi, show ((nx + 5) % 6 + 6 - (U.length - 1) + i) % 6 = (nx + 6 - U.length + i) % 6 by omega]
      exact (h6 i (by omega)).frD hF (fun k j p q z => by rcases q with q | q; omega; exact absurd q.2.2 (by omega))
  · exact absurd c4 (nI_ne0 hl (by omega))
end CSTA
