/-! ===== HomeworkBarter: acts ===== -/
section CDO
variable {E : Ed} {M M' : Mm} {P : Res → Mm → Prop} {A : Ab} {g : Gs}
def refG (g : Gs) (r : Int32) : Gs := (g.A, g.U, g.S, fun k => if k = tn r then g.R k + 1 else g.R k, g.L, g.e, g.W)
def actG (g : Gs) (B : Ab) : Gs := (B, pushU g.U g.A, g.S, g.R, g.L, g.e, g.W)
def dAc : Nat → Nat → Nat → Prop := fun k _ _ => 7 ≤ k ∧ k ≤ 19
theorem dAc_C {j : Nat} : ∀ k j' p, dC j k j' p → dAc k j' p := fun k j' p q => by have q' : 7 ≤ k ∧ k ≤ 14 ∧ j' = j := q; show 7 ≤ k ∧ k ≤ 19; omega
theorem dAc_U : ∀ k j' p, dUn k j' p → dAc k j' p := fun k j' p q => by have q' : k = 15 ∨ (7 ≤ k ∧ k ≤ 14 ∧ 2 ≤ j' ∧ j' < 8) := q; show 7 ≤ k ∧ k ≤ 19; omega
theorem dAc_Cl : ∀ k j' p, dAc k j' p → dCl k j' p := fun k j' p q => q.2
theorem CG.und {U : List Ab} (h : CG M g) (hU : Und M' U) (hf : Fr dUn M M') : CG M' (g.A, U, g.2.2) := by
  obtain ⟨a, b, c, d, e, f, i⟩ := h
  have hd : ∀ k j p, dUn k j p → k = 15 ∨ (7 ≤ k ∧ k ≤ 14 ∧ 2 ≤ j ∧ j < 8) := fun k j p q => q
  exact ⟨a.frD hf (fun k j p q z => by have := hd k j p q; omega), hU, c.fr hf (fun k j p q z => by have := hd k j p q; omega), d.fr hf (fun k j p q z => by have := hd k j p q; omega), e.fr hf (fun k j p q z => by have := hd k j p q; omega), f.fr hf (fun k j p q z => by have := hd k j p q; omega), fun p hp => (hf.at (fun q => by have := hd 12 1 p q; omega) 0).trans (i p hp)⟩
theorem CG.refd {k : Nat} (h : CG M g) (hk : 1 ≤ k) (hk2 : k ≤ 10) : CG (M.up 19 0 0 k (M.1 19 0 0 k + 1)) (refG g (nI k)) := by
  have hf : Fr (fun k _ _ => k = 19) M (M.up 19 0 0 k (M.1 19 0 0 k + 1)) := Fr.rfl.up rfl
  obtain ⟨a, b, c, d, e, f, i⟩ := h
  refine ⟨a.frD hf (fun k j p q z => by omega), b.fr hf (fun k j p q z => by omega), c.fr hf (fun k j p q z => by omega), fun r h1 h2 => ?_, e.fr hf (fun k j p q z => by omega), f.fr hf (fun k j p q z => by omega), fun p hp => (up_nk (by decide)).trans (i p hp)⟩
  show _ = if r = tn (nI k) then g.R r + 1 else g.R r
  rw [tn_nI (by omega)]
  by_cases q : r = k
  · subst q
    rw [if_pos rfl, up_at, d r h1 h2]
  · rw [if_neg q, up_t q]
    exact d r h1 h2
def isR (r : Int32) : Prop := ∃ k, 1 ≤ k ∧ k ≤ 10 ∧ r = nI k
theorem s_X8_refuse {r : Int32} (hC : CG M g) (hr : isR r) (h : ∀ M', CG M' (refG g r) → Fr dAc M M' → P (.inl (some (.int (-r)))) M') : Sp E yX8_refuse cX8_refuse zX8_refuse [.ref (ad E 0 0 0), .int r] M P := by
  obtain ⟨k, h1, h2, rfl⟩ := hr
  refine Sp_of (own := RX8) (by decide) rfl rfl (Nat.le_of_ble_eq_true rfl) (fun C => ?_)
  refine G_iload_n dX8_refuse_0 rfl ?_
  refine G_if_le (tgt := 23) dX8_refuse_1 (by decide) (fun c1 => ?_) (fun c1 => ?_)
  · exact absurd c1 (nI_nle (by omega) (by omega))
  · refine G_iload_n dX8_refuse_4 rfl ?_
    refine G_aload_n dX8_refuse_5 rfl ?_
    refine gf_X8_48 dX8_refuse_6  ?_
    refine G_alen (t := 0) (ty := .int) (k := 19) (j := 0) (p := 0) (x := (11, .inl (M.1 19 0 0))) dX8_refuse_9 ⟨by decide, rfl, rfl⟩ rfl rfl rfl ?_
    refine G_icmp_ge (tgt := 23) dX8_refuse_10 (by decide) (fun c10 => ?_) (fun c10 => ?_)
    · exact absurd (show nI 11 ≤ nI k from c10) (nI_ge (by omega) (by decide))
    · refine G_aload_n dX8_refuse_13 rfl ?_
      refine gf_X8_48 dX8_refuse_14  ?_
      refine G_iload_n dX8_refuse_17 rfl ?_
      refine G_dup2 dX8_refuse_18 rfl rfl ?_
      refine G_iald dX8_refuse_19 ⟨by decide, rfl, rfl⟩ rfl rfl (show k < 11 by omega) (by decide) ?_
      refine G_iconst (v := 1) dX8_refuse_20 (by decide) ?_
      refine G_iadd dX8_refuse_21 ?_
      refine G_iast dX8_refuse_22 ⟨by decide, rfl, rfl⟩ (fun _ => rfl) rfl (show k < 11 by omega) (by decide) ?_
      refine G_iload_n dX8_refuse_23 rfl ?_
      refine G_ineg dX8_refuse_24 ?_
      refine G_iret dX8_refuse_25 rfl rfl (Nat.le_of_ble_eq_true rfl) (Nat.le_of_ble_eq_true rfl) ?_
      exact h _ (hC.refd h1 h2) (Fr.rfl.up ⟨by decide, by decide⟩)
theorem isR_of {r : Int32} (h : r = 1 ∨ r = 2 ∨ r = 3 ∨ r = 4 ∨ r = 5 ∨ r = 6 ∨ r = 7 ∨ r = 8 ∨ r = 9 ∨ r = 10) : isR r := by
  rcases h with h | h | h | h | h | h | h | h | h | h
  · exact ⟨1, by decide, by decide, h⟩
  · exact ⟨2, by decide, by decide, h⟩
  · exact ⟨3, by decide, by decide, h⟩
  · exact ⟨4, by decide, by decide, h⟩
  · exact ⟨5, by decide, by decide, h⟩
  · exact ⟨6, by decide, by decide, h⟩
  · exact ⟨7, by decide, by decide, h⟩
  · exact ⟨8, by decide, by decide, h⟩
  · exact ⟨9, by decide, by decide, h⟩
  · exact ⟨10, by decide, by decide, h⟩
theorem room_ok {n l : Nat} (hn : n ≤ 20) (hl : l ≤ 20) (h : nI n ≤ 20 - nI l) : l + n ≤ 20 := by
  rw [show (20 : Int32) = nI 20 from rfl, nI_subN hl] at h
  have := (nI_leI (by omega) (by omega)).mp h
  omega
theorem rMake_c0 {x s n : Nat} : rMake A x s n = 0 ∨ isR (rMake A x s n) := by
  unfold rMake
  split
  · exact Or.inr (isR_of (by decide))
  · split
    · exact Or.inl rfl
    · exact Or.inr (isR_of (by decide))
theorem rMake_R {x s n : Nat} (h : rMake A x s n ≠ 0) : isR (rMake A x s n) := rMake_c0.resolve_left h
theorem rMake_0 {x s n : Nat} (hl : (A.s (2 * x + s)).length ≤ 20) (hn : n ≤ 20) (h : rMake A x s n = 0) : (A.s (2 * x + s)).length + n ≤ 20 := by
  unfold rMake at h
  split at h
  · exact absurd h (by decide)
  · split at h
    · exact room_ok hn hl (by assumption)
    · exact absurd h (by decide)
theorem rGive_0 {x y s n : Nat} (hl : (A.s (2 * x + s)).length ≤ 20) (hl2 : (A.s (2 * y + s)).length ≤ 20) (hn : n ≤ 20) (h : rGive A x y s n = 0) : n ≤ (A.s (2 * x + s)).length ∧ (A.s (2 * y + s)).length + n ≤ 20 := by
  unfold rGive at h
  split at h
  · exact absurd h (by decide)
  · split at h
    · exact absurd h (by decide)
    · split at h
      · refine ⟨?_, room_ok hn hl2 (by assumption)⟩
        rename_i q _
        rcases Nat.lt_or_ge (A.s (2 * x + s)).length n with z | z
        · exact absurd (nI_lt z (by omega)) q
        · exact z
      · exact absurd h (by decide)
theorem rGive_c {x y s n : Nat} : rGive A x y s n = 0 ∨ rGive A x y s n = 1 ∨ rGive A x y s n = 3 ∨ rGive A x y s n = 4 := by
  unfold rGive
  split
  · exact Or.inr (Or.inl rfl)
  · split
    · exact Or.inr (Or.inr (Or.inr rfl))
    · split
      · exact Or.inl rfl
      · exact Or.inr (Or.inr (Or.inl rfl))
theorem rSwap_c0 {x y n m : Nat} : rSwap A x y n m = 0 ∨ isR (rSwap A x y n m) := by
  unfold rSwap
  split
  · exact Or.inr (isR_of (by decide))
  · split
    · exact Or.inr (isR_of (by decide))
    · split
      · exact Or.inr (isR_of (by decide))
      · split
        · exact Or.inl rfl
        · exact Or.inr (isR_of (by decide))
theorem rSwap_R {x y n m : Nat} (h : rSwap A x y n m ≠ 0) : isR (rSwap A x y n m) := rSwap_c0.resolve_left h
theorem nlt_le {l n : Nat} (hl : l ≤ 20) (hn : n ≤ 20) (h : ¬ nI l < nI n) : n ≤ l := by
  rcases Nat.lt_or_ge l n with z | z
  · exact absurd (nI_lt z (by omega)) h
  · exact z
theorem rSwap_0 {x y n m : Nat} (hl : ∀ q, q = 2 * x ∨ q = 2 * x + 1 ∨ q = 2 * y ∨ q = 2 * y + 1 → (A.s q).length ≤ 20) (hn : n ≤ 20) (hm : m ≤ 20) (h : rSwap A x y n m = 0) : x ≠ y ∧ (n ≤ (A.s (2 * x)).length ∧ m ≤ (A.s (2 * y + 1)).length) ∧ (A.s (2 * y)).length + n ≤ 20 ∧ (A.s (2 * x + 1)).length + m ≤ 20 := by
  unfold rSwap at h
  split at h
  · exact absurd h (by decide)
  · split at h
    · exact absurd h (by decide)
    · split at h
      · exact absurd h (by decide)
      · split at h
        · rename_i a _ b c
          exact ⟨a, ⟨nlt_le (hl _ (by omega)) hn (fun q => b (Or.inl q)), nlt_le (hl _ (by omega)) hm (fun q => b (Or.inr q))⟩, room_ok hn (hl _ (by omega)) c.1, room_ok hm (hl _ (by omega)) c.2⟩
        · exact absurd h (by decide)
theorem rLend_c0 {x y s n : Nat} : rLend A x y s n = 0 ∨ isR (rLend A x y s n) := by
  unfold rLend
  rcases rGive_c (A := A) (x := x) (y := y) (s := s) (n := n) with e | e | e | e <;> rw [e]
  · split
    · exact Or.inr (isR_of (by decide))
    · rw [if_neg (by decide)]
      split
      · split
        · exact Or.inl rfl
        · exact Or.inr (isR_of (by decide))
      · split
        · exact Or.inl rfl
        · exact Or.inr (isR_of (by decide))
  · split
    · exact Or.inr (isR_of (by decide))
    · rw [if_pos (by decide)]
      exact Or.inr (isR_of (by decide))
  · split
    · exact Or.inr (isR_of (by decide))
    · rw [if_pos (by decide)]
      exact Or.inr (isR_of (by decide))
  · split
    · exact Or.inr (isR_of (by decide))
    · rw [if_pos (by decide)]
      exact Or.inr (isR_of (by decide))
theorem rLend_R {x y s n : Nat} (h : rLend A x y s n ≠ 0) : isR (rLend A x y s n) := rLend_c0.resolve_left h
theorem rLend_0 {x y s n : Nat} (hl : (A.s (2 * x + s)).length ≤ 20) (hl2 : (A.s (2 * y + s)).length ≤ 20) (hn : n ≤ 20) (h : rLend A x y s n = 0) : x ≠ y ∧ (n ≤ (A.s (2 * x + s)).length ∧ (A.s (2 * y + s)).length + n ≤ 20) ∧ canG A.d (nI y) (nI x) (nI (1 - s)) (nI n) := by
  unfold rLend at h
  split at h
  · exact absurd h (by decide)
  · split at h
    · exact absurd h (by assumption)
    · rename_i a b
      refine ⟨a, rGive_0 hl hl2 hn (Classical.not_not.mp b), ?_⟩
      unfold canG
      split at h
      · rename_i c
        rw [if_pos c]
        split at h
        · assumption
        · exact absurd h (by decide)
      · rename_i c
        rw [if_neg c]
        split at h
        · assumption
        · exact absurd h (by decide)
theorem rPay_c0 {x y s n : Nat} : rPay A x y s n = 0 ∨ isR (rPay A x y s n) := by
  unfold rPay
  rcases rGive_c (A := A) (x := x) (y := y) (s := s) (n := n) with e | e | e | e <;> rw [e]
  · split
    · exact Or.inr (isR_of (by decide))
    · split
      · exact Or.inr (isR_of (by decide))
      · exact Or.inl rfl
  · split
    · exact Or.inr (isR_of (by decide))
    · split
      · exact Or.inr (isR_of (by decide))
      · exact Or.inr (isR_of (by decide))
  · split
    · exact Or.inr (isR_of (by decide))
    · split
      · exact Or.inr (isR_of (by decide))
      · exact Or.inr (isR_of (by decide))
  · split
    · exact Or.inr (isR_of (by decide))
    · split
      · exact Or.inr (isR_of (by decide))
      · exact Or.inr (isR_of (by decide))
theorem rPay_R {x y s n : Nat} (h : rPay A x y s n ≠ 0) : isR (rPay A x y s n) := rPay_c0.resolve_left h
theorem rPay_0 {x y s n : Nat} (hl : (A.s (2 * x + s)).length ≤ 20) (hl2 : (A.s (2 * y + s)).length ≤ 20) (hn1 : 1 ≤ n) (hn : n ≤ 20) (h : rPay A x y s n = 0) : x ≠ y ∧ (n ≤ (A.s (2 * x + s)).length ∧ (A.s (2 * y + s)).length + n ≤ 20) ∧ fnd A.d (nI x) (nI y) (nI s) ≠ -1 ∧ ¬ owedV A.d (nI x) (nI y) (nI s) < nI n := by
  unfold rPay at h
  split at h
  · exact absurd h (by decide)
  · split at h
    · exact absurd h (by decide)
    · rename_i a b
      refine ⟨a, rGive_0 hl hl2 hn h, fun q => b ?_, b⟩
      unfold owedV
      rw [if_pos q]
      exact nI_lt (a := 0) (by omega) (by omega)
theorem rMove_c0 {x : Nat} {r t : Int32} : rMove A x r t = 0 ∨ isR (rMove A x r t) := by
  unfold rMove
  split
  · exact Or.inr (isR_of (by decide))
  · split
    · exact Or.inl rfl
    · exact Or.inr (isR_of (by decide))
theorem rMove_R {x : Nat} {r t : Int32} (h : rMove A x r t ≠ 0) : isR (rMove A x r t) := rMove_c0.resolve_left h
theorem Ok.l20 {q : Nat} (h : Ok A) (hq : q < 2 * A.n) : (A.s q).length ≤ 20 := (h.2.2.2.1 q hq).1
def sWork (g : Gs) (p s n : Nat) : Gs × Int32 := if rMake g.A p s n = 0 then (actG g (makeA g.A p s n), g.A.f p 5 - nI n * (10 - g.A.f p (2 + s))) else (refG g (rMake g.A p s n), -rMake g.A p s n)
def sSwap (g : Gs) (x y n m : Nat) : Gs × Int32 := if rSwap g.A x y n m = 0 then (actG g (swapA g.A x y n m), bc (seersV g.A x y)) else (refG g (rSwap g.A x y n m), -rSwap g.A x y n m)
def sLend (g : Gs) (x y s n : Nat) : Gs × Int32 := if rLend g.A x y s n = 0 then (actG g (lendA g.A x y s n), lendV g.A.d (nI y) (nI x) (nI (1 - s)) (nI n)) else (refG g (rLend g.A x y s n), -rLend g.A x y s n)
def sPay (g : Gs) (x y s n : Nat) : Gs × Int32 := if rPay g.A x y s n = 0 then (actG g (payA g.A x y s n), payV g.A.d (nI x) (nI y) (nI s) (nI n)) else (refG g (rPay g.A x y s n), -rPay g.A x y s n)
def sMove (g : Gs) (x : Nat) (r t : Int32) : Gs × Int32 := if rMove g.A x r t = 0 then (actG g (seatA g.A x r t), bc (nearsV (seatA g.A x r t) x)) else (refG g (rMove g.A x r t), -rMove g.A x r t)
def sConfess (g : Gs) (x : Nat) : Gs × Int32 := if g.A.f x 6 = 0 then (refG g 8, -8) else (actG g (admitA g.A x), g.A.f x 6 / 2)
def sPass (g : Gs) (n : Nat) : Gs × Int32 := if 999 < g.A.g 1 + nI n then (refG g 10, -10) else (actG g (wks g.A n), wksP g.A n)
theorem Okg.ref {r : Int32} (h : Okg g) : Okg (refG g r) := h
theorem pushU_ok {U : List Ab} (h : ∀ i, i < U.length → Ok (ug U i)) (hA : Ok A) : ∀ i, i < (pushU U A).length → Ok (ug (pushU U A) i) := by
  unfold pushU
  have key : ∀ V : List Ab, (∀ i, i < V.length → Ok (ug V i)) → ∀ i, i < (V ++ [A]).length → Ok (ug (V ++ [A]) i) := fun V hV i hi => by
    rw [List.length_append] at hi
    have hi' : i < V.length + 1 := hi
    by_cases e : i = V.length
    · subst e
      rw [ug_end]
      exact hA
    · rw [ug_app (by omega)]
      exact hV i (by omega)
  split
  · exact key U h
  · refine key U.tail (fun i hi => ?_)
    rw [ug_tail]
    rw [List.length_tail] at hi
    exact h (i + 1) (by omega)
theorem Okg.act {B : Ab} (h : Okg g) (hB : Ok B) : Okg (actG g B) := ⟨hB, pushU_ok h.2.1 h.1, h.2.2⟩
theorem sWork_ok {p s n : Nat} (h : Okg g) (hp : p < g.A.n) (hs : s < 2) (hn : n ≤ 20) : Okg (sWork g p s n).1 := by
  unfold sWork
  split
  · exact h.act (makeA_ok h.1 hp hs (rMake_0 (h.1.l20 (by omega)) hn (by assumption)))
  · exact h.ref
theorem sSwap_ok {x y n m : Nat} (h : Okg g) (hx : x < g.A.n) (hy : y < g.A.n) (hn : n ≤ 20) (hm : m ≤ 20) : Okg (sSwap g x y n m).1 := by
  unfold sSwap
  split
  · rename_i q0
    obtain ⟨-, -, a, b⟩ := rSwap_0 (x := x) (y := y) (fun q hq => h.1.l20 (by omega)) hn hm q0
    exact h.act (swapA_ok h.1 hx hy a b)
  · exact h.ref
theorem sLend_ok {x y s n : Nat} (h : Okg g) (hx : x < g.A.n) (hy : y < g.A.n) (hs : s < 2) (hn1 : 1 ≤ n) (hn : n ≤ 20) : Okg (sLend g x y s n).1 := by
  unfold sLend
  split
  · rename_i q0
    obtain ⟨-, a, b⟩ := rLend_0 (x := x) (y := y) (s := s) (h.1.l20 (by omega)) (h.1.l20 (by omega)) hn q0
    exact h.act (lendA_ok h.1 hx hy hs hn1 hn a.2 b)
  · exact h.ref
theorem sPay_ok {x y s n : Nat} (h : Okg g) (hx : x < g.A.n) (hy : y < g.A.n) (hs : s < 2) (hn1 : 1 ≤ n) (hn : n ≤ 20) : Okg (sPay g x y s n).1 := by
  unfold sPay
  split
  · rename_i q0
    obtain ⟨-, a, b, c⟩ := rPay_0 (x := x) (y := y) (s := s) (h.1.l20 (by omega)) (h.1.l20 (by omega)) hn1 hn q0
    exact h.act (payA_ok h.1 hx hy hs hn1 hn a.2 b c)
  · exact h.ref
theorem sMove_ok {x : Nat} {r t : Int32} (h : Okg g) : Okg (sMove g x r t).1 := by
  unfold sMove
  split
  · exact h.act (seatA_ok h.1)
  · exact h.ref
theorem sConfess_ok {x : Nat} (h : Okg g) : Okg (sConfess g x).1 := by
  unfold sConfess
  split
  · exact h.ref
  · exact h.act (admitA_ok h.1)
theorem sPass_ok {n : Nat} (h : Okg g) : Okg (sPass g n).1 := by
  unfold sPass
  split
  · exact h.ref
  · exact h.act (wks_ok h.1 n)
theorem s_X8_doWork {p s n : Nat} (hC : CG M g) (hO : Okg g) (hp : p < g.A.n) (hs : s < 2) (hn : n ≤ 20) (h : ∀ M', CG M' (sWork g p s n).1 → Fr dAc M M' → P (.inl (some (.int (sWork g p s n).2))) M') : Sp E yX8_doWork cX8_doWork zX8_doWork [.ref (ad E 0 0 0), .int (nI p), .int (nI s), .int (nI n)] M P := by
  have hA := hC.1
  unfold sWork at h
  refine Sp_of (own := RX8) (by decide) rfl rfl (Nat.le_of_ble_eq_true rfl) (fun C => ?_)
  refine G_aload_n dX8_doWork_0 rfl ?_
  refine gf_X8_26 dX8_doWork_1  ?_
  refine G_iload_n dX8_doWork_4 rfl ?_
  refine G_iload_n dX8_doWork_5 rfl ?_
  refine G_iload_n dX8_doWork_6 rfl ?_
  refine cv_X8_388 (cs' := 0) (ss' := 0) dX8_doWork_7 (by decide) (Nat.le_of_ble_eq_true rfl) (Nat.le_of_ble_eq_true rfl) (Nat.le_of_ble_eq_true rfl) rfl rfl (Nat.le_of_ble_eq_true rfl) (Nat.le_of_ble_eq_true rfl) rfl ?_
  refine s_X3_reasonAgainstMaking (by decide) hA hp hs (hGo_i ?_)
  refine G_istore dX8_doWork_10 (Nat.le_of_ble_eq_true rfl) ?_
  refine G_iload dX8_doWork_12 rfl ?_
  refine G_if_eq (tgt := 24) dX8_doWork_14 (by decide) (fun c14 => ?_) (fun c14 => ?_)
  · rw [if_pos c14] at h
    refine G_aload_n dX8_doWork_24 rfl ?_
    refine gf_X8_36 dX8_doWork_25  ?_
    refine G_aload_n dX8_doWork_28 rfl ?_
    refine gf_X8_26 dX8_doWork_29  ?_
    refine cv_X8_394 (cs' := 0) (ss' := 0) dX8_doWork_32  (Nat.le_of_ble_eq_true rfl) (Nat.le_of_ble_eq_true rfl) (Nat.le_of_ble_eq_true rfl) rfl rfl (Nat.le_of_ble_eq_true rfl) (Nat.le_of_ble_eq_true rfl) rfl ?_
    refine s_X7_remember hA hO.1 hC.2.1 (fun M1 u1 f1 => hGo_v ?_)
    have g1 := hC.und u1 f1
    
    refine G_aload_n dX8_doWork_35 rfl ?_
    refine gf_X8_26 dX8_doWork_36  ?_
    refine G_iload_n dX8_doWork_39 rfl ?_
    refine G_iload_n dX8_doWork_40 rfl ?_
    refine G_iload_n dX8_doWork_41 rfl ?_
    refine cv_X8_397 (cs' := 0) (ss' := 0) dX8_doWork_42 (by decide) (Nat.le_of_ble_eq_true rfl) (Nat.le_of_ble_eq_true rfl) (Nat.le_of_ble_eq_true rfl) rfl rfl (Nat.le_of_ble_eq_true rfl) (Nat.le_of_ble_eq_true rfl) rfl ?_
    refine s_X3_makePieces (by decide) g1.1 hp hs (rMake_0 (hO.1.l20 (by omega)) hn c14) (fun M2 a2 f2 => hGo_i ?_)
    refine G_iret dX8_doWork_45 rfl rfl (Nat.le_of_ble_eq_true rfl) (Nat.le_of_ble_eq_true rfl) ?_
    exact h M2 (g1.act a2 f2) ((f1.mono dAc_U).trans (f2.mono dAc_C))
  · rw [if_neg c14] at h
    refine G_aload_n dX8_doWork_17 rfl ?_
    refine G_iload dX8_doWork_18 rfl ?_
    refine cv_X8_391 (cs' := 0) (ss' := 0) dX8_doWork_20  (Nat.le_of_ble_eq_true rfl) (Nat.le_of_ble_eq_true rfl) (Nat.le_of_ble_eq_true rfl) rfl rfl (Nat.le_of_ble_eq_true rfl) (Nat.le_of_ble_eq_true rfl) rfl ?_
    refine s_X8_refuse hC (rMake_R c14) (fun M1 g1 f1 => hGo_i ?_)
    refine G_iret dX8_doWork_23 rfl rfl (Nat.le_of_ble_eq_true rfl) (Nat.le_of_ble_eq_true rfl) ?_
    exact h M1 g1 f1
theorem s_X8_doSwap {x y n m : Nat} (hC : CG M g) (hO : Okg g) (hx : x < g.A.n) (hy : y < g.A.n) (hn : n ≤ 20) (hm : m ≤ 20) (h : ∀ M', CG M' (sSwap g x y n m).1 → Fr dAc M M' → P (.inl (some (.int (sSwap g x y n m).2))) M') : Sp E yX8_doSwap cX8_doSwap zX8_doSwap [.ref (ad E 0 0 0), .int (nI x), .int (nI y), .int (nI n), .int (nI m)] M P := by
  have hA := hC.1
  unfold sSwap at h
  refine Sp_of (own := RX8) (by decide) rfl rfl (Nat.le_of_ble_eq_true rfl) (fun C => ?_)
  refine G_aload_n dX8_doSwap_0 rfl ?_
  refine gf_X8_26 dX8_doSwap_1  ?_
  refine G_iload_n dX8_doSwap_4 rfl ?_
  refine G_iload_n dX8_doSwap_5 rfl ?_
  refine G_iload_n dX8_doSwap_6 rfl ?_
  refine G_iload dX8_doSwap_7 rfl ?_
  refine cv_X8_376 (cs' := 0) (ss' := 0) dX8_doSwap_9 (by decide) (Nat.le_of_ble_eq_true rfl) (Nat.le_of_ble_eq_true rfl) (Nat.le_of_ble_eq_true rfl) rfl rfl (Nat.le_of_ble_eq_true rfl) (Nat.le_of_ble_eq_true rfl) rfl ?_
  refine s_X3_reasonAgainstSwapping (by decide) hA hx hy (hGo_i ?_)
  refine G_istore dX8_doSwap_12 (Nat.le_of_ble_eq_true rfl) ?_
  refine G_iload dX8_doSwap_14 rfl ?_
  refine G_if_eq (tgt := 26) dX8_doSwap_16 (by decide) (fun c16 => ?_) (fun c16 => ?_)
  · rw [if_pos c16] at h
    refine G_aload_n dX8_doSwap_26 rfl ?_
    refine gf_X8_36 dX8_doSwap_27  ?_
    refine G_aload_n dX8_doSwap_30 rfl ?_
    refine gf_X8_26 dX8_doSwap_31  ?_
    refine cv_X8_394 (cs' := 0) (ss' := 0) dX8_doSwap_34  (Nat.le_of_ble_eq_true rfl) (Nat.le_of_ble_eq_true rfl) (Nat.le_of_ble_eq_true rfl) rfl rfl (Nat.le_of_ble_eq_true rfl) (Nat.le_of_ble_eq_true rfl) rfl ?_
    refine s_X7_remember hA hO.1 hC.2.1 (fun M1 u1 f1 => hGo_v ?_)
    have g1 := hC.und u1 f1
    have q := rSwap_0 (fun q hq => hO.1.l20 (by omega)) hn hm c16
    refine G_aload_n dX8_doSwap_37 rfl ?_
    refine gf_X8_26 dX8_doSwap_38  ?_
    refine G_iload_n dX8_doSwap_41 rfl ?_
    refine G_iload_n dX8_doSwap_42 rfl ?_
    refine G_iload_n dX8_doSwap_43 rfl ?_
    refine G_iload dX8_doSwap_44 rfl ?_
    refine cv_X8_400 (cs' := 0) (ss' := 0) dX8_doSwap_46 (by decide) (Nat.le_of_ble_eq_true rfl) (Nat.le_of_ble_eq_true rfl) (Nat.le_of_ble_eq_true rfl) rfl rfl (Nat.le_of_ble_eq_true rfl) (Nat.le_of_ble_eq_true rfl) rfl ?_
    refine s_X3_swapPieces (by decide) g1.1 hx hy q.1 q.2.1.1 q.2.1.2 q.2.2.1 q.2.2.2 (fun M2 a2 f2 => hGo_i ?_)
    refine G_iret dX8_doSwap_49 rfl rfl (Nat.le_of_ble_eq_true rfl) (Nat.le_of_ble_eq_true rfl) ?_
    exact h M2 (g1.act a2 f2) ((f1.mono dAc_U).trans (f2.mono dAc_C))
  · rw [if_neg c16] at h
    refine G_aload_n dX8_doSwap_19 rfl ?_
    refine G_iload dX8_doSwap_20 rfl ?_
    refine cv_X8_391 (cs' := 0) (ss' := 0) dX8_doSwap_22  (Nat.le_of_ble_eq_true rfl) (Nat.le_of_ble_eq_true rfl) (Nat.le_of_ble_eq_true rfl) rfl rfl (Nat.le_of_ble_eq_true rfl) (Nat.le_of_ble_eq_true rfl) rfl ?_
    refine s_X8_refuse hC (rSwap_R c16) (fun M1 g1 f1 => hGo_i ?_)
    refine G_iret dX8_doSwap_25 rfl rfl (Nat.le_of_ble_eq_true rfl) (Nat.le_of_ble_eq_true rfl) ?_
    exact h M1 g1 f1
theorem s_X8_doLend {x y s n : Nat} (hC : CG M g) (hO : Okg g) (hx : x < g.A.n) (hy : y < g.A.n) (hs : s < 2) (hn : n ≤ 20) (h : ∀ M', CG M' (sLend g x y s n).1 → Fr dAc M M' → P (.inl (some (.int (sLend g x y s n).2))) M') : Sp E yX8_doLend cX8_doLend zX8_doLend [.ref (ad E 0 0 0), .int (nI x), .int (nI y), .int (nI s), .int (nI n)] M P := by
  have hA := hC.1
  unfold sLend at h
  refine Sp_of (own := RX8) (by decide) rfl rfl (Nat.le_of_ble_eq_true rfl) (fun C => ?_)
  refine G_aload_n dX8_doLend_0 rfl ?_
  refine gf_X8_26 dX8_doLend_1  ?_
  refine G_iload_n dX8_doLend_4 rfl ?_
  refine G_iload_n dX8_doLend_5 rfl ?_
  refine G_iload_n dX8_doLend_6 rfl ?_
  refine G_iload dX8_doLend_7 rfl ?_
  refine cv_X8_382 (cs' := 0) (ss' := 0) dX8_doLend_9 (by decide) (Nat.le_of_ble_eq_true rfl) (Nat.le_of_ble_eq_true rfl) (Nat.le_of_ble_eq_true rfl) rfl rfl (Nat.le_of_ble_eq_true rfl) (Nat.le_of_ble_eq_true rfl) rfl ?_
  refine s_X3_reasonAgainstLending (by decide) hA hx hy hs (hGo_i ?_)
  refine G_istore dX8_doLend_12 (Nat.le_of_ble_eq_true rfl) ?_
  refine G_iload dX8_doLend_14 rfl ?_
  refine G_if_eq (tgt := 26) dX8_doLend_16 (by decide) (fun c16 => ?_) (fun c16 => ?_)
  · rw [if_pos c16] at h
    refine G_aload_n dX8_doLend_26 rfl ?_
    refine gf_X8_36 dX8_doLend_27  ?_
    refine G_aload_n dX8_doLend_30 rfl ?_
    refine gf_X8_26 dX8_doLend_31  ?_
    refine cv_X8_394 (cs' := 0) (ss' := 0) dX8_doLend_34  (Nat.le_of_ble_eq_true rfl) (Nat.le_of_ble_eq_true rfl) (Nat.le_of_ble_eq_true rfl) rfl rfl (Nat.le_of_ble_eq_true rfl) (Nat.le_of_ble_eq_true rfl) rfl ?_
    refine s_X7_remember hA hO.1 hC.2.1 (fun M1 u1 f1 => hGo_v ?_)
    have g1 := hC.und u1 f1
    have q := rLend_0 (hO.1.l20 (by omega)) (hO.1.l20 (by omega)) hn c16
    refine G_aload_n dX8_doLend_37 rfl ?_
    refine gf_X8_26 dX8_doLend_38  ?_
    refine G_iload_n dX8_doLend_41 rfl ?_
    refine G_iload_n dX8_doLend_42 rfl ?_
    refine G_iload_n dX8_doLend_43 rfl ?_
    refine G_iload dX8_doLend_44 rfl ?_
    refine cv_X8_403 (cs' := 0) (ss' := 0) dX8_doLend_46 (by decide) (Nat.le_of_ble_eq_true rfl) (Nat.le_of_ble_eq_true rfl) (Nat.le_of_ble_eq_true rfl) rfl rfl (Nat.le_of_ble_eq_true rfl) (Nat.le_of_ble_eq_true rfl) rfl ?_
    refine s_X3_lendPieces (by decide) g1.1 hx hy hs q.1 q.2.1.1 q.2.1.2 q.2.2 (fun M2 a2 f2 => hGo_i ?_)
    refine G_iret dX8_doLend_49 rfl rfl (Nat.le_of_ble_eq_true rfl) (Nat.le_of_ble_eq_true rfl) ?_
    exact h M2 (g1.act a2 f2) ((f1.mono dAc_U).trans (f2.mono dAc_C))
  · rw [if_neg c16] at h
    refine G_aload_n dX8_doLend_19 rfl ?_
    refine G_iload dX8_doLend_20 rfl ?_
    refine cv_X8_391 (cs' := 0) (ss' := 0) dX8_doLend_22  (Nat.le_of_ble_eq_true rfl) (Nat.le_of_ble_eq_true rfl) (Nat.le_of_ble_eq_true rfl) rfl rfl (Nat.le_of_ble_eq_true rfl) (Nat.le_of_ble_eq_true rfl) rfl ?_
    refine s_X8_refuse hC (rLend_R c16) (fun M1 g1 f1 => hGo_i ?_)
    refine G_iret dX8_doLend_25 rfl rfl (Nat.le_of_ble_eq_true rfl) (Nat.le_of_ble_eq_true rfl) ?_
    exact h M1 g1 f1
theorem s_X8_doPay {x y s n : Nat} (hC : CG M g) (hO : Okg g) (hx : x < g.A.n) (hy : y < g.A.n) (hs : s < 2) (hn1 : 1 ≤ n) (hn : n ≤ 20) (h : ∀ M', CG M' (sPay g x y s n).1 → Fr dAc M M' → P (.inl (some (.int (sPay g x y s n).2))) M') : Sp E yX8_doPay cX8_doPay zX8_doPay [.ref (ad E 0 0 0), .int (nI x), .int (nI y), .int (nI s), .int (nI n)] M P := by
  have hA := hC.1
  unfold sPay at h
  refine Sp_of (own := RX8) (by decide) rfl rfl (Nat.le_of_ble_eq_true rfl) (fun C => ?_)
  refine G_aload_n dX8_doPay_0 rfl ?_
  refine gf_X8_26 dX8_doPay_1  ?_
  refine G_iload_n dX8_doPay_4 rfl ?_
  refine G_iload_n dX8_doPay_5 rfl ?_
  refine G_iload_n dX8_doPay_6 rfl ?_
  refine G_iload dX8_doPay_7 rfl ?_
  refine cv_X8_344 (cs' := 0) (ss' := 0) dX8_doPay_9 (by decide) (Nat.le_of_ble_eq_true rfl) (Nat.le_of_ble_eq_true rfl) (Nat.le_of_ble_eq_true rfl) rfl rfl (Nat.le_of_ble_eq_true rfl) (Nat.le_of_ble_eq_true rfl) rfl ?_
  refine s_X3_reasonAgainstPaying (by decide) hA hx hy hs (hGo_i ?_)
  refine G_istore dX8_doPay_12 (Nat.le_of_ble_eq_true rfl) ?_
  refine G_iload dX8_doPay_14 rfl ?_
  refine G_if_eq (tgt := 26) dX8_doPay_16 (by decide) (fun c16 => ?_) (fun c16 => ?_)
  · rw [if_pos c16] at h
    refine G_aload_n dX8_doPay_26 rfl ?_
    refine gf_X8_36 dX8_doPay_27  ?_
    refine G_aload_n dX8_doPay_30 rfl ?_
    refine gf_X8_26 dX8_doPay_31  ?_
    refine cv_X8_394 (cs' := 0) (ss' := 0) dX8_doPay_34  (Nat.le_of_ble_eq_true rfl) (Nat.le_of_ble_eq_true rfl) (Nat.le_of_ble_eq_true rfl) rfl rfl (Nat.le_of_ble_eq_true rfl) (Nat.le_of_ble_eq_true rfl) rfl ?_
    refine s_X7_remember hA hO.1 hC.2.1 (fun M1 u1 f1 => hGo_v ?_)
    have g1 := hC.und u1 f1
    have q := rPay_0 (hO.1.l20 (by omega)) (hO.1.l20 (by omega)) hn1 hn c16
    refine G_aload_n dX8_doPay_37 rfl ?_
    refine gf_X8_26 dX8_doPay_38  ?_
    refine G_iload_n dX8_doPay_41 rfl ?_
    refine G_iload_n dX8_doPay_42 rfl ?_
    refine G_iload_n dX8_doPay_43 rfl ?_
    refine G_iload dX8_doPay_44 rfl ?_
    refine cv_X8_406 (cs' := 0) (ss' := 0) dX8_doPay_46 (by decide) (Nat.le_of_ble_eq_true rfl) (Nat.le_of_ble_eq_true rfl) (Nat.le_of_ble_eq_true rfl) rfl rfl (Nat.le_of_ble_eq_true rfl) (Nat.le_of_ble_eq_true rfl) rfl ?_
    refine s_X3_payPieces (by decide) g1.1 hx hy hs q.1 q.2.1.1 q.2.1.2 q.2.2.1 (fun M2 a2 f2 => hGo_i ?_)
    refine G_iret dX8_doPay_49 rfl rfl (Nat.le_of_ble_eq_true rfl) (Nat.le_of_ble_eq_true rfl) ?_
    exact h M2 (g1.act a2 f2) ((f1.mono dAc_U).trans (f2.mono dAc_C))
  · rw [if_neg c16] at h
    refine G_aload_n dX8_doPay_19 rfl ?_
    refine G_iload dX8_doPay_20 rfl ?_
    refine cv_X8_391 (cs' := 0) (ss' := 0) dX8_doPay_22  (Nat.le_of_ble_eq_true rfl) (Nat.le_of_ble_eq_true rfl) (Nat.le_of_ble_eq_true rfl) rfl rfl (Nat.le_of_ble_eq_true rfl) (Nat.le_of_ble_eq_true rfl) rfl ?_
    refine s_X8_refuse hC (rPay_R c16) (fun M1 g1 f1 => hGo_i ?_)
    refine G_iret dX8_doPay_25 rfl rfl (Nat.le_of_ble_eq_true rfl) (Nat.le_of_ble_eq_true rfl) ?_
    exact h M1 g1 f1
theorem s_X8_doMove {x : Nat} {r t : Int32} (hC : CG M g) (hO : Okg g) (hx : x < g.A.n) (h : ∀ M', CG M' (sMove g x r t).1 → Fr dAc M M' → P (.inl (some (.int (sMove g x r t).2))) M') : Sp E yX8_doMove cX8_doMove zX8_doMove [.ref (ad E 0 0 0), .int (nI x), .int r, .int t] M P := by
  have hA := hC.1
  unfold sMove at h
  refine Sp_of (own := RX8) (by decide) rfl rfl (Nat.le_of_ble_eq_true rfl) (fun C => ?_)
  refine G_aload_n dX8_doMove_0 rfl ?_
  refine gf_X8_26 dX8_doMove_1  ?_
  refine G_iload_n dX8_doMove_4 rfl ?_
  refine G_iload_n dX8_doMove_5 rfl ?_
  refine G_iload_n dX8_doMove_6 rfl ?_
  refine cv_X8_409 (cs' := 0) (ss' := 0) dX8_doMove_7 (by decide) (Nat.le_of_ble_eq_true rfl) (Nat.le_of_ble_eq_true rfl) (Nat.le_of_ble_eq_true rfl) rfl rfl (Nat.le_of_ble_eq_true rfl) (Nat.le_of_ble_eq_true rfl) rfl ?_
  refine s_X3_reasonAgainstMoving (by decide) hA hx (hGo_i ?_)
  refine G_istore dX8_doMove_10 (Nat.le_of_ble_eq_true rfl) ?_
  refine G_iload dX8_doMove_12 rfl ?_
  refine G_if_eq (tgt := 24) dX8_doMove_14 (by decide) (fun c14 => ?_) (fun c14 => ?_)
  · rw [if_pos c14] at h
    refine G_aload_n dX8_doMove_24 rfl ?_
    refine gf_X8_36 dX8_doMove_25  ?_
    refine G_aload_n dX8_doMove_28 rfl ?_
    refine gf_X8_26 dX8_doMove_29  ?_
    refine cv_X8_394 (cs' := 0) (ss' := 0) dX8_doMove_32  (Nat.le_of_ble_eq_true rfl) (Nat.le_of_ble_eq_true rfl) (Nat.le_of_ble_eq_true rfl) rfl rfl (Nat.le_of_ble_eq_true rfl) (Nat.le_of_ble_eq_true rfl) rfl ?_
    refine s_X7_remember hA hO.1 hC.2.1 (fun M1 u1 f1 => hGo_v ?_)
    have g1 := hC.und u1 f1
    
    refine G_aload_n dX8_doMove_35 rfl ?_
    refine gf_X8_26 dX8_doMove_36  ?_
    refine G_iload_n dX8_doMove_39 rfl ?_
    refine G_iload_n dX8_doMove_40 rfl ?_
    refine G_iload_n dX8_doMove_41 rfl ?_
    refine cv_X8_412 (cs' := 0) (ss' := 0) dX8_doMove_42 (by decide) (Nat.le_of_ble_eq_true rfl) (Nat.le_of_ble_eq_true rfl) (Nat.le_of_ble_eq_true rfl) rfl rfl (Nat.le_of_ble_eq_true rfl) (Nat.le_of_ble_eq_true rfl) rfl ?_
    refine s_X3_seatPupil (by decide) g1.1 hx (fun M2 a2 f2 => hGo_i ?_)
    refine G_iret dX8_doMove_45 rfl rfl (Nat.le_of_ble_eq_true rfl) (Nat.le_of_ble_eq_true rfl) ?_
    exact h M2 (g1.act a2 f2) ((f1.mono dAc_U).trans (f2.mono dAc_C))
  · rw [if_neg c14] at h
    refine G_aload_n dX8_doMove_17 rfl ?_
    refine G_iload dX8_doMove_18 rfl ?_
    refine cv_X8_391 (cs' := 0) (ss' := 0) dX8_doMove_20  (Nat.le_of_ble_eq_true rfl) (Nat.le_of_ble_eq_true rfl) (Nat.le_of_ble_eq_true rfl) rfl rfl (Nat.le_of_ble_eq_true rfl) (Nat.le_of_ble_eq_true rfl) rfl ?_
    refine s_X8_refuse hC (rMove_R c14) (fun M1 g1 f1 => hGo_i ?_)
    refine G_iret dX8_doMove_23 rfl rfl (Nat.le_of_ble_eq_true rfl) (Nat.le_of_ble_eq_true rfl) ?_
    exact h M1 g1 f1
theorem s_X8_doConfess {x : Nat} (hC : CG M g) (hO : Okg g) (hx : x < g.A.n) (h : ∀ M', CG M' (sConfess g x).1 → Fr dAc M M' → P (.inl (some (.int (sConfess g x).2))) M') : Sp E yX8_doConfess cX8_doConfess zX8_doConfess [.ref (ad E 0 0 0), .int (nI x)] M P := by
  have hA := hC.1
  have h12 := hA.n12
  unfold sConfess at h
  refine Sp_of (own := RX8) (by decide) rfl rfl (Nat.le_of_ble_eq_true rfl) (fun C => ?_)
  refine G_aload_n dX8_doConfess_0 rfl ?_
  refine gf_X8_26 dX8_doConfess_1  ?_
  refine gf_X8_203 dX8_doConfess_4 (by decide) ?_
  refine G_iload_n dX8_doConfess_7 rfl ?_
  refine G_aald dX8_doConfess_8 ⟨by decide, rfl⟩ rfl rfl rfl (show x < 12 by omega) (by decide) rfl ?_
  refine gf_X8_225 dX8_doConfess_9 (by decide) (show _ < 12 by omega) ?_
  rw [show M.1 12 0 x 7 = g.A.f x 6 from hA.f hx 6 (by decide)]
  refine G_if_ne (tgt := 22) dX8_doConfess_12 (by decide) (fun c12 => ?_) (fun c12 => ?_)
  · rw [if_neg c12] at h
    refine G_aload_n dX8_doConfess_22 rfl ?_
    refine gf_X8_36 dX8_doConfess_23  ?_
    refine G_aload_n dX8_doConfess_26 rfl ?_
    refine gf_X8_26 dX8_doConfess_27  ?_
    refine cv_X8_394 (cs' := 0) (ss' := 0) dX8_doConfess_30  (Nat.le_of_ble_eq_true rfl) (Nat.le_of_ble_eq_true rfl) (Nat.le_of_ble_eq_true rfl) rfl rfl (Nat.le_of_ble_eq_true rfl) (Nat.le_of_ble_eq_true rfl) rfl ?_
    refine s_X7_remember hA hO.1 hC.2.1 (fun M1 u1 f1 => hGo_v ?_)
    have g1 := hC.und u1 f1
    have a1 : CR M1 0 g.A := g1.1
    refine G_aload_n dX8_doConfess_33 rfl ?_
    refine gf_X8_26 dX8_doConfess_34  ?_
    refine gf_X8_203 dX8_doConfess_37 (by decide) ?_
    refine G_iload_n dX8_doConfess_40 rfl ?_
    refine G_aald dX8_doConfess_41 ⟨by decide, rfl⟩ rfl rfl rfl (show x < 12 by omega) (by decide) rfl ?_
    refine cv_X8_415 (cs' := 0) (ss' := 0) dX8_doConfess_42 (by decide) (show _ < 12 by omega) (Nat.le_of_ble_eq_true rfl) (Nat.le_of_ble_eq_true rfl) (Nat.le_of_ble_eq_true rfl) rfl rfl (Nat.le_of_ble_eq_true rfl) (Nat.le_of_ble_eq_true rfl) rfl ?_
    refine s_X1_admit (by decide) (by omega) (hGo_i ?_)
    rw [show M1.1 12 0 x 7 = g.A.f x 6 from a1.f hx 6 (by decide), show M1.1 12 0 x 8 = g.A.f x 7 from a1.f hx 7 (by decide)]
    refine G_iret dX8_doConfess_45 rfl rfl (Nat.le_of_ble_eq_true rfl) (Nat.le_of_ble_eq_true rfl) ?_
    have b1 : CR (((M1.up 12 0 x 7 (g.A.f x 6 / 2)).up 12 0 x 10 0).up 12 0 x 8 (g.A.f x 7 + 1)) 0 (admitA g.A x) := ((a1.upF (p := x) (t := 6) (by decide)).upF (p := x) (t := 9) (by decide)).upF (p := x) (t := 7) (by decide)
    have fb : Fr (dC 0) M1 (((M1.up 12 0 x 7 (g.A.f x 6 / 2)).up 12 0 x 10 0).up 12 0 x 8 (g.A.f x 7 + 1)) := ((Fr.rfl.upC (by decide) (by decide)).upC (by decide) (by decide)).upC (by decide) (by decide)
    exact h _ (g1.act b1 fb) ((f1.mono dAc_U).trans (fb.mono dAc_C))
  · rw [if_pos c12] at h
    refine G_aload_n dX8_doConfess_15 rfl ?_
    refine G_bipush (v := 8) dX8_doConfess_16 (by decide) ?_
    refine cv_X8_391 (cs' := 0) (ss' := 0) dX8_doConfess_18  (Nat.le_of_ble_eq_true rfl) (Nat.le_of_ble_eq_true rfl) (Nat.le_of_ble_eq_true rfl) rfl rfl (Nat.le_of_ble_eq_true rfl) (Nat.le_of_ble_eq_true rfl) rfl ?_
    refine s_X8_refuse hC (isR_of (by simp)) (fun M1 g1 f1 => hGo_i ?_)
    refine G_iret dX8_doConfess_21 rfl rfl (Nat.le_of_ble_eq_true rfl) (Nat.le_of_ble_eq_true rfl) ?_
    exact h M1 g1 f1
theorem s_X8_doPass {n : Nat} (hC : CG M g) (hO : Okg g) (hn : n ≤ 10) (h : ∀ M', CG M' (sPass g n).1 → Fr dAc M M' → P (.inl (some (.int (sPass g n).2))) M') : Sp E yX8_doPass cX8_doPass zX8_doPass [.ref (ad E 0 0 0), .int (nI n)] M P := by
  have hA := hC.1
  have h12 := hA.n12
  unfold sPass at h
  refine Sp_of (own := RX8) (by decide) rfl rfl (Nat.le_of_ble_eq_true rfl) (fun C => ?_)
  refine G_aload_n dX8_doPass_0 rfl ?_
  refine gf_X8_26 dX8_doPass_1  ?_
  refine gf_X8_159 dX8_doPass_4 (by decide) ?_
  rw [show M.1 7 0 0 4 = g.A.g 1 from hA.g (t := 0) (by decide)]
  refine G_iload_n dX8_doPass_7 rfl ?_
  refine G_iadd dX8_doPass_8 ?_
  refine G_sipush (v := 999) dX8_doPass_9 (by decide) ?_
  refine G_icmp_le (tgt := 22) dX8_doPass_12 (by decide) (fun c12 => ?_) (fun c12 => ?_)
  · rw [if_neg (Int32.not_lt.mpr c12)] at h
    refine G_aload_n dX8_doPass_22 rfl ?_
    refine gf_X8_36 dX8_doPass_23  ?_
    refine G_aload_n dX8_doPass_26 rfl ?_
    refine gf_X8_26 dX8_doPass_27  ?_
    refine cv_X8_394 (cs' := 0) (ss' := 0) dX8_doPass_30  (Nat.le_of_ble_eq_true rfl) (Nat.le_of_ble_eq_true rfl) (Nat.le_of_ble_eq_true rfl) rfl rfl (Nat.le_of_ble_eq_true rfl) (Nat.le_of_ble_eq_true rfl) rfl ?_
    refine s_X7_remember hA hO.1 hC.2.1 (fun M1 u1 f1 => hGo_v ?_)
    have g1 := hC.und u1 f1
    refine G_iconst (v := 0) dX8_doPass_33 (by decide) ?_
    refine G_istore_n dX8_doPass_34 (Nat.le_of_ble_eq_true rfl) ?_
    refine G_iconst (v := 0) dX8_doPass_35 (by decide) ?_
    refine G_istore_n dX8_doPass_36 (Nat.le_of_ble_eq_true rfl) ?_
    refine G_lv (lv' := [(0, .ref (ad E 0 0 0)), (1, .int (nI n)), (2, .int (wksP g.A 0)), (3, .int (nI 0))]) ⟨rfl, rfl, rfl, rfl, trivial⟩ ?_
    refine up0 (c := n) (H := fun i => ∀ M', CR M' 0 (wks g.A i) → Fr (dC 0) M1 M' → G E C RX8 cX8_doPass zX8_doPass P 0 0 M' 37 [(0, .ref (ad E 0 0 0)), (1, .int (nI n)), (2, .int (wksP g.A i)), (3, .int (nI i))] []) (fun M2 a2 f2 => ?_) (fun i hi ih M2 a2 f2 => ?_) M1 g1.1 Fr.rfl
    · refine G_iload_n dX8_doPass_37 rfl ?_
      refine G_iload_n dX8_doPass_38 rfl ?_
      refine G_icmp_ge (tgt := 58) dX8_doPass_39 (by decide) (fun c39 => ?_) (fun c39 => ?_)
      · refine G_iload_n dX8_doPass_58 rfl ?_
        refine G_iret dX8_doPass_59 rfl rfl (Nat.le_of_ble_eq_true rfl) (Nat.le_of_ble_eq_true rfl) ?_
        exact h M2 (g1.act a2 f2) ((f1.mono dAc_U).trans (f2.mono dAc_C))
      · exact absurd (Int32.le_refl _) c39
    · have o2 := wks_ok hO.1 i
      refine G_iload_n dX8_doPass_37 rfl ?_
      refine G_iload_n dX8_doPass_38 rfl ?_
      refine G_icmp_ge (tgt := 58) dX8_doPass_39 (by decide) (fun c39 => ?_) (fun c39 => ?_)
      · exact absurd c39 (nI_ge hi (by omega))
      · refine G_iload_n dX8_doPass_42 rfl ?_
        refine G_aload_n dX8_doPass_43 rfl ?_
        refine gf_X8_26 dX8_doPass_44  ?_
        refine cv_X8_364 (cs' := 0) (ss' := 0) dX8_doPass_47 (by decide) (Nat.le_of_ble_eq_true rfl) (Nat.le_of_ble_eq_true rfl) (Nat.le_of_ble_eq_true rfl) rfl rfl (Nat.le_of_ble_eq_true rfl) (Nat.le_of_ble_eq_true rfl) rfl ?_
        refine s_X3_endWeek (by decide) a2 o2.2.1.2.1 o2.2.1.2.2 (fun M3 a3 f3 => hGo_i ?_)
        refine G_iadd dX8_doPass_50 ?_
        refine G_istore_n dX8_doPass_51 (Nat.le_of_ble_eq_true rfl) ?_
        refine G_iinc (v := 1) dX8_doPass_52 rfl (Nat.le_of_ble_eq_true rfl) (by decide) ?_
        refine G_goto (tgt := 37) dX8_doPass_55 (by decide) ?_
        exact G_lv2 (ih M3 a3 (f2.trans f3)) ⟨rfl, rfl, rfl, lvi (nI_1 i), trivial⟩
  · rw [if_pos (Int32.not_le.mp c12)] at h
    refine G_aload_n dX8_doPass_15 rfl ?_
    refine G_bipush (v := 10) dX8_doPass_16 (by decide) ?_
    refine cv_X8_391 (cs' := 0) (ss' := 0) dX8_doPass_18  (Nat.le_of_ble_eq_true rfl) (Nat.le_of_ble_eq_true rfl) (Nat.le_of_ble_eq_true rfl) rfl rfl (Nat.le_of_ble_eq_true rfl) (Nat.le_of_ble_eq_true rfl) rfl ?_
    refine s_X8_refuse hC (isR_of (by simp)) (fun M1 g1 f1 => hGo_i ?_)
    refine G_iret dX8_doPass_21 rfl rfl (Nat.le_of_ble_eq_true rfl) (Nat.le_of_ble_eq_true rfl) ?_
    exact h M1 g1 f1
def thr (g : Gs) (c : Nat) : Gs × Qq := (g, (c, 0))
def ans (q : Gs × Int32) : Gs × Qq := (q.1, (0, q.2))
def qWork : Gs → Int32 → Int32 → Int32 → Gs × Qq := fun g x y z => if inP g.A x then if inR y 0 1 ∧ inR z 1 20 then ans (sWork g (tn x) (tn y) (tn z)) else thr g 2 else thr g 1
theorem s_X8_work {x y z' : Int32} (hC : CG M g) (hO : Okg g) (h : ∀ M', CG M' (qWork g x y z').1 → Fr dCl M M' → P (rs xPA (qWork g x y z').2) M') : Sp E yX8_work cX8_work zX8_work [.ref (ad E 0 0 0), .int x, .int y, .int z'] M P := by
  unfold qWork at h
  have hA := hC.1
  have h12 := hA.n12
  refine Sp_of (own := RX8) (by decide) rfl rfl (Nat.le_of_ble_eq_true rfl) (fun C => ?_)
  refine G_aload_n dX8_work_0 rfl ?_
  refine G_iload_n dX8_work_1 rfl ?_
  refine cv_X8_200 (cs' := 0) (ss' := 0) dX8_work_2  (Nat.le_of_ble_eq_true rfl) (Nat.le_of_ble_eq_true rfl) (Nat.le_of_ble_eq_true rfl) rfl rfl (Nat.le_of_ble_eq_true rfl) (Nat.le_of_ble_eq_true rfl) rfl ?_
  refine s_X8_needPupil hA (fun c1 => hGo_v ?_) (fun c1 => hGo_x (by rw [if_neg c1] at h; exact h M hC Fr.rfl))
  refine G_iload_n dX8_work_5 rfl ?_
  refine cv_X8_260 (cs' := 0) (ss' := 0) dX8_work_6  (Nat.le_of_ble_eq_true rfl) (Nat.le_of_ble_eq_true rfl) (Nat.le_of_ble_eq_true rfl) rfl rfl (Nat.le_of_ble_eq_true rfl) (Nat.le_of_ble_eq_true rfl) rfl ?_
  refine s_X8_needSubject (fun c2 => hGo_v ?_) (fun c2 => hGo_x (by rw [if_pos c1, if_neg (fun q => c2 q.1)] at h; exact h M hC Fr.rfl))
  refine G_iload_n dX8_work_9 rfl ?_
  refine G_iconst (v := 1) dX8_work_10 (by decide) ?_
  refine G_bipush (v := 20) dX8_work_11 (by decide) ?_
  refine cv_X8_86 (cs' := 0) (ss' := 0) dX8_work_13  (Nat.le_of_ble_eq_true rfl) (Nat.le_of_ble_eq_true rfl) (Nat.le_of_ble_eq_true rfl) rfl rfl (Nat.le_of_ble_eq_true rfl) (Nat.le_of_ble_eq_true rfl) rfl ?_
  refine s_X8_needRange (fun c3 => hGo_v ?_) (fun c3 => hGo_x (by rw [if_pos c1, if_neg (fun q => c3 q.2)] at h; exact h M hC Fr.rfl))
  rw [if_pos c1, if_pos ⟨c2, c3⟩] at h
  obtain ⟨p, hp, rfl, ep⟩ := in_ix c1 (by omega)
  obtain ⟨s, -, hs, rfl, es⟩ := inR_ix (i := 0) (k := 1) (by decide) (by decide) c2
  obtain ⟨n, -, hn, rfl, en⟩ := inR_ix (i := 1) (k := 20) (by decide) (by decide) c3
  rw [ep, es, en] at h
  refine G_aload_n dX8_work_16 rfl ?_
  refine G_iload_n dX8_work_17 rfl ?_
  refine G_iload_n dX8_work_18 rfl ?_
  refine G_iload_n dX8_work_19 rfl ?_
  refine cv_X8_139 (cs' := 0) (ss' := 0) dX8_work_20  (Nat.le_of_ble_eq_true rfl) (Nat.le_of_ble_eq_true rfl) (Nat.le_of_ble_eq_true rfl) rfl rfl (Nat.le_of_ble_eq_true rfl) (Nat.le_of_ble_eq_true rfl) rfl ?_
  refine s_X8_doWork hC hO hp (by omega) hn (fun M1 g1 f1 => hGo_i ?_)
  refine G_iret dX8_work_23 rfl rfl (Nat.le_of_ble_eq_true rfl) (Nat.le_of_ble_eq_true rfl) ?_
  exact h M1 g1 (f1.mono dAc_Cl)
def qSwap : Gs → Int32 → Int32 → Int32 → Int32 → Gs × Qq := fun g x y n m => if inP g.A x ∧ inP g.A y then if inR n 0 20 ∧ inR m 0 20 then ans (sSwap g (tn x) (tn y) (tn n) (tn m)) else thr g 2 else thr g 1
theorem s_X8_swap {x y n m : Int32} (hC : CG M g) (hO : Okg g) (h : ∀ M', CG M' (qSwap g x y n m).1 → Fr dCl M M' → P (rs xPA (qSwap g x y n m).2) M') : Sp E yX8_swap cX8_swap zX8_swap [.ref (ad E 0 0 0), .int x, .int y, .int n, .int m] M P := by
  unfold qSwap at h
  have hA := hC.1
  have h12 := hA.n12
  refine Sp_of (own := RX8) (by decide) rfl rfl (Nat.le_of_ble_eq_true rfl) (fun C => ?_)
  refine G_aload_n dX8_swap_0 rfl ?_
  refine G_iload_n dX8_swap_1 rfl ?_
  refine G_iload_n dX8_swap_2 rfl ?_
  refine G_iload_n dX8_swap_3 rfl ?_
  refine G_iload dX8_swap_4 rfl ?_
  refine cv_X8_373 (cs' := 0) (ss' := 0) dX8_swap_6  (Nat.le_of_ble_eq_true rfl) (Nat.le_of_ble_eq_true rfl) (Nat.le_of_ble_eq_true rfl) rfl rfl (Nat.le_of_ble_eq_true rfl) (Nat.le_of_ble_eq_true rfl) rfl ?_
  refine s_X8_needSwap hA (fun c1 c2 => hGo_v ?_) (fun c1 => hGo_x (by rw [if_neg c1] at h; exact h M hC Fr.rfl)) (fun c1 c2 => hGo_x (by rw [if_pos c1, if_neg c2] at h; exact h M hC Fr.rfl))
  rw [if_pos c1, if_pos c2] at h
  obtain ⟨p, hp, rfl, ep⟩ := in_ix c1.1 (by omega)
  obtain ⟨o, ho, rfl, eo⟩ := in_ix c1.2 (by omega)
  obtain ⟨a, -, ha, rfl, ea⟩ := inR_ix (i := 0) (k := 20) (by decide) (by decide) c2.1
  obtain ⟨b', -, hb, rfl, eb⟩ := inR_ix (i := 0) (k := 20) (by decide) (by decide) c2.2
  rw [ep, eo, ea, eb] at h
  refine G_aload_n dX8_swap_9 rfl ?_
  refine G_iload_n dX8_swap_10 rfl ?_
  refine G_iload_n dX8_swap_11 rfl ?_
  refine G_iload_n dX8_swap_12 rfl ?_
  refine G_iload dX8_swap_13 rfl ?_
  refine cv_X8_143 (cs' := 0) (ss' := 0) dX8_swap_15  (Nat.le_of_ble_eq_true rfl) (Nat.le_of_ble_eq_true rfl) (Nat.le_of_ble_eq_true rfl) rfl rfl (Nat.le_of_ble_eq_true rfl) (Nat.le_of_ble_eq_true rfl) rfl ?_
  refine s_X8_doSwap hC hO hp ho ha hb (fun M1 g1 f1 => hGo_i ?_)
  refine G_iret dX8_swap_18 rfl rfl (Nat.le_of_ble_eq_true rfl) (Nat.le_of_ble_eq_true rfl) ?_
  exact h M1 g1 (f1.mono dAc_Cl)
def qLend : Gs → Int32 → Int32 → Int32 → Int32 → Gs × Qq := fun g x y n m => if inP g.A x ∧ inP g.A y then if inR n 0 1 ∧ inR m 1 20 then ans (sLend g (tn x) (tn y) (tn n) (tn m)) else thr g 2 else thr g 1
theorem s_X8_lend {x y n m : Int32} (hC : CG M g) (hO : Okg g) (h : ∀ M', CG M' (qLend g x y n m).1 → Fr dCl M M' → P (rs xPA (qLend g x y n m).2) M') : Sp E yX8_lend cX8_lend zX8_lend [.ref (ad E 0 0 0), .int x, .int y, .int n, .int m] M P := by
  unfold qLend at h
  have hA := hC.1
  have h12 := hA.n12
  refine Sp_of (own := RX8) (by decide) rfl rfl (Nat.le_of_ble_eq_true rfl) (fun C => ?_)
  refine G_aload_n dX8_lend_0 rfl ?_
  refine G_iload_n dX8_lend_1 rfl ?_
  refine G_iload_n dX8_lend_2 rfl ?_
  refine G_iload_n dX8_lend_3 rfl ?_
  refine G_iload dX8_lend_4 rfl ?_
  refine cv_X8_379 (cs' := 0) (ss' := 0) dX8_lend_6  (Nat.le_of_ble_eq_true rfl) (Nat.le_of_ble_eq_true rfl) (Nat.le_of_ble_eq_true rfl) rfl rfl (Nat.le_of_ble_eq_true rfl) (Nat.le_of_ble_eq_true rfl) rfl ?_
  refine s_X8_needLoan hA (fun c1 c2 => hGo_v ?_) (fun c1 => hGo_x (by rw [if_neg c1] at h; exact h M hC Fr.rfl)) (fun c1 c2 => hGo_x (by rw [if_pos c1, if_neg c2] at h; exact h M hC Fr.rfl))
  rw [if_pos c1, if_pos c2] at h
  obtain ⟨p, hp, rfl, ep⟩ := in_ix c1.1 (by omega)
  obtain ⟨o, ho, rfl, eo⟩ := in_ix c1.2 (by omega)
  obtain ⟨a, -, ha, rfl, ea⟩ := inR_ix (i := 0) (k := 1) (by decide) (by decide) c2.1
  obtain ⟨b', hb1, hb, rfl, eb⟩ := inR_ix (i := 1) (k := 20) (by decide) (by decide) c2.2
  rw [ep, eo, ea, eb] at h
  refine G_aload_n dX8_lend_9 rfl ?_
  refine G_iload_n dX8_lend_10 rfl ?_
  refine G_iload_n dX8_lend_11 rfl ?_
  refine G_iload_n dX8_lend_12 rfl ?_
  refine G_iload dX8_lend_13 rfl ?_
  refine cv_X8_147 (cs' := 0) (ss' := 0) dX8_lend_15  (Nat.le_of_ble_eq_true rfl) (Nat.le_of_ble_eq_true rfl) (Nat.le_of_ble_eq_true rfl) rfl rfl (Nat.le_of_ble_eq_true rfl) (Nat.le_of_ble_eq_true rfl) rfl ?_
  refine s_X8_doLend hC hO hp ho (by omega) hb (fun M1 g1 f1 => hGo_i ?_)
  refine G_iret dX8_lend_18 rfl rfl (Nat.le_of_ble_eq_true rfl) (Nat.le_of_ble_eq_true rfl) ?_
  exact h M1 g1 (f1.mono dAc_Cl)
def qPay : Gs → Int32 → Int32 → Int32 → Int32 → Gs × Qq := fun g x y n m => if inP g.A x ∧ inP g.A y then if inR n 0 1 ∧ inR m 1 20 then ans (sPay g (tn x) (tn y) (tn n) (tn m)) else thr g 2 else thr g 1
theorem s_X8_payBack {x y n m : Int32} (hC : CG M g) (hO : Okg g) (h : ∀ M', CG M' (qPay g x y n m).1 → Fr dCl M M' → P (rs xPA (qPay g x y n m).2) M') : Sp E yX8_payBack cX8_payBack zX8_payBack [.ref (ad E 0 0 0), .int x, .int y, .int n, .int m] M P := by
  unfold qPay at h
  have hA := hC.1
  have h12 := hA.n12
  refine Sp_of (own := RX8) (by decide) rfl rfl (Nat.le_of_ble_eq_true rfl) (fun C => ?_)
  refine G_aload_n dX8_payBack_0 rfl ?_
  refine G_iload_n dX8_payBack_1 rfl ?_
  refine G_iload_n dX8_payBack_2 rfl ?_
  refine G_iload_n dX8_payBack_3 rfl ?_
  refine G_iload dX8_payBack_4 rfl ?_
  refine cv_X8_379 (cs' := 0) (ss' := 0) dX8_payBack_6  (Nat.le_of_ble_eq_true rfl) (Nat.le_of_ble_eq_true rfl) (Nat.le_of_ble_eq_true rfl) rfl rfl (Nat.le_of_ble_eq_true rfl) (Nat.le_of_ble_eq_true rfl) rfl ?_
  refine s_X8_needLoan hA (fun c1 c2 => hGo_v ?_) (fun c1 => hGo_x (by rw [if_neg c1] at h; exact h M hC Fr.rfl)) (fun c1 c2 => hGo_x (by rw [if_pos c1, if_neg c2] at h; exact h M hC Fr.rfl))
  rw [if_pos c1, if_pos c2] at h
  obtain ⟨p, hp, rfl, ep⟩ := in_ix c1.1 (by omega)
  obtain ⟨o, ho, rfl, eo⟩ := in_ix c1.2 (by omega)
  obtain ⟨a, -, ha, rfl, ea⟩ := inR_ix (i := 0) (k := 1) (by decide) (by decide) c2.1
  obtain ⟨b', hb1, hb, rfl, eb⟩ := inR_ix (i := 1) (k := 20) (by decide) (by decide) c2.2
  rw [ep, eo, ea, eb] at h
  refine G_aload_n dX8_payBack_9 rfl ?_
  refine G_iload_n dX8_payBack_10 rfl ?_
  refine G_iload_n dX8_payBack_11 rfl ?_
  refine G_iload_n dX8_payBack_12 rfl ?_
  refine G_iload dX8_payBack_13 rfl ?_
  refine cv_X8_150 (cs' := 0) (ss' := 0) dX8_payBack_15  (Nat.le_of_ble_eq_true rfl) (Nat.le_of_ble_eq_true rfl) (Nat.le_of_ble_eq_true rfl) rfl rfl (Nat.le_of_ble_eq_true rfl) (Nat.le_of_ble_eq_true rfl) rfl ?_
  refine s_X8_doPay hC hO hp ho (by omega) hb1 hb (fun M1 g1 f1 => hGo_i ?_)
  refine G_iret dX8_payBack_18 rfl rfl (Nat.le_of_ble_eq_true rfl) (Nat.le_of_ble_eq_true rfl) ?_
  exact h M1 g1 (f1.mono dAc_Cl)
def qMove : Gs → Int32 → Int32 → Int32 → Gs × Qq := fun g x r t => if inP g.A x then if inR r 0 5 ∧ inR t 0 5 then ans (sMove g (tn x) r t) else thr g 2 else thr g 1
theorem s_X8_move {x r t : Int32} (hC : CG M g) (hO : Okg g) (h : ∀ M', CG M' (qMove g x r t).1 → Fr dCl M M' → P (rs xPA (qMove g x r t).2) M') : Sp E yX8_move cX8_move zX8_move [.ref (ad E 0 0 0), .int x, .int r, .int t] M P := by
  unfold qMove at h
  have hA := hC.1
  have h12 := hA.n12
  refine Sp_of (own := RX8) (by decide) rfl rfl (Nat.le_of_ble_eq_true rfl) (fun C => ?_)
  refine G_aload_n dX8_move_0 rfl ?_
  refine G_iload_n dX8_move_1 rfl ?_
  refine cv_X8_200 (cs' := 0) (ss' := 0) dX8_move_2  (Nat.le_of_ble_eq_true rfl) (Nat.le_of_ble_eq_true rfl) (Nat.le_of_ble_eq_true rfl) rfl rfl (Nat.le_of_ble_eq_true rfl) (Nat.le_of_ble_eq_true rfl) rfl ?_
  refine s_X8_needPupil hA (fun c1 => hGo_v ?_) (fun c1 => hGo_x (by rw [if_neg c1] at h; exact h M hC Fr.rfl))
  refine G_iload_n dX8_move_5 rfl ?_
  refine G_iload_n dX8_move_6 rfl ?_
  refine cv_X8_300 (cs' := 0) (ss' := 0) dX8_move_7  (Nat.le_of_ble_eq_true rfl) (Nat.le_of_ble_eq_true rfl) (Nat.le_of_ble_eq_true rfl) rfl rfl (Nat.le_of_ble_eq_true rfl) (Nat.le_of_ble_eq_true rfl) rfl ?_
  refine s_X8_needBench (fun c2 => hGo_v ?_) (fun c2 => hGo_x (by rw [if_pos c1, if_neg c2] at h; exact h M hC Fr.rfl))
  rw [if_pos c1, if_pos c2] at h
  obtain ⟨p, hp, rfl, ep⟩ := in_ix c1 (by omega)
  rw [ep] at h
  refine G_aload_n dX8_move_10 rfl ?_
  refine G_iload_n dX8_move_11 rfl ?_
  refine G_iload_n dX8_move_12 rfl ?_
  refine G_iload_n dX8_move_13 rfl ?_
  refine cv_X8_153 (cs' := 0) (ss' := 0) dX8_move_14  (Nat.le_of_ble_eq_true rfl) (Nat.le_of_ble_eq_true rfl) (Nat.le_of_ble_eq_true rfl) rfl rfl (Nat.le_of_ble_eq_true rfl) (Nat.le_of_ble_eq_true rfl) rfl ?_
  refine s_X8_doMove hC hO hp (fun M1 g1 f1 => hGo_i ?_)
  refine G_iret dX8_move_17 rfl rfl (Nat.le_of_ble_eq_true rfl) (Nat.le_of_ble_eq_true rfl) ?_
  exact h M1 g1 (f1.mono dAc_Cl)
def qConfess : Gs → Int32 → Gs × Qq := fun g x => if inP g.A x then ans (sConfess g (tn x)) else thr g 1
theorem s_X8_confess {x : Int32} (hC : CG M g) (hO : Okg g) (h : ∀ M', CG M' (qConfess g x).1 → Fr dCl M M' → P (rs xP (qConfess g x).2) M') : Sp E yX8_confess cX8_confess zX8_confess [.ref (ad E 0 0 0), .int x] M P := by
  unfold qConfess at h
  have hA := hC.1
  have h12 := hA.n12
  refine Sp_of (own := RX8) (by decide) rfl rfl (Nat.le_of_ble_eq_true rfl) (fun C => ?_)
  refine G_aload_n dX8_confess_0 rfl ?_
  refine G_iload_n dX8_confess_1 rfl ?_
  refine cv_X8_200 (cs' := 0) (ss' := 0) dX8_confess_2  (Nat.le_of_ble_eq_true rfl) (Nat.le_of_ble_eq_true rfl) (Nat.le_of_ble_eq_true rfl) rfl rfl (Nat.le_of_ble_eq_true rfl) (Nat.le_of_ble_eq_true rfl) rfl ?_
  refine s_X8_needPupil hA (fun c1 => hGo_v ?_) (fun c1 => hGo_x (by rw [if_neg c1] at h; exact h M hC Fr.rfl))
  rw [if_pos c1] at h
  obtain ⟨p, hp, rfl, ep⟩ := in_ix c1 (by omega)
  rw [ep] at h
  refine G_aload_n dX8_confess_5 rfl ?_
  refine G_iload_n dX8_confess_6 rfl ?_
  refine cv_X8_156 (cs' := 0) (ss' := 0) dX8_confess_7  (Nat.le_of_ble_eq_true rfl) (Nat.le_of_ble_eq_true rfl) (Nat.le_of_ble_eq_true rfl) rfl rfl (Nat.le_of_ble_eq_true rfl) (Nat.le_of_ble_eq_true rfl) rfl ?_
  refine s_X8_doConfess hC hO hp (fun M1 g1 f1 => hGo_i ?_)
  refine G_iret dX8_confess_10 rfl rfl (Nat.le_of_ble_eq_true rfl) (Nat.le_of_ble_eq_true rfl) ?_
  exact h M1 g1 (f1.mono dAc_Cl)
def qPass : Gs → Int32 → Gs × Qq := fun g x => if inR x 1 10 then ans (sPass g (tn x)) else thr g 1
theorem s_X8_pass {x : Int32} (hC : CG M g) (hO : Okg g) (h : ∀ M', CG M' (qPass g x).1 → Fr dCl M M' → P (rs xA (qPass g x).2) M') : Sp E yX8_pass cX8_pass zX8_pass [.ref (ad E 0 0 0), .int x] M P := by
  unfold qPass at h
  have hA := hC.1
  have h12 := hA.n12
  refine Sp_of (own := RX8) (by decide) rfl rfl (Nat.le_of_ble_eq_true rfl) (fun C => ?_)
  refine G_iload_n dX8_pass_0 rfl ?_
  refine G_iconst (v := 1) dX8_pass_1 (by decide) ?_
  refine G_bipush (v := 10) dX8_pass_2 (by decide) ?_
  refine cv_X8_86 (cs' := 0) (ss' := 0) dX8_pass_4  (Nat.le_of_ble_eq_true rfl) (Nat.le_of_ble_eq_true rfl) (Nat.le_of_ble_eq_true rfl) rfl rfl (Nat.le_of_ble_eq_true rfl) (Nat.le_of_ble_eq_true rfl) rfl ?_
  refine s_X8_needRange (fun c1 => hGo_v ?_) (fun c1 => hGo_x (by rw [if_neg c1] at h; exact h M hC Fr.rfl))
  rw [if_pos c1] at h
  obtain ⟨n, hn1, hn, rfl, en⟩ := inR_ix (i := 1) (k := 10) (by decide) (by decide) c1
  rw [en] at h
  refine G_aload_n dX8_pass_7 rfl ?_
  refine G_iload_n dX8_pass_8 rfl ?_
  refine cv_X8_132 (cs' := 0) (ss' := 0) dX8_pass_9  (Nat.le_of_ble_eq_true rfl) (Nat.le_of_ble_eq_true rfl) (Nat.le_of_ble_eq_true rfl) rfl rfl (Nat.le_of_ble_eq_true rfl) (Nat.le_of_ble_eq_true rfl) rfl ?_
  refine s_X8_doPass hC hO hn (fun M1 g1 f1 => hGo_i ?_)
  refine G_iret dX8_pass_12 rfl rfl (Nat.le_of_ble_eq_true rfl) (Nat.le_of_ble_eq_true rfl) ?_
  exact h M1 g1 (f1.mono dAc_Cl)
end CDO
