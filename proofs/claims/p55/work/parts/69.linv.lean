/-! ===== what each act keeps: Gd, and the bounds of the tallies ===== -/
section LINV
variable {A : Ab}
theorem i_ring1 {a b c d e l m : Int32} (h : a + b - c - d - e = 0) : (a + m) + b - (c - l + (l + m)) - d - e = 0 := by grind
def bal (A : Ab) : Int32 := A.g 7 + A.g 8 - piecesV A 0 - piecesV A 1 - (A.g 12 + A.g 13)
theorem pc_upd {f : Nat → Int32} {x : Nat} {v : Int32} {n : Nat} (hx : x < n) : sm n (fun p => if p = x then v else f p) = sm n f - f x + v := by
  have e : sm n (fun p => if p = x then v else f p) = sm n (fun p => f p + if p = x then v - f x else 0) := sm_cong (fun p hp => by
    by_cases q : p = x
    · rw [if_pos q, if_pos q, q]
      grind
    · rw [if_neg q, if_neg q]
      grind)
  rw [e, sm_add, sm_at, if_pos hx]
  grind
theorem pc_set {x s : Nat} {L : List Int32} (hx : x < A.n) : piecesV (A.sS (2 * x + s) L) s = piecesV A s - nI (A.s (2 * x + s)).length + nI L.length := by
  have e : piecesV (A.sS (2 * x + s) L) s = sm A.n (fun p => if p = x then nI L.length else nI (A.s (2 * p + s)).length) := sm_cong (fun p hp => by
    show nI (if 2 * p + s = 2 * x + s then L else A.s (2 * p + s)).length = _
    by_cases q : p = x
    · rw [if_pos (by omega), if_pos q]
    · rw [if_neg (by omega), if_neg q])
  rw [e]
  exact pc_upd (f := fun p => nI (A.s (2 * p + s)).length) hx
theorem pc_oth {x s t : Nat} {L : List Int32} (hs : s < 2) (ht : t < 2) (hst : s ≠ t) : piecesV (A.sS (2 * x + s) L) t = piecesV A t := sm_cong (fun p hp => by
  show nI (if 2 * p + t = 2 * x + s then L else A.s (2 * p + t)).length = _
  rw [if_neg (by omega)])
theorem pc_f {p t s : Nat} {v : Int32} : piecesV (A.sF p t v) s = piecesV A s := rfl
theorem pc_g {t s : Nat} {v : Int32} : piecesV (A.sG t v) s = piecesV A s := rfl
theorem pc_d {d : List De} {s : Nat} : piecesV (A.sD d) s = piecesV A s := rfl
/-- pieces given on -/
theorem give_pc {x y s n t : Nat} (hx : x < A.n) (hy : y < A.n) (hxy : x ≠ y) (hs : s < 2) (ht : t < 2) (hn : n ≤ (A.s (2 * x + s)).length) : piecesV (giveA A x y s n) t = piecesV A t := by
  unfold giveA
  by_cases q : s = t
  · subst q
    rw [pc_set (A := A.sS (2 * x + s) ((A.s (2 * x + s)).drop n)) (show y < A.n from hy), pc_set hx]
    rw [show (A.sS (2 * x + s) ((A.s (2 * x + s)).drop n)).s (2 * y + s) = A.s (2 * y + s) from if_neg (by omega), List.length_append, List.length_drop, List.length_take, Nat.min_eq_left hn, ← nI_add, ← pk_sub hn]
    grind
  · rw [pc_oth (A := A.sS (2 * x + s) ((A.s (2 * x + s)).drop n)) hs ht q, pc_oth hs ht q]
theorem bal_of {B : Ab} (h7 : B.g 7 = A.g 7) (h8 : B.g 8 = A.g 8) (h12 : B.g 12 = A.g 12) (h13 : B.g 13 = A.g 13) (h0 : piecesV B 0 = piecesV A 0) (h1 : piecesV B 1 = piecesV A 1) : bal B = bal A := by
  unfold bal
  rw [h7, h8, h12, h13, h0, h1]
theorem bal_make {x s n : Nat} (hx : x < A.n) (hs : s < 2) : bal (makeA A x s n) = bal A := by
  have e : (A.s (2 * x + s) ++ List.replicate n (nI x)).length = (A.s (2 * x + s)).length + n := by simp
  rcases (show s = 0 ∨ s = 1 by omega) with rfl | rfl
  · have p0 : piecesV (makeA A x 0 n) 0 = piecesV A 0 + nI n := by
      show piecesV ((A.sF x 5 _).sS (2 * x + 0) (A.s (2 * x + 0) ++ List.replicate n (nI x))) 0 = _
      rw [pc_set (A := A.sF x 5 _) hx, pc_f, e, ← nI_add]
      show piecesV A 0 - nI (A.s (2 * x + 0)).length + _ = _
      grind
    have p1 : piecesV (makeA A x 0 n) 1 = piecesV A 1 := by
      show piecesV ((A.sF x 5 _).sS (2 * x + 0) (A.s (2 * x + 0) ++ List.replicate n (nI x))) 1 = _
      rw [pc_oth (A := A.sF x 5 _) (by decide) (by decide) (by decide), pc_f]
    unfold bal
    rw [p0, p1]
    show (A.g 7 + nI n) + A.g 8 - (piecesV A 0 + nI n) - piecesV A 1 - (A.g 12 + A.g 13) = _
    grind
  · have p1 : piecesV (makeA A x 1 n) 1 = piecesV A 1 + nI n := by
      show piecesV ((A.sF x 5 _).sS (2 * x + 1) (A.s (2 * x + 1) ++ List.replicate n (nI x))) 1 = _
      rw [pc_set (A := A.sF x 5 _) hx, pc_f, e, ← nI_add]
      show piecesV A 1 - nI (A.s (2 * x + 1)).length + _ = _
      grind
    have p0 : piecesV (makeA A x 1 n) 0 = piecesV A 0 := by
      show piecesV ((A.sF x 5 _).sS (2 * x + 1) (A.s (2 * x + 1) ++ List.replicate n (nI x))) 0 = _
      rw [pc_oth (A := A.sF x 5 _) (by decide) (by decide) (by decide), pc_f]
    unfold bal
    rw [p0, p1]
    show A.g 7 + (A.g 8 + nI n) - piecesV A 0 - (piecesV A 1 + nI n) - (A.g 12 + A.g 13) = _
    grind
theorem bal_give {x y s n : Nat} (hx : x < A.n) (hy : y < A.n) (hxy : x ≠ y) (hs : s < 2) (hn : n ≤ (A.s (2 * x + s)).length) : bal (giveA A x y s n) = bal A := bal_of rfl rfl rfl rfl (give_pc hx hy hxy hs (by decide) hn) (give_pc hx hy hxy hs (by decide) hn)
theorem bal_see {x y : Nat} : bal (seeA A x y) = bal A := bal_of rfl rfl rfl rfl rfl rfl
theorem bal_tally {t : Nat} {v : Int32} (ht : t = 2 ∨ t = 3 ∨ t = 4) : bal (tallyA A t v) = bal A := by
  rcases ht with rfl | rfl | rfl <;> exact bal_of rfl rfl rfl rfl rfl rfl
theorem hand_p0 {x : Nat} {v7 v6 v12 : Int32} {L0 L1 : List Int32} (hx : x < A.n) : piecesV (((((A.sF x 7 v7).sF x 6 v6).sS (2 * x) L0).sS (2 * x + 1) L1).sG 12 v12) 0 = piecesV A 0 - nI (A.s (2 * x)).length + nI L0.length := by
  rw [pc_g, pc_oth (A := ((A.sF x 7 v7).sF x 6 v6).sS (2 * x) L0) (s := 1) (t := 0) (by decide) (by decide) (by decide)]
  exact pc_set (A := (A.sF x 7 v7).sF x 6 v6) (s := 0) hx
theorem hand_p1 {x : Nat} {v7 v6 v12 : Int32} {L0 L1 : List Int32} (hx : x < A.n) : piecesV (((((A.sF x 7 v7).sF x 6 v6).sS (2 * x) L0).sS (2 * x + 1) L1).sG 12 v12) 1 = piecesV A 1 - nI (A.s (2 * x + 1)).length + nI L1.length := by
  rw [pc_g, pc_set (A := ((A.sF x 7 v7).sF x 6 v6).sS (2 * x) L0) (s := 1) (show x < A.n from hx)]
  have e1 : piecesV (((A.sF x 7 v7).sF x 6 v6).sS (2 * x) L0) 1 = piecesV A 1 := pc_oth (A := (A.sF x 7 v7).sF x 6 v6) (s := 0) (by decide) (by decide) (by decide)
  have e2 : (((A.sF x 7 v7).sF x 6 v6).sS (2 * x) L0).s (2 * x + 1) = A.s (2 * x + 1) := if_neg (by omega)
  rw [e1, e2]
theorem bal_hand0 {x : Nat} {v7 v6 h0 h1 : Int32} {L0 L1 : List Int32} (hx : x < A.n) (e0 : nI L0.length = nI (A.s (2 * x)).length - h0) (e1 : nI L1.length = nI (A.s (2 * x + 1)).length - h1) : bal (((((A.sF x 7 v7).sF x 6 v6).sS (2 * x) L0).sS (2 * x + 1) L1).sG 12 (A.g 12 + (h0 + h1))) = bal A := by
  unfold bal
  rw [hand_p0 hx, hand_p1 hx, e0, e1]
  show A.g 7 + A.g 8 - (piecesV A 0 - nI (A.s (2 * x)).length + (nI (A.s (2 * x)).length - h0)) - (piecesV A 1 - nI (A.s (2 * x + 1)).length + (nI (A.s (2 * x + 1)).length - h1)) - (A.g 12 + (h0 + h1) + A.g 13) = _
  grind
theorem bal_hand {x : Nat} (hx : x < A.n) : bal (handA A x) = bal A := by
  have h0 : hdN A x 0 ≤ (A.s (2 * x)).length := Nat.min_le_right _ _
  have h1 : hdN A x 1 ≤ (A.s (2 * x + 1)).length := Nat.min_le_right _ _
  unfold handA
  exact bal_hand0 hx (by rw [List.length_drop, ← pk_sub h0]) (by rw [List.length_drop, ← pk_sub h1])
theorem bal_look {x : Nat} (hx : x < A.n) : bal (lookA A x) = bal A := by
  unfold lookA
  split
  · exact bal_of rfl rfl rfl rfl rfl rfl
  · generalize eB : (((A.sF x 8 (detV A x (A.f x 6))).sF x 6 0).sF x 9 0).sG 13 (A.g 13 + (nI (A.s (2 * x)).length + nI (A.s (2 * x + 1)).length)) = B
    have hn : B.n = A.n := by rw [← eB]; rfl
    have hs : B.s = A.s := by rw [← eB]; rfl
    have hp : ∀ s, piecesV B s = piecesV A s := fun s => by rw [← eB]; rfl
    have p0 : piecesV ((B.sS (2 * x + 0) []).sS (2 * x + 1) []) 0 = piecesV A 0 - nI (A.s (2 * x)).length := by
      rw [pc_oth (A := B.sS (2 * x + 0) []) (by decide) (by decide) (by decide), pc_set (by omega), hp, hs]
      show piecesV A 0 - nI (A.s (2 * x)).length + 0 = _
      grind
    have p1 : piecesV ((B.sS (2 * x + 0) []).sS (2 * x + 1) []) 1 = piecesV A 1 - nI (A.s (2 * x + 1)).length := by
      rw [pc_set (A := B.sS (2 * x + 0) []) (show x < B.n by omega), pc_oth (by decide) (by decide) (by decide), hp]
      rw [show (B.sS (2 * x + 0) []).s (2 * x + 1) = A.s (2 * x + 1) by rw [← hs]; exact if_neg (by omega)]
      show piecesV A 1 - nI (A.s (2 * x + 1)).length + 0 = _
      grind
    show bal ((B.sS (2 * x + 0) []).sS (2 * x + 1) []) = _
    unfold bal
    rw [p0, p1]
    have e7 : B.g 7 = A.g 7 := by rw [← eB]; rfl
    have e8 : B.g 8 = A.g 8 := by rw [← eB]; rfl
    have e12 : B.g 12 = A.g 12 := by rw [← eB]; rfl
    have e13 : B.g 13 = A.g 13 + (nI (A.s (2 * x)).length + nI (A.s (2 * x + 1)).length) := by rw [← eB]; rfl
    show B.g 7 + B.g 8 - (piecesV A 0 - nI (A.s (2 * x)).length) - (piecesV A 1 - nI (A.s (2 * x + 1)).length) - (B.g 12 + B.g 13) = _
    rw [e7, e8, e12, e13]
    grind
theorem bal_H : ∀ k, k ≤ A.n → bal (wkH A k) = bal A
  | 0, _ => rfl
  | k + 1, h => (bal_hand (A := wkH A k) (x := k) (by rw [wkH_n]; omega)).trans (bal_H k (by omega))
theorem bal_L : ∀ k, k ≤ A.n → bal (wkL A k) = bal A
  | 0, _ => rfl
  | k + 1, h => (bal_look (A := wkL A k) (x := k) (by rw [wkL_n]; omega)).trans (bal_L k (by omega))
theorem pcS {t : Nat} : ∀ k, piecesV (wkS A k) t = piecesV A t
  | 0 => rfl
  | k + 1 => (pc_f (A := wkS A k)).trans (pcS k)
theorem bal_week : bal (weekA A) = bal A := by
  have h1 : bal (wk2 A) = bal (wk1 A) := bal_of (wkS_g _) (wkS_g _) (wkS_g _) (wkS_g _) (pcS _) (pcS _)
  have h2 : bal (wk1 A) = bal A := (bal_L (A := wkH A A.n) A.n (by rw [wkH_n]; exact Nat.le_refl _)).trans (bal_H A.n (Nat.le_refl _))
  have h3 : bal (weekA A) = bal (wk2 A) := bal_of rfl rfl rfl rfl rfl rfl
  rw [h3, h1, h2]
end LINV
