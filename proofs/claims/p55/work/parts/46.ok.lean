/-! ===== what every school keeps ===== -/
section COK
variable {A : Ab} {p q t : Nat} {v : Int32}
theorem bs_or (p q : Nat → Bool) : ∀ n, bs p n ||| bs q n = bs (fun i => p i || q i) n
  | 0 => (show (0 : Int32) ||| 0 = 0 by decide)
  | n + 1 => by
    have ih := bs_or p q n
    have e : bs (fun i => p i || q i) (n + 1) = if (p n || q n) = true then bs (fun i => p i || q i) n ||| (1 <<< (nI n &&& 31)) else bs (fun i => p i || q i) n := rfl
    rw [e, ← ih]
    show (if p n = true then bs p n ||| (1 <<< (nI n &&& 31)) else bs p n) ||| (if q n = true then bs q n ||| (1 <<< (nI n &&& 31)) else bs q n) = _
    generalize (1 : Int32) <<< (nI n &&& 31) = z
    generalize bs p n = x
    generalize bs q n = y
    cases hp : p n <;> cases hq : q n
    · rfl
    · show x ||| (y ||| z) = (x ||| y) ||| z
      rw [Int32.or_assoc]
    · show (x ||| z) ||| y = (x ||| y) ||| z
      rw [Int32.or_assoc, Int32.or_assoc, Int32.or_comm z y]
    · show (x ||| z) ||| (y ||| z) = (x ||| y) ||| z
      rw [Int32.or_assoc, ← Int32.or_assoc z y z, Int32.or_comm z y, Int32.or_assoc y z z, Int32.or_self, Int32.or_assoc]
theorem bs_none : ∀ n, bs (fun _ => false) n = 0
  | 0 => rfl
  | n + 1 => bs_none n
theorem wOk_0 (n : Nat) : wOk n 0 := ⟨fun _ => false, (bs_none n).symm⟩
theorem wOk_or {n : Nat} {x y : Int32} (hx : wOk n x) (hy : wOk n y) : wOk n (x ||| y) := by
  obtain ⟨p, rfl⟩ := hx
  obtain ⟨q, rfl⟩ := hy
  exact ⟨_, bs_or p q n⟩
theorem Ok.sF (h : Ok A) (ht : t = 0 ∨ t = 1 ∨ t = 5 ∨ t = 6 ∨ t = 7) : Ok (A.sF p t v) := by
  obtain ⟨h1, h2, h3, h4, h5⟩ := h
  refine ⟨h1, h2, fun i hi => ?_, h4, h5⟩
  have e : ∀ k, k = 2 ∨ k = 3 ∨ k = 4 ∨ k = 8 ∨ k = 9 → (A.sF p t v).f i k = A.f i k := fun k hk => if_neg (fun q => by omega)
  obtain ⟨a, b, c, d, f⟩ := h3 i hi
  unfold fOk
  rw [e 2 (by omega), e 3 (by omega), e 4 (by omega), e 8 (by omega), e 9 (by omega)]
  exact ⟨a, b, c, d, f⟩
theorem Ok.sF8 (h : Ok A) (hv : 0 ≤ v) : Ok (A.sF p 8 v) := by
  obtain ⟨h1, h2, h3, h4, h5⟩ := h
  refine ⟨h1, h2, fun i hi => ?_, h4, h5⟩
  have e : ∀ k, k = 2 ∨ k = 3 ∨ k = 4 ∨ k = 9 → (A.sF p 8 v).f i k = A.f i k := fun k hk => if_neg (fun q => by omega)
  obtain ⟨a, b, c, d, f⟩ := h3 i hi
  unfold fOk
  rw [e 2 (by omega), e 3 (by omega), e 4 (by omega), e 9 (by omega)]
  refine ⟨a, b, c, ?_, f⟩
  show 0 ≤ if i = p ∧ 8 = 8 then v else A.f i 8
  split
  · exact hv
  · exact d
theorem Ok.sF9 (h : Ok A) (hv : wOk A.n v) : Ok (A.sF p 9 v) := by
  obtain ⟨h1, h2, h3, h4, h5⟩ := h
  refine ⟨h1, h2, fun i hi => ?_, h4, h5⟩
  have e : ∀ k, k = 2 ∨ k = 3 ∨ k = 4 ∨ k = 8 → (A.sF p 9 v).f i k = A.f i k := fun k hk => if_neg (fun q => by omega)
  obtain ⟨a, b, c, d, f⟩ := h3 i hi
  unfold fOk
  rw [e 2 (by omega), e 3 (by omega), e 4 (by omega), e 8 (by omega)]
  refine ⟨a, b, c, d, ?_⟩
  show wOk A.n (if i = p ∧ 9 = 9 then v else A.f i 9)
  split
  · exact hv
  · exact f
theorem Ok.sG (h : Ok A) (ht : t ≠ 3 ∧ t ≠ 4 ∧ t ≠ 5) : Ok (A.sG t v) := by
  obtain ⟨h1, h2, h3, h4, h5⟩ := h
  have e : ∀ k, k = 3 ∨ k = 4 ∨ k = 5 → (A.sG t v).g k = A.g k := fun k hk => if_neg (fun q => by omega)
  refine ⟨h1, ?_, h3, h4, h5⟩
  rw [e 3 (by omega), e 4 (by omega), e 5 (by omega)]
  exact h2
theorem Ok.sS {L : List Int32} (h : Ok A) (hL : mOk A.n L) : Ok (A.sS q L) := by
  obtain ⟨h1, h2, h3, h4, h5⟩ := h
  refine ⟨h1, h2, h3, fun k hk => ?_, h5⟩
  show mOk A.n (if k = q then L else A.s k)
  split
  · exact hL
  · exact h4 k hk
theorem Ok.sD {d : List De} (h : Ok A) (hd : dOk A.n d) : Ok (A.sD d) := ⟨h.1, h.2.1, h.2.2.1, h.2.2.2.1, hd⟩
theorem mOk_0 (n : Nat) : mOk n [] := ⟨by decide, fun k hk => absurd hk (Nat.not_lt_zero k)⟩
theorem getD_mem {L : List Int32} {k : Nat} (h : k < L.length) : L.getD k 0 ∈ L := by
  rw [List.getD_eq_getElem?_getD, List.getElem?_eq_getElem h]
  exact List.getElem_mem h
theorem mOk_iff {n : Nat} {L : List Int32} : mOk n L ↔ L.length ≤ 20 ∧ ∀ x, x ∈ L → ∃ m, m < n ∧ x = nI m := by
  refine ⟨fun h => ⟨h.1, fun x hx => ?_⟩, fun h => ⟨h.1, fun k hk => h.2 _ (getD_mem hk)⟩⟩
  obtain ⟨k, hk, rfl⟩ := List.getElem_of_mem hx
  have := h.2 k hk
  rw [List.getD_eq_getElem?_getD, List.getElem?_eq_getElem hk] at this
  exact this
theorem mOk_drop {n e : Nat} {L : List Int32} (h : mOk n L) : mOk n (L.drop e) := by
  rw [mOk_iff] at h ⊢
  exact ⟨by rw [List.length_drop]; omega, fun x hx => h.2 x (List.mem_of_mem_drop hx)⟩
theorem mOk_give {n e : Nat} {L L2 : List Int32} (h : mOk n L) (h2 : mOk n L2) (hl : L2.length + e ≤ 20) : mOk n (L2 ++ L.take e) := by
  rw [mOk_iff] at h h2 ⊢
  refine ⟨by rw [List.length_append, List.length_take]; omega, fun x hx => ?_⟩
  rcases List.mem_append.mp hx with q | q
  · exact h2.2 x q
  · exact h.2 x (List.mem_of_mem_take q)
theorem mOk_make {n e m : Nat} {L : List Int32} (h : mOk n L) (hm : m < n) (hl : L.length + e ≤ 20) : mOk n (L ++ List.replicate e (nI m)) := by
  rw [mOk_iff] at h ⊢
  refine ⟨by rw [List.length_append, List.length_replicate]; exact hl, fun x hx => ?_⟩
  rcases List.mem_append.mp hx with q | q
  · exact h.2 x q
  · exact ⟨m, hm, List.eq_of_mem_replicate q⟩
-- a week
theorem imax_pos {x : Int32} : 0 ≤ imax x 0 := by
  unfold imax
  split
  · decide
  · exact Int32.not_lt.mp (by assumption)
theorem detV_pos {x : Nat} {w : Int32} (h3 : 0 ≤ A.g 3) : 0 ≤ detV A x w := by
  unfold detV
  split
  · exact imax_pos
  · rename_i h
    have h4 := Int32.not_lt.mp h
    obtain ⟨b, hb, eb⟩ := nI_of (Int32.not_lt.mpr h3)
    obtain ⟨a, ha, ea⟩ := nI_of (Int32.not_lt.mpr (Int32.le_trans h3 h4))
    rw [eb, ea] at h4 ⊢
    have hab := (nI_leI hb ha).mp h4
    rw [nI_subN hab, show (3 : Int32) = nI 3 from rfl, pk_div (by omega) (by decide) (by decide), show (1 : Int32) = nI 1 from rfl, nI_add]
    unfold imin
    split
    · decide
    · exact nI_pos' (by omega)
theorem handA_ok {x : Nat} (h : Ok A) (hx : x < A.n) : Ok (handA A x) := by
  unfold handA
  have e0 := h.2.2.2.1 (2 * x) (by omega)
  have e1 := h.2.2.2.1 (2 * x + 1) (by omega)
  exact ((((h.sF (by omega)).sF (by omega)).sS (mOk_drop e0)).sS (mOk_drop e1)).sG (by omega)
theorem lookA_ok {x : Nat} (h : Ok A) : Ok (lookA A x) := by
  unfold lookA
  split
  · exact h.sF8 (detV_pos h.2.1.1)
  · exact (((((h.sF8 (detV_pos h.2.1.1)).sF (by omega)).sF9 (wOk_0 _)).sG (by omega)).sS (mOk_0 _)).sS (mOk_0 _)
theorem wkH_ok (h : Ok A) : ∀ k, k ≤ A.n → Ok (wkH A k)
  | 0, _ => h
  | k + 1, hk => handA_ok (wkH_ok h k (by omega)) (by rw [wkH_n]; omega)
theorem wkL_ok (h : Ok A) : ∀ k, Ok (wkL A k)
  | 0 => h
  | k + 1 => lookA_ok (wkL_ok h k)
theorem wkS_ok (h : Ok A) : ∀ k, Ok (wkS A k)
  | 0 => h
  | k + 1 => (wkS_ok h k).sF (by omega)
theorem dOk_grD {n : Nat} {d : List De} (h : dOk n d) : dOk n (grD d) := by
  obtain ⟨h1, h2, h3⟩ := h
  have hl : (grD d).length = d.length := List.length_map _
  have e : ∀ i, i < d.length → ∀ t, t < 3 → dg (grD d) i t = dg d i t := fun i hi t ht => by
    rw [dg_grD hi (by omega), if_neg (fun q => by omega)]
  refine ⟨by omega, fun i hi => ?_, fun i k hi hk a b c => ?_⟩
  · rw [hl] at hi
    obtain ⟨a, b, c, v, v1, v2, v3⟩ := h2 i hi
    rw [e i hi 0 (by decide), e i hi 1 (by decide), e i hi 2 (by decide), dg_grD hi (by decide)]
    refine ⟨a, b, c, ?_⟩
    split
    · rename_i q
      have q2 : nI v < nI 99 := by rw [← v3]; exact q.2
      have := (nI_ltI (by omega) (by decide)).mp q2
      exact ⟨v + 1, by omega, by omega, by rw [v3, nI_1]⟩
    · exact ⟨v, v1, v2, v3⟩
  · rw [hl] at hi hk
    rw [e i hi 0 (by decide), e k hk 0 (by decide)] at a
    rw [e i hi 1 (by decide), e k hk 1 (by decide)] at b
    rw [e i hi 2 (by decide), e k hk 2 (by decide)] at c
    exact h3 i k hi hk a b c
theorem weekA_ok (h : Ok A) : Ok (weekA A) := by
  unfold weekA
  have h1 : Ok (wkH A A.n) := wkH_ok h A.n (Nat.le_refl _)
  have h2 : Ok (wk1 A) := wkL_ok h1 A.n
  have h3 : Ok (wk2 A) := wkS_ok h2 A.n
  exact (((h3.sG (by omega)).sD (dOk_grD h3.2.2.2.2)).sG (by omega)).sG (by omega)
theorem weekA_n : (weekA A).n = A.n := wk2_n
-- acts
theorem makeA_ok {x s n : Nat} (h : Ok A) (hx : x < A.n) (hs : s < 2) (hr : (A.s (2 * x + s)).length + n ≤ 20) : Ok (makeA A x s n) := by
  unfold makeA
  exact ((h.sF (by omega)).sS (mOk_make (h.2.2.2.1 _ (by omega)) hx hr)).sG (by omega)
theorem seersV_ok {x y : Nat} : wOk A.n (seersV A x y) := ⟨_, rfl⟩
theorem seeA_ok {x y : Nat} (h : Ok A) (hx : x < A.n) (hy : y < A.n) : Ok (seeA A x y) := by
  unfold seeA
  have w : wOk A.n (seersV A x y) := seersV_ok
  have wx : wOk A.n (A.f x 9 ||| seersV A x y) := wOk_or (h.2.2.1 x hx).2.2.2.2 w
  have wy : wOk A.n (A.f y 9 ||| seersV A x y) := wOk_or (h.2.2.1 y hy).2.2.2.2 w
  generalize seersV A x y = z at *
  have h1 : Ok (A.sF x 6 (A.f x 6 + bc z)) := h.sF (by omega)
  have h2 : Ok ((A.sF x 6 (A.f x 6 + bc z)).sF x 9 (A.f x 9 ||| z)) := h1.sF9 wx
  have h3 : Ok (((A.sF x 6 (A.f x 6 + bc z)).sF x 9 (A.f x 9 ||| z)).sF y 6 (A.f y 6 + bc z)) := h2.sF (by omega)
  have h4 : Ok ((((A.sF x 6 (A.f x 6 + bc z)).sF x 9 (A.f x 9 ||| z)).sF y 6 (A.f y 6 + bc z)).sF y 9 (A.f y 9 ||| z)) := h3.sF9 wy
  exact h4.sG (by omega)
theorem tallyA_ok {v : Int32} (h : Ok A) : Ok (tallyA A t v) := by
  unfold tallyA
  exact h.sG (by omega)
theorem giveA_ok {x y s n : Nat} (h : Ok A) (hx : x < A.n) (hy : y < A.n) (hs : s < 2) (hr : (A.s (2 * y + s)).length + n ≤ 20) : Ok (giveA A x y s n) := by
  unfold giveA
  exact (h.sS (mOk_drop (h.2.2.2.1 _ (by omega)))).sS (mOk_give (h.2.2.2.1 _ (by omega)) (h.2.2.2.1 _ (by omega)) hr)
theorem giveA_s {x y s n q : Nat} (h1 : q ≠ 2 * x + s) (h2 : q ≠ 2 * y + s) : (giveA A x y s n).s q = A.s q := (if_neg h2).trans (if_neg h1)
theorem swapA_ok {x y n m : Nat} (h : Ok A) (hx : x < A.n) (hy : y < A.n) (hrn : (A.s (2 * y)).length + n ≤ 20) (hrm : (A.s (2 * x + 1)).length + m ≤ 20) : Ok (swapA A x y n m) := by
  unfold swapA
  have h1 : Ok (giveA A x y 0 n) := giveA_ok h hx hy (by decide) hrn
  have h2 : Ok (giveA (giveA A x y 0 n) y x 1 m) := giveA_ok h1 hy hx (by decide) (by rw [giveA_s (by omega) (by omega)]; exact hrm)
  exact seeA_ok (tallyA_ok h2) hx hy
theorem nI_inj99 {a b : Nat} (ha : a < 2 ^ 31) (hb : b < 2 ^ 31) (h : nI a = nI b) : a = b := (nI_eq ha hb).mp h
theorem dOk_lendD {n x y s m : Nat} {d : List De} (h : dOk n d) (hx : x < n) (hy : y < n) (hs : s < 2) (hm : 1 ≤ m) (hm2 : m ≤ 20) (hc : canG d (nI x) (nI y) (nI s) (nI m)) : dOk n (lendD d (nI x) (nI y) (nI s) (nI m)) := by
  obtain ⟨h1, h2, h3⟩ := h
  unfold canG at hc
  unfold lendD
  rcases fnd_cases d (nI x) (nI y) (nI s) with ⟨e, hno⟩ | ⟨i, hi, e, hy2, -⟩
  · rw [if_pos e] at hc ⊢
    have hl : (d ++ [(nI x, nI y, nI s, 0 + nI m)]).length = d.length + 1 := List.length_append
    have hnk : ∀ k, k < d.length → ¬ (dg d k 0 = nI x ∧ dg d k 1 = nI y ∧ dg d k 2 = nI s) := fun k hk q => by
      have := hno k hk
      unfold fP at this
      rw [decide_eq_false_iff_not] at this
      exact this q
    refine ⟨by omega, fun i hi => ?_, fun i k hi hk a b c => ?_⟩
    · rw [dg_app, dg_app, dg_app, dg_app]
      by_cases q : i = d.length
      · rw [if_pos q, if_pos q, if_pos q, if_pos q]
        exact ⟨⟨x, hx, rfl⟩, ⟨y, hy, rfl⟩, ⟨s, hs, rfl⟩, m, hm, by omega, by show 0 + nI m = nI m; rw [Int32.zero_add]⟩
      · rw [if_neg q, if_neg q, if_neg q, if_neg q]
        exact h2 i (by omega)
    · rw [dg_app, dg_app] at a b c
      by_cases q : i = d.length
      · by_cases q2 : k = d.length
        · omega
        · rw [if_pos q, if_neg q2] at a b c
          exact absurd ⟨a.symm, b.symm, c.symm⟩ (hnk k (by omega))
      · by_cases q2 : k = d.length
        · rw [if_neg q, if_pos q2] at a b c
          exact absurd ⟨a, b, c⟩ (hnk i (by omega))
        · rw [if_neg q, if_neg q2] at a b c
          exact h3 i k (by omega) (by omega) a b c
  · have ei : (nI i).toNatClampNeg = i := nI_clamp (by omega)
    have hne : ¬ nI i = -1 := nI_nm1 (by omega)
    rw [e, ei] at hc ⊢
    rw [if_neg hne] at hc ⊢
    refine ⟨by rw [setP_len]; exact h1, fun k hk => ?_, fun k l hk hl a b c => ?_⟩
    · rw [setP_len] at hk
      obtain ⟨a, b, c, v, v1, v2, v3⟩ := h2 k hk
      rw [dg_setP hi (by decide), dg_setP hi (by decide), dg_setP hi (by decide), dg_setP hi (by decide), if_neg (fun q => by omega), if_neg (fun q => by omega), if_neg (fun q => by omega)]
      refine ⟨a, b, c, ?_⟩
      by_cases q : k = i
      · subst q
        rw [if_pos ⟨rfl, rfl⟩]
        rw [v3, nI_add] at hc ⊢
        exact ⟨v + m, by omega, (nI_leI (b := 99) (by omega) (by decide)).mp hc, rfl⟩
      · rw [if_neg (fun z => q z.1)]
        exact ⟨v, v1, v2, v3⟩
    · rw [setP_len] at hk hl
      rw [dg_setP hi (by decide), dg_setP hi (by decide), if_neg (fun q => by omega), if_neg (fun q => by omega)] at a b c
      exact h3 k l hk hl a b c
theorem lendA_ok {x y s n : Nat} (h : Ok A) (hx : x < A.n) (hy : y < A.n) (hs : s < 2) (hn : 1 ≤ n) (hn2 : n ≤ 20) (hr : (A.s (2 * y + s)).length + n ≤ 20) (hc : canG A.d (nI y) (nI x) (nI (1 - s)) (nI n)) : Ok (lendA A x y s n) := by
  unfold lendA
  exact (seeA_ok (tallyA_ok (giveA_ok h hx hy hs hr)) hx hy).sD (dOk_lendD h.2.2.2.2 hy hx (by omega) hn hn2 hc)
theorem owedV_at {n i : Nat} {d : List De} {x y s : Int32} (h : dOk n d) (hi : i < d.length) (e : fnd d x y s = nI i) : owedV d x y s = dg d i 3 := by
  unfold owedV
  have := h.1
  rw [e, if_neg (nI_nm1 (by omega)), nI_clamp (by omega)]
theorem dOk_payD {n m : Nat} {d : List De} {x y s : Int32} (h : dOk n d) (hf : fnd d x y s ≠ -1) (hm : 1 ≤ m) (hm2 : m ≤ 20) (hc : ¬ owedV d x y s < nI m) : dOk n (payD d x y s (nI m)) := by
  rcases fnd_cases d x y s with ⟨e, -⟩ | ⟨i, hi, e, -, -⟩
  · exact absurd e hf
  rw [owedV_at h hi e] at hc
  obtain ⟨h1, h2, h3⟩ := h
  have ei : (nI i).toNatClampNeg = i := nI_clamp (by omega)
  unfold payD payV
  rw [e, ei]
  obtain ⟨-, -, -, v, v1, v2, v3⟩ := h2 i hi
  rw [v3] at hc ⊢
  have hmv : m ≤ v := by
    rcases Nat.lt_or_ge v m with q | q
    · exact absurd (nI_lt q (by omega)) hc
    · exact q
  rw [nI_subN hmv]
  by_cases hz : nI (v - m) ≤ 0
  · rw [if_pos hz]
    have hl : ((setP d i (nI (v - m))).eraseIdx i).length = d.length - 1 := by
      rw [List.length_eraseIdx, setP_len, if_pos hi]
    have key : ∀ k t, t < 4 → k < d.length - 1 → dg ((setP d i (nI (v - m))).eraseIdx i) k t = dg d (if k < i then k else k + 1) t := fun k t ht hk => by
      rw [dg_erase]
      split
      · rw [dg_setP hi ht, if_neg (fun q => by omega)]
      · rw [dg_setP hi ht, if_neg (fun q => by omega)]
    refine ⟨by omega, fun k hk => ?_, fun k l hk hl2 a b c => ?_⟩
    · rw [hl] at hk
      rw [key k 0 (by decide) hk, key k 1 (by decide) hk, key k 2 (by decide) hk, key k 3 (by decide) hk]
      exact h2 _ (by split <;> omega)
    · rw [hl] at hk hl2
      rw [key k 0 (by decide) hk, key l 0 (by decide) hl2] at a
      rw [key k 1 (by decide) hk, key l 1 (by decide) hl2] at b
      rw [key k 2 (by decide) hk, key l 2 (by decide) hl2] at c
      have := h3 _ _ (by split <;> omega) (by split <;> omega) a b c
      split at this <;> split at this <;> omega
  · rw [if_neg hz]
    refine ⟨by rw [setP_len]; exact h1, fun k hk => ?_, fun k l hk hl a b c => ?_⟩
    · rw [setP_len] at hk
      obtain ⟨a, b, c, w, w1, w2, w3⟩ := h2 k hk
      rw [dg_setP hi (by decide), dg_setP hi (by decide), dg_setP hi (by decide), dg_setP hi (by decide), if_neg (fun q => by omega), if_neg (fun q => by omega), if_neg (fun q => by omega)]
      refine ⟨a, b, c, ?_⟩
      split
      · refine ⟨v - m, ?_, by omega, rfl⟩
        rcases Nat.lt_or_ge (v - m) 1 with q | q
        · exact absurd (show nI (v - m) ≤ nI 0 from nI_le (by omega) (by decide)) hz
        · exact q
      · exact ⟨w, w1, w2, w3⟩
    · rw [setP_len] at hk hl
      rw [dg_setP hi (by decide), dg_setP hi (by decide), if_neg (fun q => by omega), if_neg (fun q => by omega)] at a b c
      exact h3 k l hk hl a b c
theorem payA_ok {x y s n : Nat} (h : Ok A) (hx : x < A.n) (hy : y < A.n) (hs : s < 2) (hn : 1 ≤ n) (hn2 : n ≤ 20) (hr : (A.s (2 * y + s)).length + n ≤ 20) (hf : fnd A.d (nI x) (nI y) (nI s) ≠ -1) (hc : ¬ owedV A.d (nI x) (nI y) (nI s) < nI n) : Ok (payA A x y s n) := by
  unfold payA
  exact (seeA_ok (tallyA_ok (giveA_ok h hx hy hs hr)) hx hy).sD (dOk_payD h.2.2.2.2 hf hn hn2 hc)
theorem seatA_ok {x : Nat} {r t : Int32} (h : Ok A) : Ok (seatA A x r t) := (h.sF (by omega)).sF (by omega)
def admitA (A : Ab) (x : Nat) : Ab := ((A.sF x 6 (A.f x 6 / 2)).sF x 9 0).sF x 7 (A.f x 7 + 1)
theorem admitA_ok {x : Nat} (h : Ok A) : Ok (admitA A x) := ((h.sF (by omega)).sF9 (wOk_0 _)).sF (by omega)
/-- weeks, one behind the other; how many were punished -/
def wks (A : Ab) : Nat → Ab
  | 0 => A
  | k + 1 => weekA (wks A k)
def wksP (A : Ab) : Nat → Int32
  | 0 => 0
  | k + 1 => wksP A k + wkP (wks A k)
theorem wks_ok (h : Ok A) : ∀ k, Ok (wks A k)
  | 0 => h
  | k + 1 => weekA_ok (wks_ok h k)
theorem wks_n : ∀ k, (wks A k).n = A.n
  | 0 => rfl
  | k + 1 => weekA_n.trans (wks_n k)
end COK
