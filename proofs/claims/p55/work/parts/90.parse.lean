/-! ===== a drawn text is a setup ===== -/
section PARSE
variable {L : List Int32} {i k s q : Nat} {v : Int32}
theorem tw_app {p : Int32 → Bool} : ∀ {a r : List Int32}, (∀ c ∈ a, p c = true) → (∀ c, r.head? = some c → p c = false) → (a ++ r).takeWhile p = a
  | [], [], _, _ => rfl
  | [], c :: r, _, h => by
    rw [List.nil_append]
    exact List.takeWhile_cons_of_neg (by rw [h c rfl]; decide)
  | x :: a, r, h1, h2 => by
    rw [List.cons_append, List.takeWhile_cons_of_pos (h1 x List.mem_cons_self), tw_app (fun c hc => h1 c (List.mem_cons_of_mem _ hc)) h2]
theorem sk_app {p : Int32 → Bool} {a r : List Int32} (h : L.drop i = a ++ r) (h1 : ∀ c ∈ a, p c = true) (h2 : ∀ c, r.head? = some c → p c = false) : sk p L i = i + a.length := by
  unfold sk
  rw [h, tw_app h1 h2]
theorem drop_app {a r : List Int32} (h : L.drop i = a ++ r) : L.drop (i + a.length) = r := by
  rw [← List.drop_drop, h, List.drop_left]
theorem drop_get {r : List Int32} (h : L.drop i = r) (j : Nat) : L.getD (i + j) 0 = r.getD j 0 := by
  rw [List.getD_eq_getElem?_getD, List.getD_eq_getElem?_getD, ← h, List.getElem?_drop]
theorem drop_lt {r : List Int32} {c : Int32} (h : L.drop i = c :: r) : i < L.length := by
  rcases Nat.lt_or_ge i L.length with z | z
  · exact z
  · rw [List.drop_eq_nil_of_le z] at h
    cases h
theorem le_bl {c : Int32} (h : pLe c = true) : pBl c = false := by
  unfold pLe at h
  have h1 := of_decide_eq_true h
  unfold pBl
  refine decide_eq_false (fun z => ?_)
  rcases z with rfl | rfl
  · exact absurd h1.1 (by decide)
  · exact absurd h1.1 (by decide)
/-- blanks ahead of a token -/
def blk (bl : List Int32) : Prop := bl = [] ∨ bl = [32]
theorem blk_p {bl : List Int32} (h : blk bl) : ∀ c ∈ bl, pBl c = true := by
  rcases h with rfl | rfl
  · intro c hc
    cases hc
  · intro c hc
    rw [List.mem_singleton.mp hc]
    decide
theorem nx_word {bl w r : List Int32} (h : L.drop i = bl ++ (w ++ r)) (hb : blk bl) (hw : ∀ c ∈ w, pLe c = true) (hne : w ≠ []) (hr : ∀ c, r.head? = some c → pLe c = false) : nxt L (0, -1, k, s, i, v) = (0, -1, 1, i + bl.length, i + bl.length + w.length, v) := by
  have hd : L.drop (i + bl.length) = w ++ r := drop_app h
  have e2 : sk pLe L (i + bl.length) = i + bl.length + w.length := sk_app hd hw hr
  obtain ⟨c, w', rfl⟩ := List.exists_cons_of_ne_nil hne
  have hc := hw c List.mem_cons_self
  have e1 : sk pBl L i = i + bl.length := sk_app h (blk_p hb) (fun c' hc' => by
    have : c' = c := (Option.some.inj hc').symm
    rw [this]
    exact le_bl hc)
  have g : L.getD (i + bl.length) 0 = c := drop_get hd 0
  have l : i + bl.length < L.length := drop_lt hd
  unfold nxt
  show (if sk pBl L i < L.length then _ else _) = _
  rw [e1, if_pos l, g, if_pos hc, e2]
theorem dgs_all : ∀ q, q < 100 → (dgs q).all (fun c => pDi c && !pLe c && !pBl c) = true ∧ (dgs q ≠ []) := by decide +kernel
theorem dgs_v1 : ∀ q, q < 10 → imin (0 * 10 + nI (48 + q) - 48) 1000 = nI q := by decide +kernel
theorem dgs_v2 : ∀ q, q < 100 → imin (imin (0 * 10 + nI (48 + q / 10) - 48) 1000 * 10 + nI (48 + q % 10) - 48) 1000 = nI q := by decide +kernel
theorem nv_dgs {r : List Int32} (h : L.drop i = dgs q ++ r) (hq : q < 100) : nvC L i (dgs q).length = nI q := by
  by_cases z : q < 10
  · have e : dgs q = [nI (48 + q)] := if_pos z
    rw [e] at h ⊢
    show imin (nvC L i 0 * 10 + L.getD (i + 0) 0 - 48) 1000 = nI q
    rw [drop_get h 0]
    exact dgs_v1 q z
  · have e : dgs q = [nI (48 + q / 10), nI (48 + q % 10)] := if_neg z
    rw [e] at h ⊢
    show imin (imin (nvC L i 0 * 10 + L.getD (i + 0) 0 - 48) 1000 * 10 + L.getD (i + 1) 0 - 48) 1000 = nI q
    rw [drop_get h 0, drop_get h 1]
    exact dgs_v2 q hq
theorem nx_num {bl r : List Int32} (h : L.drop i = bl ++ (dgs q ++ r)) (hq : q < 100) (hb : blk bl) (hr : ∀ c, r.head? = some c → pDi c = false) : nxt L (0, -1, k, s, i, v) = (0, -1, 2, i + bl.length, i + bl.length + (dgs q).length, nI q) := by
  have hd : L.drop (i + bl.length) = dgs q ++ r := drop_app h
  obtain ⟨h1, h2⟩ := dgs_all q hq
  have hall : ∀ c ∈ dgs q, pDi c = true ∧ pLe c = false ∧ pBl c = false := fun c hc => by
    have := List.all_eq_true.mp h1 c hc
    simpa [and_assoc] using this
  have e2 : sk pDi L (i + bl.length) = i + bl.length + (dgs q).length := sk_app hd (fun c hc => (hall c hc).1) hr
  have e3 : nvC L (i + bl.length) (dgs q).length = nI q := nv_dgs hd hq
  obtain ⟨c, w', ec⟩ := List.exists_cons_of_ne_nil h2
  have hc := hall c (by rw [ec]; exact List.mem_cons_self)
  have e1 : sk pBl L i = i + bl.length := sk_app h (blk_p hb) (fun c' hc' => by
    rw [ec] at hc'
    have : c' = c := (Option.some.inj hc').symm
    rw [this]
    exact hc.2.2)
  have g : L.getD (i + bl.length) 0 = c := by
    rw [ec] at hd
    exact drop_get hd 0
  have l : i + bl.length < L.length := by
    rw [ec] at hd
    exact drop_lt hd
  unfold nxt
  show (if sk pBl L i < L.length then _ else _) = _
  rw [e1, if_pos l, g, if_neg (by rw [hc.2.1]; decide), if_pos hc.1, e2, Nat.add_sub_cancel_left, e3]
theorem nx_semi {r : List Int32} (h : L.drop i = 59 :: r) : nxt L (0, -1, k, s, i, v) = (0, -1, 3, i, i + 1, v) := by
  have e1 : sk pBl L i = i + ([] : List Int32).length := sk_app (a := []) h (fun c hc => by cases hc) (fun c hc => by
    have : c = 59 := (Option.some.inj hc).symm
    rw [this]
    decide)
  have e1 : sk pBl L i = i := e1
  have g : L.getD i 0 = 59 := drop_get h 0
  have l : i < L.length := drop_lt h
  unfold nxt
  show (if sk pBl L i < L.length then _ else _) = _
  rw [e1, if_pos l, g, if_neg (by decide), if_neg (by decide), if_pos rfl]
theorem nx_end (h : L.drop i = []) : (nxt L (0, -1, k, s, i, v)).code = 0 ∧ (nxt L (0, -1, k, s, i, v)).kind = 0 := by
  have l : L.length ≤ i := List.drop_eq_nil_iff.mp h
  have e1 : sk pBl L i = i := sk_stop (fun z => absurd z (by omega))
  have e : nxt L (0, -1, k, s, i, v) = (0, -1, 0, i, i, v) := by
    unfold nxt
    show (if sk pBl L i < L.length then _ else _) = _
    rw [e1, if_neg (by omega)]
  rw [e]
  exact ⟨rfl, rfl⟩
theorem is_word {w r : List Int32} (h : L.drop s = w ++ r) : isW L (0, -1, 1, s, s + w.length, v) w := by
  refine isW_iff.mpr ⟨rfl, rfl, fun j hj => ?_⟩
  show L.getD (s + j) 0 = _
  rw [drop_get h j, gD_l hj]
theorem tkW_ok {w r : List Int32} (h : L.drop s = w ++ r) : tkW L w (0, -1, 1, s, s + w.length, v) = nxt L (0, -1, 1, s, s + w.length, v) := by
  unfold tkW
  rw [if_pos (is_word h)]
  rfl
theorem lkN_ok {a b j e : Nat} (ha : a ≤ j) (hb : j ≤ b) (hj : b < 2 ^ 31) : lkN (nI a) (nI b) (0, -1, 2, s, e, nI j) = (0, -1, 2, s, e, nI j) := by
  unfold lkN
  rw [if_neg (fun z => z.elim (nI_nlt ha (by omega)) (nI_nlt hb hj))]
  rfl
theorem tkN_ok {a b j e : Nat} (ha : a ≤ j) (hb : j ≤ b) (hj : b < 2 ^ 31) : tkN L (nI a) (nI b) (0, -1, 2, s, e, nI j) = nxt L (0, -1, 2, s, e, nI j) := by
  unfold tkN
  rw [lkN_ok ha hb hj]
  rfl
theorem tkS_ok {e : Nat} : tkS L (0, -1, 3, s, e, v) = nxt L (0, -1, 3, s, e, v) := rfl
-- the letters
theorem w_school : hSb2 6 = hSb2 0 ++ [32] ∧ hSb2 7 = hSb2 1 ++ [32] ∧ hSb2 8 = 32 :: (hSb2 2 ++ [59]) ∧ hSb2 9 = [59] := by decide
theorem w_le : ((hSb2 0).all pLe && (hSb2 1).all pLe && (hSb2 2).all pLe) = true := by decide
/-- the pupils' text -/
def rT (ps : List Pu) : List Int32 := ps.flatMap puT
theorem puT_eq {p : Pu} {r : List Int32} : puT p ++ r = hSb2 1 ++ ([32] ++ (dgs (p.1 / 6) ++ ([32] ++ (dgs (p.1 % 6) ++ ([32] ++ (dgs p.2.1 ++ ([32] ++ (dgs p.2.2.1 ++ ((if p.2.2.2 = true then 32 :: (hSb2 2 ++ [59]) else [59]) ++ r))))))))) := by
  unfold puT
  rw [w_school.2.1, w_school.2.2.1, w_school.2.2.2, show nI 32 = 32 from rfl]
  simp only [List.append_assoc]
theorem alT_eq {x y u w : Nat} {ps : List Pu} : alT (hdT x y u w) ps = hSb2 0 ++ ([32] ++ (dgs x ++ ([32] ++ (dgs y ++ ([32] ++ (dgs u ++ ([32] ++ (dgs w ++ (59 :: rT ps))))))))) := by
  unfold alT hdT rT
  rw [w_school.1, show nI 32 = 32 from rfl, show nI 59 = 59 from rfl]
  simp only [List.append_assoc, List.cons_append, List.nil_append]
theorem hd_cons {c d : Int32} {r : List Int32} {p : Int32 → Bool} (h : p d = false) : (d :: r).head? = some c → p c = false := fun z => by
  rw [← Option.some.inj z]
  exact h
theorem rT_head {ps : List Pu} {c : Int32} (h : (rT ps).head? = some c) : pLe c = true := by
  cases ps with
  | nil => cases h
  | cons p ps =>
    have e : rT (p :: ps) = puT p ++ rT ps := rfl
    rw [e, puT_eq] at h
    have h2 : hSb2 1 = 112 :: [117, 112, 105, 108] := rfl
    rw [h2] at h
    have : c = 112 := (Option.some.inj h).symm
    rw [this]
    decide
-- a pupil enrolled
def enP (A : Ab) (p : Pu) : Ab := enrolA A (nI (p.1 / 6)) (nI (p.1 % 6)) (nI p.2.1) (nI p.2.2.1) (if p.2.2.2 = true then 1 else 0)
theorem rd_one {A : Ab} {p : Pu} {r : List Int32} (h : L.drop i = puT p ++ r) (hok : puOk p) (hn : A.n < 12) (hon : onV A (nI (p.1 / 6)) (nI (p.1 % 6)) = -1) (hr : ∀ c, r.head? = some c → pLe c = true) :
    ∃ k' s' v', rdPt L (nxt L (0, -1, k, s, i, v)) A = nxt L (0, -1, k', s', i + (puT p).length, v') ∧ rdPa L (nxt L (0, -1, k, s, i, v)) A = (if (nxt L (0, -1, k', s', i + (puT p).length, v')).code = 0 then enP A p else A) := by
  obtain ⟨hb, ha, hc⟩ := hok
  have hdd : L.drop (i + (puT p).length) = r := drop_app h
  rw [puT_eq] at h
  have hw1 : ∀ c ∈ hSb2 1, pLe c = true := by decide
  have b0 : pLe 32 = false := by decide
  have b1 : pDi 32 = false := by decide
  -- the word
  have d0 : L.drop i = [] ++ (hSb2 1 ++ _) := h
  have t0 : nxt L (0, -1, k, s, i, v) = (0, -1, 1, i, i + (hSb2 1).length, v) := nx_word d0 (Or.inl rfl) hw1 (by decide) (fun c => hd_cons b0)
  have d1 := drop_app h
  have t1 : nxt L (0, -1, 1, i, i + (hSb2 1).length, v) = (0, -1, 2, i + (hSb2 1).length + 1, i + (hSb2 1).length + 1 + (dgs (p.1 / 6)).length, nI (p.1 / 6)) := nx_num (bl := [32]) d1 (by omega) (Or.inr rfl) (fun c => hd_cons b1)
  have d2 : L.drop (i + (hSb2 1).length + 1 + (dgs (p.1 / 6)).length) = _ := drop_app (drop_app d1)
  generalize e2 : i + (hSb2 1).length + 1 + (dgs (p.1 / 6)).length = i2 at t1 d2
  have t2 : nxt L (0, -1, 2, i + (hSb2 1).length + 1, i2, nI (p.1 / 6)) = (0, -1, 2, i2 + 1, i2 + 1 + (dgs (p.1 % 6)).length, nI (p.1 % 6)) := nx_num (bl := [32]) d2 (by omega) (Or.inr rfl) (fun c => hd_cons b1)
  have d3 : L.drop (i2 + 1 + (dgs (p.1 % 6)).length) = _ := drop_app (drop_app d2)
  generalize e3 : i2 + 1 + (dgs (p.1 % 6)).length = i3 at t2 d3
  have t3 : nxt L (0, -1, 2, i2 + 1, i3, nI (p.1 % 6)) = (0, -1, 2, i3 + 1, i3 + 1 + (dgs p.2.1).length, nI p.2.1) := nx_num (bl := [32]) d3 (by omega) (Or.inr rfl) (fun c => hd_cons b1)
  have d4 : L.drop (i3 + 1 + (dgs p.2.1).length) = _ := drop_app (drop_app d3)
  generalize e4 : i3 + 1 + (dgs p.2.1).length = i4 at t3 d4
  have t4 : nxt L (0, -1, 2, i3 + 1, i4, nI p.2.1) = (0, -1, 2, i4 + 1, i4 + 1 + (dgs p.2.2.1).length, nI p.2.2.1) := nx_num (bl := [32]) d4 (by omega) (Or.inr rfl) (fun c hc9 => by
    cases hs : p.2.2.2
    · rw [hs] at hc9
      exact hd_cons (p := pDi) (d := 59) (r := r) (by decide) hc9
    · rw [hs] at hc9
      exact hd_cons (p := pDi) (d := 32) (r := hSb2 2 ++ [59] ++ r) b1 hc9)
  have d5 : L.drop (i4 + 1 + (dgs p.2.2.1).length) = _ := drop_app (drop_app d4)
  generalize e5 : i4 + 1 + (dgs p.2.2.1).length = i5 at t4 d5
  -- the pupil's tokens
  have q1 : p1 L (nxt L (0, -1, k, s, i, v)) A = (0, -1, 1, i, i + (hSb2 1).length, v) := by
    unfold p1
    rw [if_pos hn, t0]
  have q2 : p2 L (nxt L (0, -1, k, s, i, v)) A = (0, -1, 2, i + (hSb2 1).length + 1, i2, nI (p.1 / 6)) := by
    unfold p2
    rw [q1, tkW_ok h, t1]
  have q3 : p3 L (nxt L (0, -1, k, s, i, v)) A = (0, -1, 2, i2 + 1, i3, nI (p.1 % 6)) := by
    unfold p3
    rw [q2]
    exact (tkN_ok (a := 0) (b := 5) (Nat.zero_le _) (by omega) (by decide)).trans t2
  have q4 : p4 L (nxt L (0, -1, k, s, i, v)) A = (0, -1, 2, i2 + 1, i3, nI (p.1 % 6)) := by
    unfold p4
    rw [q3]
    exact lkN_ok (a := 0) (b := 5) (Nat.zero_le _) (by omega) (by decide)
  have q5 : p5 L (nxt L (0, -1, k, s, i, v)) A = (0, -1, 2, i2 + 1, i3, nI (p.1 % 6)) := by
    unfold p5
    rw [q2, q3, if_pos hon, q4]
  have q6 : p6 L (nxt L (0, -1, k, s, i, v)) A = (0, -1, 2, i3 + 1, i4, nI p.2.1) := by
    unfold p6
    rw [q5]
    exact t3
  have q7 : p7 L (nxt L (0, -1, k, s, i, v)) A = (0, -1, 2, i4 + 1, i5, nI p.2.2.1) := by
    unfold p7
    rw [q6]
    exact (tkN_ok (a := 1) (b := 9) ha.1 ha.2 (by decide)).trans t4
  have q8 : p8 L (nxt L (0, -1, k, s, i, v)) A = nxt L (0, -1, 2, i4 + 1, i5, nI p.2.2.1) := by
    unfold p8
    rw [q7]
    exact tkN_ok (a := 1) (b := 9) hc.1 hc.2 (by decide)
  cases hs : p.2.2.2
  · -- no spy
    rw [hs] at d5
    have d5' : L.drop i5 = 59 :: r := d5
    have t5 : nxt L (0, -1, 2, i4 + 1, i5, nI p.2.2.1) = (0, -1, 3, i5, i5 + 1, nI p.2.2.1) := nx_semi d5'
    have hw : ¬ isW L (0, -1, 3, i5, i5 + 1, nI p.2.2.1) (hSb2 2) := fun z => absurd (isW_iff.mp z).1 (by show ¬ (3 : Nat) = 1; decide)
    have q9 : p9 L (nxt L (0, -1, k, s, i, v)) A = (0, -1, 3, i5, i5 + 1, nI p.2.2.1) := by
      unfold p9
      rw [q8, t5, if_neg hw]
    have qs : pSpy L (nxt L (0, -1, k, s, i, v)) A = 0 := by
      unfold pSpy
      rw [q8, t5, if_neg hw]
    have el : i + (puT p).length = i5 + 1 := by
      have h9 : (puT p ++ []).length = _ := congrArg List.length (puT_eq (p := p) (r := []))
      rw [hs] at h9
      simp at h9
      omega
    refine ⟨3, i5, nI p.2.2.1, ?_, ?_⟩
    · unfold rdPt
      rw [q9, el]
      exact tkS_ok
    · unfold rdPa rdPt
      rw [q9, tkS_ok, el, q2, q3, q6, q7, qs]
      unfold enP
      rw [hs]
      rfl
  · rw [hs] at d5
    have d5' : L.drop i5 = [32] ++ (hSb2 2 ++ (59 :: r)) := by
      rw [d5]
      simp
    have t5 : nxt L (0, -1, 2, i4 + 1, i5, nI p.2.2.1) = (0, -1, 1, i5 + 1, i5 + 1 + (hSb2 2).length, nI p.2.2.1) := nx_word (bl := [32]) d5' (Or.inr rfl) (by decide) (by decide) (fun c => hd_cons (by decide))
    have hw : isW L (0, -1, 1, i5 + 1, i5 + 1 + (hSb2 2).length, nI p.2.2.1) (hSb2 2) := is_word (drop_app (a := [32]) d5')
    have d6 : L.drop (i5 + 1 + (hSb2 2).length) = 59 :: r := drop_app (drop_app (a := [32]) d5')
    have t6 : nxt L (0, -1, 1, i5 + 1, i5 + 1 + (hSb2 2).length, nI p.2.2.1) = (0, -1, 3, i5 + 1 + (hSb2 2).length, i5 + 1 + (hSb2 2).length + 1, nI p.2.2.1) := nx_semi d6
    have q9 : p9 L (nxt L (0, -1, k, s, i, v)) A = (0, -1, 3, i5 + 1 + (hSb2 2).length, i5 + 1 + (hSb2 2).length + 1, nI p.2.2.1) := by
      unfold p9
      rw [q8, t5, if_pos hw]
      exact t6
    have qs : pSpy L (nxt L (0, -1, k, s, i, v)) A = 1 := by
      unfold pSpy
      rw [q8, t5, if_pos hw]
    have el : i + (puT p).length = i5 + 1 + (hSb2 2).length + 1 := by
      have h9 : (puT p ++ []).length = _ := congrArg List.length (puT_eq (p := p) (r := []))
      rw [hs] at h9
      simp at h9
      omega
    refine ⟨3, i5 + 1 + (hSb2 2).length, nI p.2.2.1, ?_, ?_⟩
    · unfold rdPt
      rw [q9, el]
      exact tkS_ok
    · unfold rdPa rdPt
      rw [q9, tkS_ok, el, q2, q3, q6, q7, qs]
      unfold enP
      rw [hs]
      rfl
end PARSE
