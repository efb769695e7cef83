/-! ===== .. the school that it sets up ===== -/
section PARSE2
variable {L : List Int32} {i k s q : Nat} {v : Int32}
/-- the school after the pupils ps were read -/
def Inv (ps : List Pu) (A : Ab) : Prop := A.n = ps.length ∧ (∀ j, j < ps.length → A.f j 0 = nI ((ps.getD j (0, 0, 0, false)).1 / 6) ∧ A.f j 1 = nI ((ps.getD j (0, 0, 0, false)).1 % 6)) ∧ (∀ j, j < A.n → A.f j 8 = 0) ∧ (∀ j, j < 2 * A.n → A.s j = []) ∧ A.d = [] ∧ ∀ t, (t = 1 ∨ 6 ≤ t) → A.g t = 0
theorem pgD_l {L S : List Pu} {j : Nat} {d : Pu} (h : j < L.length) : (L ++ S).getD j d = L.getD j d := by
  rw [List.getD_eq_getElem?_getD, List.getD_eq_getElem?_getD, List.getElem?_append_left h]
theorem pgD_r {L : List Pu} {p d : Pu} : (L ++ [p]).getD L.length d = p := by
  rw [List.getD_eq_getElem?_getD, List.getElem?_append_right (Nat.le_refl _), Nat.sub_self]
  rfl
theorem Inv.add {ps : List Pu} {A : Ab} {p : Pu} (h : Inv ps A) : Inv (ps ++ [p]) (enP A p) := by
  obtain ⟨h1, h2, h3, h4, h5, h6⟩ := h
  have e : (ps ++ [p]).length = ps.length + 1 := List.length_append
  refine ⟨?_, fun j hj => ?_, fun j hj => ?_, fun j hj => ?_, h5, h6⟩
  · rw [e]
    show A.n + 1 = _
    rw [h1]
  · rw [e] at hj
    rcases Nat.lt_or_ge j ps.length with z | z
    · rw [pgD_l z]
      have hne : ¬ j = A.n := by omega
      show (if j = A.n then _ else A.f j 0) = _ ∧ (if j = A.n then _ else A.f j 1) = _
      rw [if_neg hne, if_neg hne]
      exact h2 j z
    · obtain rfl : j = ps.length := by omega
      rw [pgD_r]
      show (if ps.length = A.n then _ else A.f ps.length 0) = _ ∧ (if ps.length = A.n then _ else A.f ps.length 1) = _
      rw [if_pos h1.symm, if_pos h1.symm]
      exact ⟨rfl, rfl⟩
  · have hj : j < A.n + 1 := hj
    show (if j = A.n then _ else A.f j 8) = 0
    split
    · rfl
    · exact h3 j (by omega)
  · have hj : j < 2 * (A.n + 1) := hj
    show (if j / 2 = A.n then [] else A.s j) = []
    split
    · rfl
    · exact h4 j (by omega)
theorem pu_mem {ps : List Pu} {j : Nat} (h : j < ps.length) : ps.getD j (0, 0, 0, false) ∈ ps := by
  rw [List.getD_eq_getElem?_getD, List.getElem?_eq_getElem h]
  exact List.getElem_mem h
theorem b6 {a c : Nat} (ha : a < 36) (hc : c < 36) (h0 : nI (a / 6) = nI (c / 6)) (h1 : nI (a % 6) = nI (c % 6)) : a = c := by
  have e0 := (nI_eq (by omega) (by omega)).mp h0
  have e1 := (nI_eq (by omega) (by omega)).mp h1
  omega
theorem inv_on {ps : List Pu} {A : Ab} {p : Pu} (h : Inv ps A) (hok : psOk (ps ++ [p])) : onV A (nI (p.1 / 6)) (nI (p.1 % 6)) = -1 := by
  refine first_none (fun j hj => decide_eq_false (fun z => ?_))
  rw [h.1] at hj
  obtain ⟨e0, e1⟩ := h.2.1 j hj
  have hm := pu_mem hj
  have ha : (ps.getD j (0, 0, 0, false)).1 < 36 := (hok.1 _ (List.mem_append_left _ hm)).1
  have hc : p.1 < 36 := (hok.1 p (List.mem_append_right _ List.mem_cons_self)).1
  have hb := b6 ha hc (e0.symm.trans z.1) (e1.symm.trans z.2)
  have hn := hok.2
  rw [List.map_append, List.nodup_append] at hn
  exact hn.2.2 _ (List.mem_map.mpr ⟨_, hm, rfl⟩) p.1 (by simp) hb
theorem psOk_left {ps qs : List Pu} (h : psOk (ps ++ qs)) : psOk ps := by
  refine ⟨fun p hp => h.1 p (List.mem_append_left _ hp), ?_⟩
  have hn := h.2
  rw [List.map_append, List.nodup_append] at hn
  exact hn.1
/-- the pupils read -/
theorem rd_all : ∀ (ps done : List Pu) (A : Ab) (i k s m : Nat) (v : Int32), L.drop i = rT ps → Inv done A → psOk (done ++ ps) → (done ++ ps).length ≤ 12 → 2 ≤ (done ++ ps).length → ps.length < m → (rdL L m (nxt L (0, -1, k, s, i, v)) A).1.code = 0 ∧ Inv (done ++ ps) (rdL L m (nxt L (0, -1, k, s, i, v)) A).2
  | [], done, A, i, k, s, m, v, hd, hI, hok, h12, h2, hm => by
    rw [List.append_nil] at h2 ⊢
    obtain ⟨c0, k0⟩ := nx_end (k := k) (s := s) (v := v) hd
    obtain ⟨m', rfl⟩ : ∃ m', m = m' + 1 := ⟨m - 1, by have : 0 < m := hm; omega⟩
    have e : rdL L (m' + 1) (nxt L (0, -1, k, s, i, v)) A = (nxt L (0, -1, k, s, i, v), A) := by
      show (if (nxt L (0, -1, k, s, i, v)).code = 0 then (if 2 ≤ A.n ∧ (nxt L (0, -1, k, s, i, v)).kind = 0 then (nxt L (0, -1, k, s, i, v), A) else _) else _) = _
      rw [if_pos c0, if_pos ⟨by rw [hI.1]; exact h2, k0⟩]
    rw [e]
    exact ⟨c0, hI⟩
  | p :: ps, done, A, i, k, s, m, v, hd, hI, hok, h12, h2, hm => by
    have hm : ps.length + 1 < m := hm
    obtain ⟨m', rfl⟩ : ∃ m', m = m' + 1 := ⟨m - 1, by omega⟩
    have ed : done ++ p :: ps = (done ++ [p]) ++ ps := by simp
    rw [ed] at hok h12 h2 ⊢
    have hdp : L.drop i = puT p ++ rT ps := hd
    have hn : A.n < 12 := by
      rw [hI.1]
      rw [List.length_append, List.length_append] at h12
      have : done.length + 1 + ps.length ≤ 12 := h12
      omega
    have hpo : puOk p := hok.1 p (by simp)
    obtain ⟨k', s', v', e1, e2⟩ := rd_one (k := k) (s := s) (v := v) hdp hpo hn (inv_on hI (psOk_left hok)) (fun c hc => rT_head hc)
    have hd2 : L.drop (i + (puT p).length) = rT ps := drop_app hdp
    have hw1 : ∀ c ∈ hSb2 1, pLe c = true := by decide
    obtain ⟨r', d0⟩ : ∃ r', L.drop i = [] ++ (hSb2 1 ++ ([32] ++ r')) := ⟨_, hdp.trans (puT_eq (p := p) (r := rT ps))⟩
    have t0 : nxt L (0, -1, k, s, i, v) = (0, -1, 1, i, i + (hSb2 1).length, v) := nx_word d0 (Or.inl rfl) hw1 (by decide) (fun c => hd_cons (by decide))
    have c0 : (nxt L (0, -1, k, s, i, v)).code = 0 := by rw [t0]
    have k0 : ¬ (nxt L (0, -1, k, s, i, v)).kind = 0 := by
      rw [t0]
      show ¬ (1 : Nat) = 0
      decide
    have c1 : (nxt L (0, -1, k', s', i + (puT p).length, v')).code = 0 := by
      unfold nxt
      split
      · split
        · rfl
        · split <;> rfl
      · rfl
    rw [if_pos c1] at e2
    have e : rdL L (m' + 1) (nxt L (0, -1, k, s, i, v)) A = rdL L m' (nxt L (0, -1, k', s', i + (puT p).length, v')) (enP A p) := by
      show (if (nxt L (0, -1, k, s, i, v)).code = 0 then (if 2 ≤ A.n ∧ (nxt L (0, -1, k, s, i, v)).kind = 0 then _ else rdL L m' (rdPt L (nxt L (0, -1, k, s, i, v)) A) (rdPa L (nxt L (0, -1, k, s, i, v)) A)) else _) = _
      rw [if_pos c0, if_neg (fun z => k0 z.2), e1, e2]
    rw [e]
    exact rd_all ps (done ++ [p]) (enP A p) _ k' s' m' v' hd2 hI.add hok h12 h2 (by omega)
/-- the whole text -/
theorem setup_drawn {x y u w : Nat} {ps : List Pu} (hx : 10 ≤ x ∧ x ≤ 60) (hy : 1 ≤ y ∧ y ≤ 8) (hu : u ≤ 4) (hw : w ≤ 3) (hps : 2 ≤ ps.length ∧ ps.length ≤ 9) (hok : psOk ps) (hL : L = alT (hdT x y u w) ps) : (setupV L v Ab0).1.code = 0 ∧ Inv ps (setupV L v Ab0).2 := by
  have h : L.drop 0 = [] ++ (hSb2 0 ++ ([32] ++ (dgs x ++ ([32] ++ (dgs y ++ ([32] ++ (dgs u ++ ([32] ++ (dgs w ++ (59 :: rT ps)))))))))) := by
    rw [hL, alT_eq]
    rfl
  have b1 : pDi 32 = false := by decide
  have t0 : sT0 L v = (0, -1, 1, 0, 0 + (hSb2 0).length, v) := nx_word h (Or.inl rfl) (by decide) (by decide) (fun c => hd_cons (by decide))
  have d1 : L.drop (0 + (hSb2 0).length) = _ := drop_app h
  have t1 : nxt L (0, -1, 1, 0, 0 + (hSb2 0).length, v) = (0, -1, 2, 0 + (hSb2 0).length + 1, 0 + (hSb2 0).length + 1 + (dgs x).length, nI x) := nx_num (bl := [32]) d1 (by omega) (Or.inr rfl) (fun c => hd_cons b1)
  have d2 : L.drop (0 + (hSb2 0).length + 1 + (dgs x).length) = _ := drop_app (drop_app d1)
  generalize e2 : 0 + (hSb2 0).length + 1 + (dgs x).length = i2 at t1 d2
  have t2 : nxt L (0, -1, 2, 0 + (hSb2 0).length + 1, i2, nI x) = (0, -1, 2, i2 + 1, i2 + 1 + (dgs y).length, nI y) := nx_num (bl := [32]) d2 (by omega) (Or.inr rfl) (fun c => hd_cons b1)
  have d3 : L.drop (i2 + 1 + (dgs y).length) = _ := drop_app (drop_app d2)
  generalize e3 : i2 + 1 + (dgs y).length = i3 at t2 d3
  have t3 : nxt L (0, -1, 2, i2 + 1, i3, nI y) = (0, -1, 2, i3 + 1, i3 + 1 + (dgs u).length, nI u) := nx_num (bl := [32]) d3 (by omega) (Or.inr rfl) (fun c => hd_cons b1)
  have d4 : L.drop (i3 + 1 + (dgs u).length) = _ := drop_app (drop_app d3)
  generalize e4 : i3 + 1 + (dgs u).length = i4 at t3 d4
  have t4 : nxt L (0, -1, 2, i3 + 1, i4, nI u) = (0, -1, 2, i4 + 1, i4 + 1 + (dgs w).length, nI w) := nx_num (bl := [32]) d4 (by omega) (Or.inr rfl) (fun c => hd_cons (by decide))
  have d5 : L.drop (i4 + 1 + (dgs w).length) = 59 :: rT ps := drop_app (drop_app d4)
  generalize e5 : i4 + 1 + (dgs w).length = i5 at t4 d5
  have t5 : nxt L (0, -1, 2, i4 + 1, i5, nI w) = (0, -1, 3, i5, i5 + 1, nI w) := nx_semi d5
  have d6 : L.drop (i5 + 1) = rT ps := drop_app (a := [59]) d5
  have q1 : sT1 L v = (0, -1, 2, 0 + (hSb2 0).length + 1, i2, nI x) := by
    unfold sT1
    rw [t0, tkW_ok (w := hSb2 0) h, t1]
  have q2 : sT2 L v = (0, -1, 2, i2 + 1, i3, nI y) := by
    unfold sT2
    rw [q1]
    exact (tkN_ok (a := 10) (b := 60) hx.1 hx.2 (by decide)).trans t2
  have q3 : sT3 L v = (0, -1, 2, i3 + 1, i4, nI u) := by
    unfold sT3
    rw [q2]
    exact (tkN_ok (a := 1) (b := 20) hy.1 (by omega) (by decide)).trans t3
  have q4 : sT4 L v = (0, -1, 2, i4 + 1, i5, nI w) := by
    unfold sT4
    rw [q3]
    exact (tkN_ok (a := 0) (b := 9) (Nat.zero_le _) (by omega) (by decide)).trans t4
  have q5 : sT5 L v = (0, -1, 3, i5, i5 + 1, nI w) := by
    unfold sT5
    rw [q4]
    exact (tkN_ok (a := 0) (b := 9) (Nat.zero_le _) (by omega) (by decide)).trans t5
  have q6 : sT6 L v = nxt L (0, -1, 3, i5, i5 + 1, nI w) := by
    unfold sT6
    rw [q5]
    exact tkS_ok
  have hI : Inv [] (sA6 L v Ab0) := by
    refine ⟨rfl, fun j hj => absurd hj (Nat.not_lt_zero j), fun j hj => absurd hj (Nat.not_lt_zero j), fun j hj => absurd hj (Nat.not_lt_zero j), rfl, fun t ht => ?_⟩
    show (if t = 2 then _ else if t = 3 then _ else if t = 4 then _ else if t = 5 then _ else (0 : Int32)) = 0
    rw [if_neg (by omega), if_neg (by omega), if_neg (by omega), if_neg (by omega)]
  unfold setupV
  rw [q6]
  exact rd_all ps [] _ _ _ _ 13 _ d6 hI hok (by simp; omega) (by simp; omega) (by omega)
-- what follows
theorem Inv.gd {ps : List Pu} {A : Ab} (h : Inv ps A) (hok : psOk ps) (hl : ps.length ≤ 9) : Gd A := by
  obtain ⟨h1, h2, h3, h4, h5, h6⟩ := h
  have hz : ∀ s, s ≤ 1 → piecesV A s = 0 := fun s hs => by
    unfold piecesV
    rw [sm_cong (g := fun _ => 0) (fun j hj => by rw [h4 (2 * j + s) (by omega)]; rfl)]
    exact sm_z _
  refine ⟨fun i hi => ?_, fun p hp => ?_, fun p q hp hq e0 e1 => ?_, ?_, fun p hp => by rw [h3 p hp]; decide⟩
  · rw [h5] at hi
    exact absurd hi (Nat.not_lt_zero i)
  · rw [h1] at hp
    have hb := (hok.1 _ (pu_mem hp)).1
    exact ⟨_, _, by omega, by omega, (h2 p hp).1, (h2 p hp).2⟩
  · rw [h1] at hp hq
    have hbp := (hok.1 _ (pu_mem hp)).1
    have hbq := (hok.1 _ (pu_mem hq)).1
    have e := b6 hbp hbq ((h2 p hp).1.symm.trans (e0.trans (h2 q hq).1)) ((h2 p hp).2.symm.trans (e1.trans (h2 q hq).2))
    have hn := hok.2
    have hp' : p < (ps.map Prod.fst).length := by rw [List.length_map]; exact hp
    have hq' : q < (ps.map Prod.fst).length := by rw [List.length_map]; exact hq
    refine (List.getElem_inj (h₀ := hp') (h₁ := hq') hn).mp ?_
    rw [List.getElem_map, List.getElem_map]
    rw [List.getD_eq_getElem?_getD, List.getD_eq_getElem?_getD, List.getElem?_eq_getElem hp, List.getElem?_eq_getElem hq] at e
    exact e
  · rw [hz 0 (by decide), hz 1 (by decide), h6 7 (by decide), h6 8 (by decide), h6 12 (by decide), h6 13 (by decide)]
    decide
theorem Inv.bd {ps : List Pu} {A : Ab} (h : Inv ps A) : Bd 0 A :=
  ⟨0, 0, 0, 0, ⟨h.2.2.2.2.2 1 (by decide), h.2.2.2.2.2 7 (by decide), h.2.2.2.2.2 9 (by decide), h.2.2.2.2.2 14 (by decide)⟩, Nat.le_refl _, Nat.le_refl _, Nat.le_refl _, Nat.le_refl _⟩
-- letters
theorem let_all : ((hSb2 6).all (fun c => decide (c.toNatClampNeg < 128 ∧ nI c.toNatClampNeg = c)) && (hSb2 7).all (fun c => decide (c.toNatClampNeg < 128 ∧ nI c.toNatClampNeg = c)) && (hSb2 8).all (fun c => decide (c.toNatClampNeg < 128 ∧ nI c.toNatClampNeg = c)) && (hSb2 9).all (fun c => decide (c.toNatClampNeg < 128 ∧ nI c.toNatClampNeg = c))) = true := by decide +kernel
def isC (c : Int32) : Prop := ∃ n, n < 128 ∧ c = nI n
theorem let_mem {i : Nat} {c : Int32} (hi : i = 6 ∨ i = 7 ∨ i = 8 ∨ i = 9) (hc : c ∈ hSb2 i) : isC c := by
  have h := let_all
  simp only [Bool.and_eq_true] at h
  obtain ⟨⟨⟨h6, h7⟩, h8⟩, h9⟩ := h
  have key : decide (c.toNatClampNeg < 128 ∧ nI c.toNatClampNeg = c) = true := by
    rcases hi with rfl | rfl | rfl | rfl
    · exact List.all_eq_true.mp h6 c hc
    · exact List.all_eq_true.mp h7 c hc
    · exact List.all_eq_true.mp h8 c hc
    · exact List.all_eq_true.mp h9 c hc
  obtain ⟨k1, k2⟩ := of_decide_eq_true key
  exact ⟨_, k1, k2.symm⟩
theorem dgs_mem {k : Nat} {c : Int32} (hk : k < 80) (hc : c ∈ dgs k) : isC c := by
  unfold dgs at hc
  split at hc
  · rw [List.mem_singleton.mp hc]
    exact ⟨48 + k, by omega, rfl⟩
  · rcases List.mem_cons.mp hc with h | h
    · exact ⟨48 + k / 10, by omega, h⟩
    · exact ⟨48 + k % 10, by omega, List.mem_singleton.mp h⟩
theorem puT_mem {p : Pu} (h : puOk p) {c : Int32} (hc : c ∈ puT p) : isC c := by
  obtain ⟨h1, h2, h3⟩ := h
  have h32 : isC (nI 32) := ⟨32, by decide, rfl⟩
  unfold puT at hc
  simp only [List.mem_append, List.mem_singleton] at hc
  rcases hc with (((((((h | h) | h) | h) | h) | h) | h) | h) | h
  · exact let_mem (Or.inr (Or.inl rfl)) h
  · exact dgs_mem (by omega) h
  · rw [h]; exact h32
  · exact dgs_mem (by omega) h
  · rw [h]; exact h32
  · exact dgs_mem (by omega) h
  · rw [h]; exact h32
  · exact dgs_mem (by omega) h
  · split at h
    · exact let_mem (Or.inr (Or.inr (Or.inl rfl))) h
    · exact let_mem (Or.inr (Or.inr (Or.inr rfl))) h
theorem alT_mem {x y u w : Nat} {ps : List Pu} (hx : x ≤ 60) (hy : y ≤ 8) (hu : u ≤ 4) (hw : w ≤ 3) (hok : psOk ps) {c : Int32} (hc : c ∈ alT (hdT x y u w) ps) : isC c := by
  have h32 : isC (nI 32) := ⟨32, by decide, rfl⟩
  unfold alT hdT at hc
  simp only [List.mem_append, List.mem_singleton, List.mem_flatMap] at hc
  rcases hc with ((((((((h | h) | h) | h) | h) | h) | h) | h) | h) | ⟨p, hp, h⟩
  · exact let_mem (Or.inl rfl) h
  · exact dgs_mem (by omega) h
  · rw [h]; exact h32
  · exact dgs_mem (by omega) h
  · rw [h]; exact h32
  · exact dgs_mem (by omega) h
  · rw [h]; exact h32
  · exact dgs_mem (by omega) h
  · rw [h]; exact ⟨59, by decide, rfl⟩
  · exact puT_mem (hok.1 p hp) h
end PARSE2
