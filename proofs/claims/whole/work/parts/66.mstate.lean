/-! ===== HomeworkBarterModel: its whole state ===== -/
section MSTATE
variable {E : Ed} {M M' : Mm} {P : Res → Mm → Prop} {A B : Ab} {o : Nat} {D : Nat → Nat → Nat → Prop}
def MU (M : Mm) (U : List Ab) : Prop := U.length ≤ 6 ∧ M.1 20 0 0 4 = nI U.length ∧ ∀ i, i < U.length → MR M (1 + i) (ug U i)
def MS (M : Mm) (S : Nat → Option Ab) : Prop := ∀ s, s < 2 → (S s = none ∧ M.1 22 0 0 s = 0) ∨ ∃ B, S s = some B ∧ M.1 22 0 0 s = 1 ∧ MR M (7 + s) B
def MRf (M : Mm) (R : Nat → Int32) : Prop := ∀ r, 1 ≤ r → r ≤ 10 → M.1 23 0 0 r = R r
def MT (M : Mm) (L : List Int32) : Prop := M.1 20 0 0 7 = nI L.length ∧ L.length ≤ 500 ∧ ∀ k, k < L.length → M.1 24 0 0 k = L.getD k 0
def ME (M : Mm) (e : Int32 × Int32) : Prop := M.1 20 0 0 8 = e.1 ∧ M.1 20 0 0 9 = e.2
def MW (M : Mm) (W : List Int32) : Prop := M.1 20 0 0 17 = nI W.length ∧ W.length ≤ 240 ∧ ∀ k, k < W.length → M.1 26 0 0 k = W.getD k 0
def MG (M : Mm) (g : Gs) : Prop := Ro M 0 ∧ MR M 0 g.A ∧ MU M g.U ∧ MS M g.S ∧ MRf M g.R ∧ MT M g.L ∧ ME M g.e ∧ MW M g.W
def dMo : Nat → Nat → Nat → Prop := fun k _ _ => 20 ≤ k ∧ k ≤ 26 ∧ k ≠ 25
/-- what a call of the model changes: neither the commands nor their number -/
def Fm (M M' : Mm) : Prop := Fr dMo M M' ∧ M'.1 20 0 0 15 = M.1 20 0 0 15
theorem Fm.rfl : Fm M M := ⟨Fr.rfl, Eq.refl _⟩
theorem Fm.trans {M'' : Mm} (h : Fm M M') (h2 : Fm M' M'') : Fm M M'' := ⟨h.1.trans h2.1, h2.2.trans h.2⟩
theorem Fm.up {k j p t : Nat} {v : Int32} (h : Fm M M') (hd : 20 ≤ k ∧ (k ≤ 26 ∧ k ≠ 25 ∧ (k = 20 → t ≠ 15))) : Fm M (M'.up k j p t v) := ⟨h.1.up ⟨hd.1, hd.2.1, hd.2.2.1⟩, by
  rw [← h.2]
  show mU M'.1 k j p t v 20 0 0 15 = _
  unfold mU
  exact if_neg (fun q => hd.2.2.2 q.1.symm q.2.2.2.symm)⟩
theorem Fo.mo {M0 : Mm} (h : Fo o M M') (hf : Fm M0 M) : Fm M0 M' := ⟨hf.1.trans ⟨h.1, fun k j p hn t => h.2.1 k j p (fun q => hn ⟨by omega, by omega, by omega⟩) t⟩, (h.k (by decide) 0 0 15).trans hf.2⟩
theorem MG.keep {g : Gs} (h : MG M g) (e20 : ∀ t, t = 3 ∨ t = 4 ∨ t = 7 ∨ t = 8 ∨ t = 9 ∨ t = 17 → M'.1 20 0 0 t = M.1 20 0 0 t) (e : ∀ k, k = 21 ∨ k = 22 ∨ k = 23 ∨ k = 24 ∨ k = 26 → ∀ t, M'.1 k 0 0 t = M.1 k 0 0 t) : MG M' g := by
  obtain ⟨a, b, ⟨c1, c2, c3⟩, d, f, ⟨i1, i2, i3⟩, ⟨j1, j2⟩, k1, k2, k3⟩ := h
  refine ⟨⟨(e20 3 (by omega)).trans a.1, a.2⟩, b.keep (e 21 (by omega)), ⟨c1, (e20 4 (by omega)).trans c2, fun i hi => (c3 i hi).keep (e 21 (by omega))⟩, fun s hs => ?_, fun r r1 r2 => (e 23 (by omega) r).trans (f r r1 r2), ⟨(e20 7 (by omega)).trans i1, i2, fun k hk => (e 24 (by omega) k).trans (i3 k hk)⟩, ⟨(e20 8 (by omega)).trans j1, (e20 9 (by omega)).trans j2⟩, (e20 17 (by omega)).trans k1, k2, fun k hk => (e 26 (by omega) k).trans (k3 k hk)⟩
  rcases d s hs with ⟨x, y⟩ | ⟨B, x, y, z⟩
  · exact Or.inl ⟨x, (e 22 (by omega) s).trans y⟩
  · exact Or.inr ⟨B, x, (e 22 (by omega) s).trans y, z.keep (e 21 (by omega))⟩
theorem MG.thr {g : Gs} {v : Int32} (h : MG M g) : MG (M.up 20 0 0 5 v) g := h.keep (fun t ht => up_t (by omega)) (fun k hk t => up_nk (by omega))
theorem MG.row {g : Gs} (h : MG M g) (hf : Fo 0 M M') (hB : MR M' 0 B) : MG M' (B, g.2) := by
  obtain ⟨a, b, ⟨c1, c2, c3⟩, d, f, ⟨i1, i2, i3⟩, ⟨j1, j2⟩, k1, k2, k3⟩ := h
  have e : ∀ k t, k ≠ 21 → M'.1 k 0 0 t = M.1 k 0 0 t := fun k t hk => hf.k hk 0 0 t
  refine ⟨a.fo hf, hB, ⟨c1, (e 20 4 (by decide)).trans c2, fun i hi => (c3 i hi).fo hf (by omega)⟩, fun s hs => ?_, fun r r1 r2 => (e 23 r (by decide)).trans (f r r1 r2), ⟨(e 20 7 (by decide)).trans i1, i2, fun k hk => (e 24 k (by decide)).trans (i3 k hk)⟩, ⟨(e 20 8 (by decide)).trans j1, (e 20 9 (by decide)).trans j2⟩, (e 20 17 (by decide)).trans k1, k2, fun k hk => (e 26 k (by decide)).trans (k3 k hk)⟩
  rcases d s hs with ⟨x, y⟩ | ⟨B, x, y, z⟩
  · exact Or.inl ⟨x, (e 22 s (by decide)).trans y⟩
  · exact Or.inr ⟨B, x, (e 22 s (by decide)).trans y, z.fo hf (by omega)⟩
/-- row 9 or 10 changed -/
theorem MG.row9 {g : Gs} {r : Nat} (h : MG M g) (hr : 9 ≤ r) (hf : Fo r M M') : MG M' g := by
  obtain ⟨a, b, ⟨c1, c2, c3⟩, d, f, ⟨i1, i2, i3⟩, ⟨j1, j2⟩, k1, k2, k3⟩ := h
  have e : ∀ k t, k ≠ 21 → M'.1 k 0 0 t = M.1 k 0 0 t := fun k t hk => hf.k hk 0 0 t
  refine ⟨a.fo hf, b.fo hf (by omega), ⟨c1, (e 20 4 (by decide)).trans c2, fun i hi => (c3 i hi).fo hf (by omega)⟩, fun s hs => ?_, fun r r1 r2 => (e 23 r (by decide)).trans (f r r1 r2), ⟨(e 20 7 (by decide)).trans i1, i2, fun k hk => (e 24 k (by decide)).trans (i3 k hk)⟩, ⟨(e 20 8 (by decide)).trans j1, (e 20 9 (by decide)).trans j2⟩, (e 20 17 (by decide)).trans k1, k2, fun k hk => (e 26 k (by decide)).trans (k3 k hk)⟩
  rcases d s hs with ⟨x, y⟩ | ⟨B, x, y, z⟩
  · exact Or.inl ⟨x, (e 22 s (by decide)).trans y⟩
  · exact Or.inr ⟨B, x, (e 22 s (by decide)).trans y, z.fo hf (by omega)⟩
theorem inPm {x : Int32} {n : Nat} (h : 1 ≤ n) (h2 : n < 2 ^ 31) : inR x 0 (nI n - 1) ↔ (0 ≤ x ∧ x < nI n) := by
  rw [show nI n - 1 = nI (n - 1) from nI_subN h]
  constructor
  · intro q
    exact ⟨q.1, Int32.lt_of_le_of_lt q.2 (nI_lt (by omega) h2)⟩
  · intro q
    obtain ⟨p, hp, e, -⟩ := in_ix q h2
    exact ⟨q.1, by rw [e]; exact nI_le (by omega) (by omega)⟩
theorem inDm {x : Int32} {n : Nat} (h2 : n < 2 ^ 31) : inR x 0 (nI n - 1) ↔ (0 ≤ x ∧ x < nI n) := by
  rcases Nat.eq_zero_or_pos n with q | q
  · subst q
    constructor
    · intro z
      exact absurd (Int32.le_trans z.1 z.2) (show ¬ (0 : Int32) ≤ nI 0 - 1 by decide)
    · intro z
      exact absurd (Int32.lt_of_le_of_lt z.1 z.2) (show ¬ (0 : Int32) < nI 0 by decide)
  · exact inPm q h2
theorem s_X9_isPupil {x : Int32} (hR : Ro M o) (hA : MR M o A) (h : P (.inl (some (.int (if inP A x then 1 else 0)))) M) : Sp E yX9_isPupil cX9_isPupil zX9_isPupil [.ref (ad E 20 0 0), .int x] M P := by
  have h12 := hA.n12
  refine Sp_of (own := RX9) (by decide) rfl rfl (Nat.le_of_ble_eq_true rfl) (fun C => ?_)
  refine G_iload_n dX9_isPupil_0 rfl ?_
  refine G_iconst (v := 0) dX9_isPupil_1 (by decide) ?_
  refine G_aload_n dX9_isPupil_2 rfl ?_
  refine G_iconst (v := 0) dX9_isPupil_3 (by decide) ?_
  refine cv_X9_50 (cs' := 0) (ss' := 0) dX9_isPupil_4  (Nat.le_of_ble_eq_true rfl) (Nat.le_of_ble_eq_true rfl) (Nat.le_of_ble_eq_true rfl) rfl rfl (Nat.le_of_ble_eq_true rfl) (Nat.le_of_ble_eq_true rfl) rfl ?_
  refine s_X9_get (w := 0) hR (by decide) hA.n (hGo_i ?_)
  refine G_iconst (v := 1) dX9_isPupil_7 (by decide) ?_
  refine G_isub dX9_isPupil_8 ?_
  refine cv_X9_162 (cs' := 0) (ss' := 0) dX9_isPupil_9  (Nat.le_of_ble_eq_true rfl) (Nat.le_of_ble_eq_true rfl) (Nat.le_of_ble_eq_true rfl) rfl rfl (Nat.le_of_ble_eq_true rfl) (Nat.le_of_ble_eq_true rfl) rfl ?_
  refine s_X9_in (hGo_i ?_)
  refine G_iret dX9_isPupil_12 rfl (by split <;> rfl) (Nat.le_of_ble_eq_true rfl) (Nat.le_of_ble_eq_true rfl) ?_
  by_cases q : inP A x
  · rw [if_pos ((inDm (by omega)).mpr q)]
    rw [if_pos q] at h
    exact h
  · rw [if_neg (fun z => q ((inDm (by omega)).mp z))]
    rw [if_neg q] at h
    exact h
theorem s_X9_allDetained (hR : Ro M o) (hA : MR M o A) (h : P (.inl (some (.int (sm A.n (fun p => if 0 < A.f p 8 then 1 else 0))))) M) : Sp E yX9_allDetained cX9_allDetained zX9_allDetained [.ref (ad E 20 0 0)] M P := by
  have h12 := hA.n12
  refine Sp_of (own := RX9) (by decide) rfl rfl (Nat.le_of_ble_eq_true rfl) (fun C => ?_)
  refine G_iconst (v := 0) dX9_allDetained_0 (by decide) ?_
  refine G_istore_n dX9_allDetained_1 (Nat.le_of_ble_eq_true rfl) ?_
  refine G_iconst (v := 0) dX9_allDetained_2 (by decide) ?_
  refine G_istore_n dX9_allDetained_3 (Nat.le_of_ble_eq_true rfl) ?_
  refine G_lv (lv' := [(0, .ref (ad E 20 0 0)), (1, .int (sm 0 (fun p => if 0 < A.f p 8 then 1 else 0))), (2, .int (nI 0))]) ⟨rfl, rfl, rfl, trivial⟩ ?_
  refine up0 (c := A.n) (H := fun i => G E C RX9 cX9_allDetained zX9_allDetained P 0 0 M 4 [(0, .ref (ad E 20 0 0)), (1, .int (sm i (fun p => if 0 < A.f p 8 then 1 else 0))), (2, .int (nI i))] []) ?_ (fun i hi ih => ?_)
  · refine G_iload_n dX9_allDetained_4 rfl ?_
    refine G_aload_n dX9_allDetained_5 rfl ?_
    refine G_iconst (v := 0) dX9_allDetained_6 (by decide) ?_
    refine cv_X9_50 (cs' := 0) (ss' := 0) dX9_allDetained_7  (Nat.le_of_ble_eq_true rfl) (Nat.le_of_ble_eq_true rfl) (Nat.le_of_ble_eq_true rfl) rfl rfl (Nat.le_of_ble_eq_true rfl) (Nat.le_of_ble_eq_true rfl) rfl ?_
    refine s_X9_get (w := 0) hR (by decide) hA.n (hGo_i ?_)
    refine G_icmp_ge (tgt := 30) dX9_allDetained_10 (by decide) (fun c10 => ?_) (fun c10 => ?_)
    · refine G_iload_n dX9_allDetained_30 rfl ?_
      refine G_iret dX9_allDetained_31 rfl rfl (Nat.le_of_ble_eq_true rfl) (Nat.le_of_ble_eq_true rfl) ?_
      exact h
    · exact absurd (Int32.le_refl _) c10
  · refine G_iload_n dX9_allDetained_4 rfl ?_
    refine G_aload_n dX9_allDetained_5 rfl ?_
    refine G_iconst (v := 0) dX9_allDetained_6 (by decide) ?_
    refine cv_X9_50 (cs' := 0) (ss' := 0) dX9_allDetained_7  (Nat.le_of_ble_eq_true rfl) (Nat.le_of_ble_eq_true rfl) (Nat.le_of_ble_eq_true rfl) rfl rfl (Nat.le_of_ble_eq_true rfl) (Nat.le_of_ble_eq_true rfl) rfl ?_
    refine s_X9_get (w := 0) hR (by decide) hA.n (hGo_i ?_)
    refine G_icmp_ge (tgt := 30) dX9_allDetained_10 (by decide) (fun c10 => ?_) (fun c10 => ?_)
    · exact absurd c10 (nI_ge hi (by omega))
    · refine G_iload_n dX9_allDetained_13 rfl ?_
      refine G_aload_n dX9_allDetained_14 rfl ?_
      refine G_iload_n dX9_allDetained_15 rfl ?_
      refine cv_X9_99 (cs' := 0) (ss' := 0) dX9_allDetained_16  (Nat.le_of_ble_eq_true rfl) (Nat.le_of_ble_eq_true rfl) (Nat.le_of_ble_eq_true rfl) rfl rfl (Nat.le_of_ble_eq_true rfl) (Nat.le_of_ble_eq_true rfl) rfl ?_
      refine s_X9_isDetained hR (by omega) (hA.f hi (by decide)) (hGo_i ?_)
      refine cv_X9_110 (cs' := 0) (ss' := 0) dX9_allDetained_19  (Nat.le_of_ble_eq_true rfl) (Nat.le_of_ble_eq_true rfl) (Nat.le_of_ble_eq_true rfl) rfl rfl (Nat.le_of_ble_eq_true rfl) (Nat.le_of_ble_eq_true rfl) rfl ?_
      refine s_X9_one (by split <;> simp) (hGo_i ?_)
      refine G_iadd dX9_allDetained_22 ?_
      refine G_istore_n dX9_allDetained_23 (Nat.le_of_ble_eq_true rfl) ?_
      refine G_iinc (v := 1) dX9_allDetained_24 rfl (Nat.le_of_ble_eq_true rfl) (by decide) ?_
      refine G_goto (tgt := 4) dX9_allDetained_27 (by decide) ?_
      exact G_lv2 ih ⟨rfl, rfl, lvi (nI_1 i), trivial⟩
theorem s_X9_bits {w : Int32} (h : P (.inl (some (.int (sm 12 (fun k => (w >>> (nI k &&& 31)) &&& 1))))) M) : Sp E yX9_bits cX9_bits zX9_bits [.int w] M P := by
  refine Sp_of (own := RX9) (by decide) rfl rfl (Nat.le_of_ble_eq_true rfl) (fun C => ?_)
  refine G_iconst (v := 0) dX9_bits_0 (by decide) ?_
  refine G_istore_n dX9_bits_1 (Nat.le_of_ble_eq_true rfl) ?_
  refine G_iconst (v := 0) dX9_bits_2 (by decide) ?_
  refine G_istore_n dX9_bits_3 (Nat.le_of_ble_eq_true rfl) ?_
  refine G_lv (lv' := [(0, .int w), (1, .int (sm 0 (fun k => (w >>> (nI k &&& 31)) &&& 1))), (2, .int (nI 0))]) ⟨rfl, rfl, rfl, trivial⟩ ?_
  refine up0 (c := 12) (H := fun i => G E C RX9 cX9_bits zX9_bits P 0 0 M 4 [(0, .int w), (1, .int (sm i (fun k => (w >>> (nI k &&& 31)) &&& 1))), (2, .int (nI i))] []) ?_ (fun i hi ih => ?_)
  · refine G_iload_n dX9_bits_4 rfl ?_
    refine G_bipush (v := 12) dX9_bits_5 (by decide) ?_
    refine G_icmp_ge (tgt := 24) dX9_bits_7 (by decide) (fun c7 => ?_) (fun c7 => ?_)
    · refine G_iload_n dX9_bits_24 rfl ?_
      refine G_iret dX9_bits_25 rfl rfl (Nat.le_of_ble_eq_true rfl) (Nat.le_of_ble_eq_true rfl) ?_
      exact h
    · exact absurd (show (12 : Int32) ≤ nI 12 from Int32.le_refl _) c7
  · refine G_iload_n dX9_bits_4 rfl ?_
    refine G_bipush (v := 12) dX9_bits_5 (by decide) ?_
    refine G_icmp_ge (tgt := 24) dX9_bits_7 (by decide) (fun c7 => ?_) (fun c7 => ?_)
    · exact absurd (show nI 12 ≤ nI i from c7) (nI_ge hi (by decide))
    · refine G_iload_n dX9_bits_10 rfl ?_
      refine G_iload_n dX9_bits_11 rfl ?_
      refine G_iload_n dX9_bits_12 rfl ?_
      refine G_ishr dX9_bits_13 ?_
      refine G_iconst (v := 1) dX9_bits_14 (by decide) ?_
      refine G_iand dX9_bits_15 ?_
      refine G_iadd dX9_bits_16 ?_
      refine G_istore_n dX9_bits_17 (Nat.le_of_ble_eq_true rfl) ?_
      refine G_iinc (v := 1) dX9_bits_18 rfl (Nat.le_of_ble_eq_true rfl) (by decide) ?_
      refine G_goto (tgt := 4) dX9_bits_21 (by decide) ?_
      exact G_lv2 ih ⟨rfl, rfl, lvi (nI_1 i), trivial⟩
theorem s_X9_unpayable {x : Nat} (hR : Ro M o) (hA : MR M o A) (hO : Ok A) (hx : x < A.n) (h : P (.inl (some (.int (beyV A x)))) M) : Sp E yX9_unpayable cX9_unpayable zX9_unpayable [.ref (ad E 20 0 0), .int (nI x)] M P := by
  have h30 := hA.d30
  have h12 := hA.n12
  unfold beyV at h
  refine Sp_of (own := RX9) (by decide) rfl rfl (Nat.le_of_ble_eq_true rfl) (fun C => ?_)
  refine G_iconst (v := 0) dX9_unpayable_0 (by decide) ?_
  refine G_istore_n dX9_unpayable_1 (Nat.le_of_ble_eq_true rfl) ?_
  refine G_lv (lv' := [(0, .ref (ad E 20 0 0)), (1, .int (nI x)), (2, .int (nI 0))]) ⟨rfl, rfl, rfl, trivial⟩ ?_
  refine up0 (c := A.d.length) (H := fun i => (∀ k, k < i → beyP A x k = false) → G E C RX9 cX9_unpayable zX9_unpayable P 0 0 M 2 [(0, .ref (ad E 20 0 0)), (1, .int (nI x)), (2, .int (nI i))] []) (fun hno => ?_) (fun i hi ih hno => ?_) (fun k hk => absurd hk (Nat.not_lt_zero k))
  · refine G_iload_n dX9_unpayable_2 rfl ?_
    refine G_aload_n dX9_unpayable_3 rfl ?_
    refine G_bipush (v := 6) dX9_unpayable_4 (by decide) ?_
    refine cv_X9_50 (cs' := 0) (ss' := 0) dX9_unpayable_6  (Nat.le_of_ble_eq_true rfl) (Nat.le_of_ble_eq_true rfl) (Nat.le_of_ble_eq_true rfl) rfl rfl (Nat.le_of_ble_eq_true rfl) (Nat.le_of_ble_eq_true rfl) rfl ?_
    refine s_X9_get (w := 6) hR (by decide) hA.dn (hGo_i ?_)
    refine G_icmp_ge (tgt := 50) dX9_unpayable_9 (by decide) (fun c9 => ?_) (fun c9 => ?_)
    · refine G_iconst (v := (-1)) dX9_unpayable_50 (by decide) ?_
      refine G_iret dX9_unpayable_51 rfl rfl (Nat.le_of_ble_eq_true rfl) (Nat.le_of_ble_eq_true rfl) ?_
      rw [first_none hno] at h
      exact h
    · exact absurd (Int32.le_refl _) c9
  · have g44 : beyP A x i = false → G E C RX9 cX9_unpayable zX9_unpayable P 0 0 M 44 [(0, .ref (ad E 20 0 0)), (1, .int (nI x)), (2, .int (nI i))] [] := fun hp => by
      refine G_iinc (v := 1) dX9_unpayable_44 rfl (Nat.le_of_ble_eq_true rfl) (by decide) ?_
      refine G_goto (tgt := 2) dX9_unpayable_47 (by decide) ?_
      refine G_lv2 (ih (fun k hk => ?_)) ⟨rfl, rfl, lvi (nI_1 i), trivial⟩
      by_cases e : k = i
      · rw [e]
        exact hp
      · exact hno k (by omega)
    obtain ⟨s, hs, es⟩ := hO.subj i hi
    refine G_iload_n dX9_unpayable_2 rfl ?_
    refine G_aload_n dX9_unpayable_3 rfl ?_
    refine G_bipush (v := 6) dX9_unpayable_4 (by decide) ?_
    refine cv_X9_50 (cs' := 0) (ss' := 0) dX9_unpayable_6  (Nat.le_of_ble_eq_true rfl) (Nat.le_of_ble_eq_true rfl) (Nat.le_of_ble_eq_true rfl) rfl rfl (Nat.le_of_ble_eq_true rfl) (Nat.le_of_ble_eq_true rfl) rfl ?_
    refine s_X9_get (w := 6) hR (by decide) hA.dn (hGo_i ?_)
    refine G_icmp_ge (tgt := 50) dX9_unpayable_9 (by decide) (fun c9 => ?_) (fun c9 => ?_)
    · exact absurd c9 (nI_ge hi (by omega))
    · refine G_aload_n dX9_unpayable_12 rfl ?_
      refine G_iload_n dX9_unpayable_13 rfl ?_
      refine G_iconst (v := 0) dX9_unpayable_14 (by decide) ?_
      refine cv_X9_84 (cs' := 0) (ss' := 0) dX9_unpayable_15  (Nat.le_of_ble_eq_true rfl) (Nat.le_of_ble_eq_true rfl) (Nat.le_of_ble_eq_true rfl) rfl rfl (Nat.le_of_ble_eq_true rfl) (Nat.le_of_ble_eq_true rfl) rfl ?_
      refine s_X9_db (t := 0) hR (by omega) (by decide) (hA.d hi (by decide)) (hGo_i ?_)
      refine G_iload_n dX9_unpayable_18 rfl ?_
      refine G_icmp_ne (tgt := 44) dX9_unpayable_19 (by decide) (fun c19 => ?_) (fun c19 => ?_)
      · exact g44 (decide_eq_false (fun q => c19 q.1))
      · refine G_aload_n dX9_unpayable_22 rfl ?_
        refine G_iload_n dX9_unpayable_23 rfl ?_
        refine G_iconst (v := 3) dX9_unpayable_24 (by decide) ?_
        refine cv_X9_84 (cs' := 0) (ss' := 0) dX9_unpayable_25  (Nat.le_of_ble_eq_true rfl) (Nat.le_of_ble_eq_true rfl) (Nat.le_of_ble_eq_true rfl) rfl rfl (Nat.le_of_ble_eq_true rfl) (Nat.le_of_ble_eq_true rfl) rfl ?_
        refine s_X9_db (t := 3) hR (by omega) (by decide) (hA.d hi (by decide)) (hGo_i ?_)
        refine G_aload_n dX9_unpayable_28 rfl ?_
        refine G_iload_n dX9_unpayable_29 rfl ?_
        refine G_aload_n dX9_unpayable_30 rfl ?_
        refine G_iload_n dX9_unpayable_31 rfl ?_
        refine G_iconst (v := 2) dX9_unpayable_32 (by decide) ?_
        refine cv_X9_84 (cs' := 0) (ss' := 0) dX9_unpayable_33  (Nat.le_of_ble_eq_true rfl) (Nat.le_of_ble_eq_true rfl) (Nat.le_of_ble_eq_true rfl) rfl rfl (Nat.le_of_ble_eq_true rfl) (Nat.le_of_ble_eq_true rfl) rfl ?_
        refine s_X9_db (t := 2) hR (by omega) (by decide) (hA.d hi (by decide)) (hGo_i ?_)
        rw [es]
        refine cv_X9_65 (cs' := 0) (ss' := 0) dX9_unpayable_36  (Nat.le_of_ble_eq_true rfl) (Nat.le_of_ble_eq_true rfl) (Nat.le_of_ble_eq_true rfl) rfl rfl (Nat.le_of_ble_eq_true rfl) (Nat.le_of_ble_eq_true rfl) rfl ?_
        refine s_X9_many hR (by omega) hs (hA.many hx hs) (hGo_i ?_)
        have eb : beyP A x i = decide (dg A.d i 0 = nI x ∧ nI (A.s (2 * x + s)).length < dg A.d i 3) := by
          unfold beyP
          rw [es, nI_clamp (by omega)]
        refine G_icmp_le (tgt := 44) dX9_unpayable_39 (by decide) (fun c39 => ?_) (fun c39 => ?_)
        · exact g44 (by rw [eb]; exact decide_eq_false (fun q => absurd c39 (Int32.not_le.mpr q.2)))
        · refine G_iload_n dX9_unpayable_42 rfl ?_
          refine G_iret dX9_unpayable_43 rfl rfl (Nat.le_of_ble_eq_true rfl) (Nat.le_of_ble_eq_true rfl) ?_
          rw [first_at hi hno (by rw [eb]; exact decide_eq_true ⟨c19, Int32.not_le.mp c39⟩)] at h
          exact h
theorem lack_eq {x : Nat} (h12 : A.n ≤ 12) (hO : Ok A) (hx : x < A.n) : A.g 4 + A.g 5 - nI (hdN A x 0) - nI (hdN A x 1) = lackV A x := by
  have key : ∀ s, s < 2 → hdV A x s = nI (hdN A x s) := fun s hs => by
    have h0 : 0 ≤ A.g (4 + s) := by
      rcases (show s = 0 ∨ s = 1 by omega) with rfl | rfl
      · exact hO.2.1.2.1
      · exact hO.2.1.2.2
    obtain ⟨d, hd, ed⟩ := nI_of (Int32.not_lt.mpr h0)
    have l20 := (hO.2.2.2.1 (2 * x + s) (by omega)).1
    unfold hdV hdN imin
    rw [ed, nI_clamp hd]
    by_cases q : (A.s (2 * x + s)).length < d
    · rw [if_pos (nI_lt q hd), Nat.min_eq_right (by omega)]
    · rw [if_neg (nI_nlt (by omega) (by omega)), Nat.min_eq_left (by omega)]
  unfold lackV
  rw [key 0 (by decide), key 1 (by decide), marks_eq]
  rw [Int32.sub_eq_add_neg (_ + _), Int32.sub_eq_add_neg (A.g 5), Int32.add_assoc]
theorem s_X9_marksL {x : Nat} (hR : Ro M o) (hA : MR M o A) (hO : Ok A) (hx : x < A.n) (h : P (.inl (some (.int (lackV A x)))) M) : Sp E yX9_marks cX9_marks zX9_marks [.ref (ad E 20 0 0), .int (nI x)] M P := by
  rw [← lack_eq hA.n12 hO hx] at h
  exact s_X9_marks hR hA hx hO.2.1.2.1 hO.2.1.2.2 h
theorem s_X9_reasonOf {x : Nat} (hR : Ro M o) (hA : MR M o A) (hO : Ok A) (hx : x < A.n) (h : P (.inl (some (.int (standV A x)))) M) : Sp E yX9_reasonOf cX9_reasonOf zX9_reasonOf [.ref (ad E 20 0 0), .int (nI x)] M P := by
  have h12 := hA.n12
  unfold standV at h
  refine Sp_of (own := RX9) (by decide) rfl rfl (Nat.le_of_ble_eq_true rfl) (fun C => ?_)
  refine G_aload_n dX9_reasonOf_0 rfl ?_
  refine G_iload_n dX9_reasonOf_1 rfl ?_
  refine cv_X9_99 (cs' := 0) (ss' := 0) dX9_reasonOf_2  (Nat.le_of_ble_eq_true rfl) (Nat.le_of_ble_eq_true rfl) (Nat.le_of_ble_eq_true rfl) rfl rfl (Nat.le_of_ble_eq_true rfl) (Nat.le_of_ble_eq_true rfl) rfl ?_
  refine s_X9_isDetained hR (by omega) (hA.f hx (by decide)) (hGo_i ?_)
  by_cases c : 0 < A.f x 8
  · rw [if_pos c] at h ⊢
    refine G_if_eq (tgt := 10) dX9_reasonOf_5 (by decide) (fun c5 => ?_) (fun c5 => ?_)
    · exact absurd c5 (by decide)
    · refine G_iconst (v := 1) dX9_reasonOf_8 (by decide) ?_
      refine G_iret dX9_reasonOf_9 rfl rfl (Nat.le_of_ble_eq_true rfl) (Nat.le_of_ble_eq_true rfl) ?_
      exact h
  rw [if_neg c] at h ⊢
  refine G_if_eq (tgt := 10) dX9_reasonOf_5 (by decide) (fun c5 => ?_) (fun c5 => ?_)
  rotate_left
  · exact absurd rfl c5
  refine G_aload_n dX9_reasonOf_10 rfl ?_
  refine G_iload_n dX9_reasonOf_11 rfl ?_
  refine G_bipush (v := 6) dX9_reasonOf_12 (by decide) ?_
  refine cv_X9_54 (cs' := 0) (ss' := 0) dX9_reasonOf_14  (Nat.le_of_ble_eq_true rfl) (Nat.le_of_ble_eq_true rfl) (Nat.le_of_ble_eq_true rfl) rfl rfl (Nat.le_of_ble_eq_true rfl) (Nat.le_of_ble_eq_true rfl) rfl ?_
  refine s_X9_pu (t := 6) hR (by omega) (by decide) (hA.f hx (by decide)) (hGo_i ?_)
  refine G_aload_n dX9_reasonOf_17 rfl ?_
  refine G_iload_n dX9_reasonOf_18 rfl ?_
  refine cv_X9_133 (cs' := 0) (ss' := 0) dX9_reasonOf_19  (Nat.le_of_ble_eq_true rfl) (Nat.le_of_ble_eq_true rfl) (Nat.le_of_ble_eq_true rfl) rfl rfl (Nat.le_of_ble_eq_true rfl) (Nat.le_of_ble_eq_true rfl) rfl ?_
  refine s_X9_growth hR hA hO hx (hGo_i ?_)
  refine G_iadd dX9_reasonOf_22 ?_
  refine G_aload_n dX9_reasonOf_23 rfl ?_
  refine G_iconst (v := 3) dX9_reasonOf_24 (by decide) ?_
  refine cv_X9_50 (cs' := 0) (ss' := 0) dX9_reasonOf_25  (Nat.le_of_ble_eq_true rfl) (Nat.le_of_ble_eq_true rfl) (Nat.le_of_ble_eq_true rfl) rfl rfl (Nat.le_of_ble_eq_true rfl) (Nat.le_of_ble_eq_true rfl) rfl ?_
  refine s_X9_get (w := 3) hR (by decide) (hA.g (t := 2) (by decide)) (hGo_i ?_)
  refine G_icmp_lt (tgt := 33) dX9_reasonOf_28 (by decide) (fun c28 => ?_) (fun c28 => ?_)
  rotate_left
  · rw [if_pos (Int32.not_lt.mp c28)] at h
    refine G_iconst (v := 2) dX9_reasonOf_31 (by decide) ?_
    refine G_iret dX9_reasonOf_32 rfl rfl (Nat.le_of_ble_eq_true rfl) (Nat.le_of_ble_eq_true rfl) ?_
    exact h
  rw [if_neg (Int32.not_le.mpr c28)] at h
  refine G_aload_n dX9_reasonOf_33 rfl ?_
  refine G_iload_n dX9_reasonOf_34 rfl ?_
  refine cv_X9_136 (cs' := 0) (ss' := 0) dX9_reasonOf_35  (Nat.le_of_ble_eq_true rfl) (Nat.le_of_ble_eq_true rfl) (Nat.le_of_ble_eq_true rfl) rfl rfl (Nat.le_of_ble_eq_true rfl) (Nat.le_of_ble_eq_true rfl) rfl ?_
  refine s_X9_marksL hR hA hO hx (hGo_i ?_)
  refine G_if_le (tgt := 43) dX9_reasonOf_38 (by decide) (fun c38 => ?_) (fun c38 => ?_)
  rotate_left
  · rw [if_pos (Int32.not_le.mp c38)] at h
    refine G_iconst (v := 3) dX9_reasonOf_41 (by decide) ?_
    refine G_iret dX9_reasonOf_42 rfl rfl (Nat.le_of_ble_eq_true rfl) (Nat.le_of_ble_eq_true rfl) ?_
    exact h
  rw [if_neg (Int32.not_lt.mpr c38)] at h
  refine G_aload_n dX9_reasonOf_43 rfl ?_
  refine G_iload_n dX9_reasonOf_44 rfl ?_
  refine cv_X9_312 (cs' := 0) (ss' := 0) dX9_reasonOf_45  (Nat.le_of_ble_eq_true rfl) (Nat.le_of_ble_eq_true rfl) (Nat.le_of_ble_eq_true rfl) rfl rfl (Nat.le_of_ble_eq_true rfl) (Nat.le_of_ble_eq_true rfl) rfl ?_
  refine s_X9_unpayable hR hA hO hx (hGo_i ?_)
  refine G_iconst (v := (-1)) dX9_reasonOf_48 (by decide) ?_
  refine G_icmp_eq (tgt := 56) dX9_reasonOf_49 (by decide) (fun c49 => ?_) (fun c49 => ?_)
  · rw [if_pos c49] at h
    refine G_iconst (v := 5) dX9_reasonOf_56 (by decide) ?_
    refine G_iret dX9_reasonOf_57 rfl rfl (Nat.le_of_ble_eq_true rfl) (Nat.le_of_ble_eq_true rfl) ?_
    exact h
  · rw [if_neg c49] at h
    refine G_iconst (v := 4) dX9_reasonOf_52 (by decide) ?_
    refine G_goto (tgt := 57) dX9_reasonOf_53 (by decide) ?_
    refine G_iret dX9_reasonOf_57 rfl rfl (Nat.le_of_ble_eq_true rfl) (Nat.le_of_ble_eq_true rfl) ?_
    exact h
theorem s_X9_rank {p k : Nat} (hR : Ro M o) (hA : MR M o A) (hp : p < A.n) (hk : k < 5) (h : P (.inl (some (.int (meaV A k p)))) M) : Sp E yX9_rank cX9_rank zX9_rank [.ref (ad E 20 0 0), .int (nI p), .int (nI k)] M P := by
  have h12 := hA.n12
  unfold meaV at h
  refine Sp_of (own := RX9) (by decide) rfl rfl (Nat.le_of_ble_eq_true rfl) (fun C => ?_)
  refine G_iload_n dX9_rank_0 rfl ?_
  rcases (show k = 0 ∨ k = 1 ∨ k = 2 ∨ k = 3 ∨ k = 4 by omega) with rfl | rfl | rfl | rfl | rfl
  · refine G_tIn (off := 31) (tgt := 32) dX9_rank_1 (by decide) (by decide) rfl (by decide) ?_
    refine G_aload_n dX9_rank_32 rfl ?_
    refine G_iload_n dX9_rank_33 rfl ?_
    refine G_bipush (v := 7) dX9_rank_34 (by decide) ?_
    refine cv_X9_54 (cs' := 0) (ss' := 0) dX9_rank_36  (Nat.le_of_ble_eq_true rfl) (Nat.le_of_ble_eq_true rfl) (Nat.le_of_ble_eq_true rfl) rfl rfl (Nat.le_of_ble_eq_true rfl) (Nat.le_of_ble_eq_true rfl) rfl ?_
    refine s_X9_pu (t := 7) hR (by omega) (by decide) (hA.f hp (by decide)) (hGo_i ?_)
    refine G_iret dX9_rank_39 rfl rfl (Nat.le_of_ble_eq_true rfl) (Nat.le_of_ble_eq_true rfl) ?_
    exact h
  · refine G_tIn (off := 39) (tgt := 40) dX9_rank_1 (by decide) (by decide) rfl (by decide) ?_
    refine G_aload_n dX9_rank_40 rfl ?_
    refine G_iload_n dX9_rank_41 rfl ?_
    refine G_bipush (v := 6) dX9_rank_42 (by decide) ?_
    refine cv_X9_54 (cs' := 0) (ss' := 0) dX9_rank_44  (Nat.le_of_ble_eq_true rfl) (Nat.le_of_ble_eq_true rfl) (Nat.le_of_ble_eq_true rfl) rfl rfl (Nat.le_of_ble_eq_true rfl) (Nat.le_of_ble_eq_true rfl) rfl ?_
    refine s_X9_pu (t := 6) hR (by omega) (by decide) (hA.f hp (by decide)) (hGo_i ?_)
    refine G_iret dX9_rank_47 rfl rfl (Nat.le_of_ble_eq_true rfl) (Nat.le_of_ble_eq_true rfl) ?_
    exact h
  · refine G_tIn (off := 47) (tgt := 48) dX9_rank_1 (by decide) (by decide) rfl (by decide) ?_
    refine G_aload_n dX9_rank_48 rfl ?_
    refine G_iload_n dX9_rank_49 rfl ?_
    refine G_iconst (v := 0) dX9_rank_50 (by decide) ?_
    refine cv_X9_300 (cs' := 0) (ss' := 0) dX9_rank_51  (Nat.le_of_ble_eq_true rfl) (Nat.le_of_ble_eq_true rfl) (Nat.le_of_ble_eq_true rfl) rfl rfl (Nat.le_of_ble_eq_true rfl) (Nat.le_of_ble_eq_true rfl) rfl ?_
    refine s_X9_allOf (t := 0) hR hA (by decide) (hGo_i ?_)
    refine G_iret dX9_rank_54 rfl rfl (Nat.le_of_ble_eq_true rfl) (Nat.le_of_ble_eq_true rfl) ?_
    exact h
  · refine G_tIn (off := 54) (tgt := 55) dX9_rank_1 (by decide) (by decide) rfl (by decide) ?_
    refine G_aload_n dX9_rank_55 rfl ?_
    refine G_iload_n dX9_rank_56 rfl ?_
    refine G_iconst (v := 1) dX9_rank_57 (by decide) ?_
    refine cv_X9_300 (cs' := 0) (ss' := 0) dX9_rank_58  (Nat.le_of_ble_eq_true rfl) (Nat.le_of_ble_eq_true rfl) (Nat.le_of_ble_eq_true rfl) rfl rfl (Nat.le_of_ble_eq_true rfl) (Nat.le_of_ble_eq_true rfl) rfl ?_
    refine s_X9_allOf (t := 1) hR hA (by decide) (hGo_i ?_)
    refine G_iret dX9_rank_61 rfl rfl (Nat.le_of_ble_eq_true rfl) (Nat.le_of_ble_eq_true rfl) ?_
    exact h
  · refine G_tOut (tgt := 62) dX9_rank_1 (by decide) (by decide) ?_
    refine G_aload_n dX9_rank_62 rfl ?_
    refine G_iload_n dX9_rank_63 rfl ?_
    refine G_iconst (v := 0) dX9_rank_64 (by decide) ?_
    refine cv_X9_65 (cs' := 0) (ss' := 0) dX9_rank_65  (Nat.le_of_ble_eq_true rfl) (Nat.le_of_ble_eq_true rfl) (Nat.le_of_ble_eq_true rfl) rfl rfl (Nat.le_of_ble_eq_true rfl) (Nat.le_of_ble_eq_true rfl) rfl ?_
    refine s_X9_many (s := 0) hR (by omega) (by decide) (hA.many hp (by decide)) (hGo_i ?_)
    refine G_aload_n dX9_rank_68 rfl ?_
    refine G_iload_n dX9_rank_69 rfl ?_
    refine G_iconst (v := 1) dX9_rank_70 (by decide) ?_
    refine cv_X9_65 (cs' := 0) (ss' := 0) dX9_rank_71  (Nat.le_of_ble_eq_true rfl) (Nat.le_of_ble_eq_true rfl) (Nat.le_of_ble_eq_true rfl) rfl rfl (Nat.le_of_ble_eq_true rfl) (Nat.le_of_ble_eq_true rfl) rfl ?_
    refine s_X9_many (s := 1) hR (by omega) (by decide) (hA.many hp (by decide)) (hGo_i ?_)
    refine G_iadd dX9_rank_74 ?_
    refine G_iret dX9_rank_75 rfl rfl (Nat.le_of_ble_eq_true rfl) (Nat.le_of_ble_eq_true rfl) ?_
    exact h
theorem s_X9_detentionThen {x : Nat} (hR : Ro M o) (hA : MR M o A) (hO : Ok A) (hx : x < A.n) (h : P (.inl (some (.int (detV A x (A.f x 6 + growV A x))))) M) : Sp E yX9_detentionThen cX9_detentionThen zX9_detentionThen [.ref (ad E 20 0 0), .int (nI x)] M P := by
  have h12 := hA.n12
  unfold detV at h
  refine Sp_of (own := RX9) (by decide) rfl rfl (Nat.le_of_ble_eq_true rfl) (fun C => ?_)
  refine G_aload_n dX9_detentionThen_0 rfl ?_
  refine G_iload_n dX9_detentionThen_1 rfl ?_
  refine G_bipush (v := 6) dX9_detentionThen_2 (by decide) ?_
  refine cv_X9_54 (cs' := 0) (ss' := 0) dX9_detentionThen_4  (Nat.le_of_ble_eq_true rfl) (Nat.le_of_ble_eq_true rfl) (Nat.le_of_ble_eq_true rfl) rfl rfl (Nat.le_of_ble_eq_true rfl) (Nat.le_of_ble_eq_true rfl) rfl ?_
  refine s_X9_pu (t := 6) hR (by omega) (by decide) (hA.f hx (by decide)) (hGo_i ?_)
  refine G_aload_n dX9_detentionThen_7 rfl ?_
  refine G_iload_n dX9_detentionThen_8 rfl ?_
  refine cv_X9_133 (cs' := 0) (ss' := 0) dX9_detentionThen_9  (Nat.le_of_ble_eq_true rfl) (Nat.le_of_ble_eq_true rfl) (Nat.le_of_ble_eq_true rfl) rfl rfl (Nat.le_of_ble_eq_true rfl) (Nat.le_of_ble_eq_true rfl) rfl ?_
  refine s_X9_growth hR hA hO hx (hGo_i ?_)
  refine G_iadd dX9_detentionThen_12 ?_
  refine G_istore_n dX9_detentionThen_13 (Nat.le_of_ble_eq_true rfl) ?_
  refine G_iload_n dX9_detentionThen_14 rfl ?_
  refine G_aload_n dX9_detentionThen_15 rfl ?_
  refine G_iconst (v := 3) dX9_detentionThen_16 (by decide) ?_
  refine cv_X9_50 (cs' := 0) (ss' := 0) dX9_detentionThen_17  (Nat.le_of_ble_eq_true rfl) (Nat.le_of_ble_eq_true rfl) (Nat.le_of_ble_eq_true rfl) rfl rfl (Nat.le_of_ble_eq_true rfl) (Nat.le_of_ble_eq_true rfl) rfl ?_
  refine s_X9_get (w := 3) hR (by decide) (hA.g (t := 2) (by decide)) (hGo_i ?_)
  refine G_icmp_lt (tgt := 31) dX9_detentionThen_20 (by decide) (fun c20 => ?_) (fun c20 => ?_)
  · rw [if_pos c20] at h
    refine G_aload_n dX9_detentionThen_31 rfl ?_
    refine G_iload_n dX9_detentionThen_32 rfl ?_
    refine G_bipush (v := 8) dX9_detentionThen_33 (by decide) ?_
    refine cv_X9_54 (cs' := 0) (ss' := 0) dX9_detentionThen_35  (Nat.le_of_ble_eq_true rfl) (Nat.le_of_ble_eq_true rfl) (Nat.le_of_ble_eq_true rfl) rfl rfl (Nat.le_of_ble_eq_true rfl) (Nat.le_of_ble_eq_true rfl) rfl ?_
    refine s_X9_pu (t := 8) hR (by omega) (by decide) (hA.f hx (by decide)) (hGo_i ?_)
    refine G_aload_n dX9_detentionThen_38 rfl ?_
    refine G_iload_n dX9_detentionThen_39 rfl ?_
    refine cv_X9_99 (cs' := 0) (ss' := 0) dX9_detentionThen_40  (Nat.le_of_ble_eq_true rfl) (Nat.le_of_ble_eq_true rfl) (Nat.le_of_ble_eq_true rfl) rfl rfl (Nat.le_of_ble_eq_true rfl) (Nat.le_of_ble_eq_true rfl) rfl ?_
    refine s_X9_isDetained hR (by omega) (hA.f hx (by decide)) (hGo_i ?_)
    refine cv_X9_110 (cs' := 0) (ss' := 0) dX9_detentionThen_43  (Nat.le_of_ble_eq_true rfl) (Nat.le_of_ble_eq_true rfl) (Nat.le_of_ble_eq_true rfl) rfl rfl (Nat.le_of_ble_eq_true rfl) (Nat.le_of_ble_eq_true rfl) rfl ?_
    refine s_X9_one (by split <;> simp) (hGo_i ?_)
    refine G_isub dX9_detentionThen_46 ?_
    rw [Int32.sub_eq_add_neg, det_eq (hO.2.2.1 x hx).2.2.2.1]
    refine G_iret dX9_detentionThen_47 rfl rfl (Nat.le_of_ble_eq_true rfl) (Nat.le_of_ble_eq_true rfl) ?_
    exact h
  · rw [if_neg c20] at h
    refine G_aload_n dX9_detentionThen_23 rfl ?_
    refine G_iload_n dX9_detentionThen_24 rfl ?_
    refine cv_X9_139 (cs' := 0) (ss' := 0) dX9_detentionThen_25  (Nat.le_of_ble_eq_true rfl) (Nat.le_of_ble_eq_true rfl) (Nat.le_of_ble_eq_true rfl) rfl rfl (Nat.le_of_ble_eq_true rfl) (Nat.le_of_ble_eq_true rfl) rfl ?_
    refine s_X9_punishment hR hA (hGo_i ?_)
    refine G_goto (tgt := 47) dX9_detentionThen_28 (by decide) ?_
    refine G_iret dX9_detentionThen_47 rfl rfl (Nat.le_of_ble_eq_true rfl) (Nat.le_of_ble_eq_true rfl) ?_
    exact h
theorem s_X9_isEither {x y : Nat} (hR : Ro M o) (hA : MR M o A) (hx : x < A.n) (hy : y < A.n) (h : P (.inl (some (.int (if 0 < A.f x 8 ∨ 0 < A.f y 8 then 1 else 0)))) M) : Sp E yX9_isEither cX9_isEither zX9_isEither [.ref (ad E 20 0 0), .int (nI x), .int (nI y)] M P := by
  have h12 := hA.n12
  refine Sp_of (own := RX9) (by decide) rfl rfl (Nat.le_of_ble_eq_true rfl) (fun C => ?_)
  refine G_aload_n dX9_isEither_0 rfl ?_
  refine G_iload_n dX9_isEither_1 rfl ?_
  refine cv_X9_99 (cs' := 0) (ss' := 0) dX9_isEither_2  (Nat.le_of_ble_eq_true rfl) (Nat.le_of_ble_eq_true rfl) (Nat.le_of_ble_eq_true rfl) rfl rfl (Nat.le_of_ble_eq_true rfl) (Nat.le_of_ble_eq_true rfl) rfl ?_
  refine s_X9_isDetained hR (by omega) (hA.f hx (by decide)) (hGo_i ?_)
  by_cases c : 0 < A.f x 8
  · rw [if_pos c]
    rw [if_pos (Or.inl c)] at h
    refine G_if_ne (tgt := 16) dX9_isEither_5 (by decide) (fun c5 => ?_) (fun c5 => ?_)
    · refine G_iconst (v := 1) dX9_isEither_16 (by decide) ?_
      refine G_goto (tgt := 21) dX9_isEither_17 (by decide) ?_
      refine G_iret dX9_isEither_21 rfl rfl (Nat.le_of_ble_eq_true rfl) (Nat.le_of_ble_eq_true rfl) ?_
      exact h
    · exact absurd c5 (by decide)
  · rw [if_neg c]
    refine G_if_ne (tgt := 16) dX9_isEither_5 (by decide) (fun c5 => ?_) (fun c5 => ?_)
    · exact absurd rfl c5
    · refine G_aload_n dX9_isEither_8 rfl ?_
      refine G_iload_n dX9_isEither_9 rfl ?_
      refine cv_X9_99 (cs' := 0) (ss' := 0) dX9_isEither_10  (Nat.le_of_ble_eq_true rfl) (Nat.le_of_ble_eq_true rfl) (Nat.le_of_ble_eq_true rfl) rfl rfl (Nat.le_of_ble_eq_true rfl) (Nat.le_of_ble_eq_true rfl) rfl ?_
      refine s_X9_isDetained hR (by omega) (hA.f hy (by decide)) (hGo_i ?_)
      by_cases c2 : 0 < A.f y 8
      · rw [if_pos c2]
        rw [if_pos (Or.inr c2)] at h
        refine G_if_eq (tgt := 20) dX9_isEither_13 (by decide) (fun c13 => ?_) (fun c13 => ?_)
        · exact absurd c13 (by decide)
        · refine G_iconst (v := 1) dX9_isEither_16 (by decide) ?_
          refine G_goto (tgt := 21) dX9_isEither_17 (by decide) ?_
          refine G_iret dX9_isEither_21 rfl rfl (Nat.le_of_ble_eq_true rfl) (Nat.le_of_ble_eq_true rfl) ?_
          exact h
      · rw [if_neg c2]
        rw [if_neg (fun q => q.elim c c2)] at h
        refine G_if_eq (tgt := 20) dX9_isEither_13 (by decide) (fun c13 => ?_) (fun c13 => ?_)
        · refine G_iconst (v := 0) dX9_isEither_20 (by decide) ?_
          refine G_iret dX9_isEither_21 rfl rfl (Nat.le_of_ble_eq_true rfl) (Nat.le_of_ble_eq_true rfl) ?_
          exact h
        · exact absurd rfl c13
def barG (A : Ab) (x y s n : Nat) : Int32 := if nI (A.s (2 * x + s)).length < nI n then 4 else if nI n ≤ 20 - nI (A.s (2 * y + s)).length then 0 else 3
theorem s_X9_barsGiving {x y s n : Nat} (hR : Ro M o) (hA : MR M o A) (hx : x < A.n) (hy : y < A.n) (hs : s < 2) (hn : n ≤ 20) (h : P (.inl (some (.int (barG A x y s n)))) M) : Sp E yX9_barsGiving cX9_barsGiving zX9_barsGiving [.ref (ad E 20 0 0), .int (nI x), .int (nI y), .int (nI s), .int (nI n)] M P := by
  have h12 := hA.n12
  have l1 := hA.l20 hx hs
  have l2 := hA.l20 hy hs
  unfold barG at h
  refine Sp_of (own := RX9) (by decide) rfl rfl (Nat.le_of_ble_eq_true rfl) (fun C => ?_)
  refine G_aload_n dX9_barsGiving_0 rfl ?_
  refine G_iload_n dX9_barsGiving_1 rfl ?_
  refine G_iload_n dX9_barsGiving_2 rfl ?_
  refine cv_X9_65 (cs' := 0) (ss' := 0) dX9_barsGiving_3  (Nat.le_of_ble_eq_true rfl) (Nat.le_of_ble_eq_true rfl) (Nat.le_of_ble_eq_true rfl) rfl rfl (Nat.le_of_ble_eq_true rfl) (Nat.le_of_ble_eq_true rfl) rfl ?_
  refine s_X9_many hR (by omega) hs (hA.many hx hs) (hGo_i ?_)
  refine G_iload dX9_barsGiving_6 rfl ?_
  refine G_icmp_ge (tgt := 13) dX9_barsGiving_8 (by decide) (fun c8 => ?_) (fun c8 => ?_)
  · rw [if_neg (Int32.not_lt.mpr c8)] at h
    refine G_aload_n dX9_barsGiving_13 rfl ?_
    refine G_iload_n dX9_barsGiving_14 rfl ?_
    refine G_iload_n dX9_barsGiving_15 rfl ?_
    refine cv_X9_65 (cs' := 0) (ss' := 0) dX9_barsGiving_16  (Nat.le_of_ble_eq_true rfl) (Nat.le_of_ble_eq_true rfl) (Nat.le_of_ble_eq_true rfl) rfl rfl (Nat.le_of_ble_eq_true rfl) (Nat.le_of_ble_eq_true rfl) rfl ?_
    refine s_X9_many hR (by omega) hs (hA.many hy hs) (hGo_i ?_)
    rw [show (20 : Int32) - nI (A.s (2 * y + s)).length = nI (20 - (A.s (2 * y + s)).length) from nI_subN l2] at h
    refine G_iload dX9_barsGiving_19 rfl ?_
    refine G_iadd dX9_barsGiving_21 ?_
    rw [nI_add]
    refine G_bipush (v := 20) dX9_barsGiving_22 (by decide) ?_
    refine G_icmp_le (tgt := 31) dX9_barsGiving_24 (by decide) (fun c24 => ?_) (fun c24 => ?_)
    · have q := (nI_leI (b := 20) (by omega) (by decide)).mp c24
      rw [if_pos (nI_le (by omega) (by omega))] at h
      refine G_iconst (v := 0) dX9_barsGiving_31 (by decide) ?_
      refine G_iret dX9_barsGiving_32 rfl rfl (Nat.le_of_ble_eq_true rfl) (Nat.le_of_ble_eq_true rfl) ?_
      exact h
    · have q : ¬ (A.s (2 * y + s)).length + n ≤ 20 := fun z => c24 (nI_le z (by decide))
      rw [if_neg (nI_ge (by omega) (by omega))] at h
      refine G_iconst (v := 3) dX9_barsGiving_27 (by decide) ?_
      refine G_goto (tgt := 32) dX9_barsGiving_28 (by decide) ?_
      refine G_iret dX9_barsGiving_32 rfl rfl (Nat.le_of_ble_eq_true rfl) (Nat.le_of_ble_eq_true rfl) ?_
      exact h
  · rw [if_pos (Int32.not_le.mp c8)] at h
    refine G_iconst (v := 4) dX9_barsGiving_11 (by decide) ?_
    refine G_iret dX9_barsGiving_12 rfl rfl (Nat.le_of_ble_eq_true rfl) (Nat.le_of_ble_eq_true rfl) ?_
    exact h
end MSTATE
