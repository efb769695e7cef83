/-! ===== HomeworkBarterModel: the row, small things ===== -/
section MCORE
variable {E : Ed} {M M' : Mm} {P : Res → Mm → Prop} {A : Ab} {o : Nat}
/-- the cell w of row o -/
def cl (M : Mm) (o w : Nat) : Int32 := M.1 21 0 0 (761 * o + w)
def Mm.w (M : Mm) (o w : Nat) (v : Int32) : Mm := M.up 21 0 0 (761 * o + w) v
/-- the row that is open -/
def Ro (M : Mm) (o : Nat) : Prop := M.1 20 0 0 3 = nI o ∧ o ≤ 10
/-- only row o changed -/
def Fo (o : Nat) (M M' : Mm) : Prop := M'.2 = M.2 ∧ (∀ k j p, k ≠ 21 → ∀ t, M'.1 k j p t = M.1 k j p t) ∧ ∀ t, (t < 761 * o ∨ 761 * o + 761 ≤ t) → M'.1 21 0 0 t = M.1 21 0 0 t
theorem Fo.rfl : Fo o M M := ⟨Eq.refl _, fun _ _ _ _ _ => Eq.refl _, fun _ _ => Eq.refl _⟩
theorem Fo.trans {M'' : Mm} (h : Fo o M M') (h2 : Fo o M' M'') : Fo o M M'' := ⟨h2.1.trans h.1, fun k j p hk t => (h2.2.1 k j p hk t).trans (h.2.1 k j p hk t), fun t ht => (h2.2.2 t ht).trans (h.2.2 t ht)⟩
theorem Fo.w {w : Nat} {v : Int32} (h : Fo o M M') (hw : w < 761) : Fo o M (M'.w o w v) := ⟨h.1, fun k j p hk t => (up_nk hk).trans (h.2.1 k j p hk t), fun t ht => (up_t (by omega)).trans (h.2.2 t ht)⟩
theorem Fo.k (h : Fo o M M') {k : Nat} (hk : k ≠ 21) (j p t : Nat) : M'.1 k j p t = M.1 k j p t := h.2.1 k j p hk t
theorem Ro.fo (h : Ro M o) {r : Nat} (hf : Fo r M M') : Ro M' o := ⟨(hf.k (by decide) 0 0 3).trans h.1, h.2⟩
theorem Ro.w (h : Ro M o) {r w : Nat} {v : Int32} : Ro (M.w r w v) o := ⟨(up_nk (by decide)).trans h.1, h.2⟩
theorem cl_at {w : Nat} {v : Int32} : cl (M.w o w v) o w = v := up_at
theorem cl_n {w k : Nat} {v : Int32} (h : k ≠ w) : cl (M.w o w v) o k = cl M o k := up_t (by omega)
theorem Fo.cl (h : Fo o M M') {r k : Nat} (hr : r ≠ o) (hk : k < 761) : cl M' r k = cl M r k := h.2.2 _ (by omega)
theorem MR.ext (h : MR M o A) {r : Nat} (e : ∀ k, k < 761 → cl M' r k = cl M o k) : MR M' r A := by
  obtain ⟨h1, h2, h3, h4, h5, h6, h7, h8⟩ := h
  have h12 := h1.2
  refine ⟨⟨(e 0 (by decide)).trans h1.1, h12⟩, fun t ht => (e (1 + t) (by omega)).trans (h2 t ht), fun t ht => (e (7 + t) (by omega)).trans (h3 t ht), fun p hp t ht => (e (17 + 12 * p + t) (by omega)).trans (h4 p hp t ht), fun p hp t ht => ?_, (e 6 (by decide)).trans h6, h7, fun i hi t ht => (e (641 + 4 * i + t) (by omega)).trans (h8 i hi t ht)⟩
  obtain ⟨a, b, c⟩ := h5 p hp t ht
  exact ⟨(e (17 + 12 * p + (10 + t)) (by omega)).trans a, b, fun k hk => (e (161 + 20 * (2 * p + t) + k) (by omega)).trans (c k hk)⟩
theorem MR.fo (h : MR M o A) {r : Nat} (hf : Fo r M M') (hne : o ≠ r) : MR M' o A := h.ext (fun k hk => hf.cl hne hk)
theorem MR.keep (h : MR M o A) (e : ∀ t, M'.1 21 0 0 t = M.1 21 0 0 t) : MR M' o A := h.ext (fun k _ => e _)
theorem MR.n (h : MR M o A) : cl M o 0 = nI A.n := h.1.1
theorem MR.n12 (h : MR M o A) : A.n ≤ 12 := h.1.2
theorem MR.g (h : MR M o A) {t : Nat} (ht : t < 5) : cl M o (1 + t) = A.g (1 + t) := h.2.1 t ht
theorem MR.tl (h : MR M o A) {t : Nat} (ht : t < 10) : cl M o (7 + t) = A.g (7 + t) := h.2.2.1 t ht
theorem MR.f (h : MR M o A) {p t : Nat} (hp : p < A.n) (ht : t < 10) : cl M o (17 + 12 * p + t) = A.f p t := h.2.2.2.1 p hp t ht
theorem MR.many (h : MR M o A) {p s : Nat} (hp : p < A.n) (hs : s < 2) : cl M o (17 + 12 * p + (10 + s)) = nI (A.s (2 * p + s)).length := (h.2.2.2.2.1 p hp s hs).1
theorem MR.l20 (h : MR M o A) {p s : Nat} (hp : p < A.n) (hs : s < 2) : (A.s (2 * p + s)).length ≤ 20 := (h.2.2.2.2.1 p hp s hs).2.1
theorem MR.mk (h : MR M o A) {p s k : Nat} (hp : p < A.n) (hs : s < 2) (hk : k < (A.s (2 * p + s)).length) : cl M o (161 + 20 * (2 * p + s) + k) = (A.s (2 * p + s)).getD k 0 := (h.2.2.2.2.1 p hp s hs).2.2 k hk
theorem MR.dn (h : MR M o A) : cl M o 6 = nI A.d.length := h.2.2.2.2.2.1
theorem MR.d30 (h : MR M o A) : A.d.length ≤ 30 := h.2.2.2.2.2.2.1
theorem MR.d (h : MR M o A) {i t : Nat} (hi : i < A.d.length) (ht : t < 4) : cl M o (641 + 4 * i + t) = dg A.d i t := h.2.2.2.2.2.2.2 i hi t ht
theorem MR.wF (h : MR M o A) {p t : Nat} {v : Int32} (hp : p < 12) (ht : t < 10) : MR (M.w o (17 + 12 * p + t) v) o (A.sF p t v) := by
  obtain ⟨h1, h2, h3, h4, h5, h6, h7, h8⟩ := h
  have h12 := h1.2
  refine ⟨⟨(cl_n (k := 0) (by omega)).trans h1.1, h12⟩, fun t ht => (cl_n (by omega)).trans (h2 t ht), fun t ht => (cl_n (by omega)).trans (h3 t ht), fun q hq k hk => ?_, fun q hq k hk => ?_, (cl_n (by omega)).trans h6, h7, fun i hi t ht => (cl_n (by omega)).trans (h8 i hi t ht)⟩
  · show cl _ o _ = if q = p ∧ k = t then v else A.f q k
    by_cases e : q = p ∧ k = t
    · rw [if_pos e, e.1, e.2]
      exact cl_at
    · rw [if_neg e]
      exact (cl_n (by omega)).trans (h4 q hq k hk)
  · obtain ⟨a, b, c⟩ := h5 q hq k hk
    exact ⟨(cl_n (by omega)).trans a, b, fun i hi => (cl_n (by omega)).trans (c i hi)⟩
theorem MR.wG (h : MR M o A) {t : Nat} {v : Int32} (ht : 1 ≤ t ∧ t ≤ 5 ∨ 7 ≤ t ∧ t ≤ 16) : MR (M.w o t v) o (A.sG t v) := by
  obtain ⟨h1, h2, h3, h4, h5, h6, h7, h8⟩ := h
  have h12 := h1.2
  refine ⟨⟨(cl_n (k := 0) (by omega)).trans h1.1, h12⟩, fun k hk => ?_, fun k hk => ?_, fun q hq k hk => (cl_n (by omega)).trans (h4 q hq k hk), fun q hq k hk => ?_, (cl_n (by omega)).trans h6, h7, fun i hi t ht => (cl_n (by omega)).trans (h8 i hi t ht)⟩
  · show cl _ o _ = if 1 + k = t then v else A.g (1 + k)
    by_cases e : 1 + k = t
    · rw [if_pos e, e]
      exact cl_at
    · rw [if_neg e]
      exact (cl_n e).trans (h2 k hk)
  · show cl _ o _ = if 7 + k = t then v else A.g (7 + k)
    by_cases e : 7 + k = t
    · rw [if_pos e, e]
      exact cl_at
    · rw [if_neg e]
      exact (cl_n e).trans (h3 k hk)
  · obtain ⟨a, b, c⟩ := h5 q hq k hk
    exact ⟨(cl_n (by omega)).trans a, b, fun i hi => (cl_n (by omega)).trans (c i hi)⟩
theorem MR.upS (h : MR M o A) {p s : Nat} {L : List Int32} (hp : p < 12) (hs : s < 2) (hz : cl M' o (17 + 12 * p + (10 + s)) = nI L.length) (hl : L.length ≤ 20) (hm : ∀ k, k < L.length → cl M' o (161 + 20 * (2 * p + s) + k) = L.getD k 0)
    (hf : ∀ k, k < 761 → k ≠ 17 + 12 * p + (10 + s) → ¬ (161 + 20 * (2 * p + s) ≤ k ∧ k < 161 + 20 * (2 * p + s) + 20) → cl M' o k = cl M o k) : MR M' o (A.sS (2 * p + s) L) := by
  obtain ⟨h1, h2, h3, h4, h5, h6, h7, h8⟩ := h
  have h12 := h1.2
  refine ⟨⟨(hf 0 (by omega) (by omega) (by omega)).trans h1.1, h12⟩, fun t ht => (hf (1 + t) (by omega) (by omega) (by omega)).trans (h2 t ht), fun t ht => (hf (7 + t) (by omega) (by omega) (by omega)).trans (h3 t ht), fun q (hq : q < A.n) t ht => (hf (17 + 12 * q + t) (by omega) (by omega) (by omega)).trans (h4 q hq t ht), fun q (hq : q < A.n) t ht => ?_, (hf 6 (by omega) (by omega) (by omega)).trans h6, h7, fun i (hi : i < A.d.length) t ht => (hf (641 + 4 * i + t) (by omega) (by omega) (by omega)).trans (h8 i hi t ht)⟩
  show M'.1 21 0 0 _ = nI (if 2 * q + t = 2 * p + s then L else A.s (2 * q + t)).length ∧ (if 2 * q + t = 2 * p + s then L else A.s (2 * q + t)).length ≤ 20 ∧ ∀ k, k < (if 2 * q + t = 2 * p + s then L else A.s (2 * q + t)).length → M'.1 21 0 0 _ = (if 2 * q + t = 2 * p + s then L else A.s (2 * q + t)).getD k 0
  by_cases e : 2 * q + t = 2 * p + s
  · have e1 : q = p := by omega
    have e2 : t = s := by omega
    subst e1
    subst e2
    rw [if_pos rfl]
    exact ⟨hz, hl, hm⟩
  · rw [if_neg e]
    obtain ⟨a, b, c⟩ := h5 q hq t ht
    have b' : (A.s (2 * q + t)).length ≤ 20 := b
    exact ⟨(hf (17 + 12 * q + (10 + t)) (by omega) (by omega) (by omega)).trans a, b, fun k (hk : k < (A.s (2 * q + t)).length) => (hf (161 + 20 * (2 * q + t) + k) (by omega) (by omega) (by omega)).trans (c k hk)⟩
theorem MR.upD (h : MR M o A) {d : List De} (hz : cl M' o 6 = nI d.length) (hl : d.length ≤ 30) (hm : ∀ i, i < d.length → ∀ t, t < 4 → cl M' o (641 + 4 * i + t) = dg d i t) (hf : ∀ k, k < 641 → k ≠ 6 → cl M' o k = cl M o k) : MR M' o (A.sD d) := by
  obtain ⟨h1, h2, h3, h4, h5, h6, h7, h8⟩ := h
  have h12 := h1.2
  refine ⟨⟨(hf 0 (by omega) (by omega)).trans h1.1, h12⟩, fun t ht => (hf (1 + t) (by omega) (by omega)).trans (h2 t ht), fun t ht => (hf (7 + t) (by omega) (by omega)).trans (h3 t ht), fun q (hq : q < A.n) t ht => (hf (17 + 12 * q + t) (by omega) (by omega)).trans (h4 q hq t ht), fun q (hq : q < A.n) t ht => ?_, hz, hl, hm⟩
  obtain ⟨a, b, c⟩ := h5 q hq t ht
  have b' : (A.s (2 * q + t)).length ≤ 20 := b
  exact ⟨(hf (17 + 12 * q + (10 + t)) (by omega) (by omega)).trans a, b, fun k hk => (hf (161 + 20 * (2 * q + t) + k) (by have hk' : k < (A.s (2 * q + t)).length := hk; omega) (by omega)).trans (c k hk)⟩
-- small methods
theorem ixC {w : Nat} (h : Ro M o) : (761 : Int32) * M.1 20 0 0 3 + nI w = nI (761 * o + w) := by rw [h.1, show (761 : Int32) = nI 761 from rfl, pk_mul, nI_add]
theorem s_X9_get {w : Nat} {v : Int32} (hR : Ro M o) (hw : w < 761) (hv : cl M o w = v) (h : P (.inl (some (.int v))) M) : Sp E yX9_get cX9_get zX9_get [.ref (ad E 20 0 0), .int (nI w)] M P := by
  have ho := hR.2
  refine Sp_of (own := RX9) (by decide) rfl rfl (Nat.le_of_ble_eq_true rfl) (fun C => ?_)
  refine G_aload_n dX9_get_0 rfl ?_
  refine gf_X9_7 dX9_get_1  ?_
  refine G_sipush (v := 761) dX9_get_4 (by decide) ?_
  refine G_aload_n dX9_get_7 rfl ?_
  refine gf_X9_44 dX9_get_8  ?_
  refine G_imul dX9_get_11 ?_
  refine G_iload_n dX9_get_12 rfl ?_
  refine G_iadd dX9_get_13 ?_
  refine G_iald dX9_get_14 ⟨by decide, rfl, rfl⟩ rfl (ixC hR) (show 761 * o + w < 8371 by omega) (by decide) ?_
  rw [show M.1 21 0 0 (761 * o + w) = v from hv]
  refine G_iret dX9_get_15 rfl rfl (Nat.le_of_ble_eq_true rfl) (Nat.le_of_ble_eq_true rfl) ?_
  exact h
theorem s_X9_lay {w : Nat} {v : Int32} (hR : Ro M o) (hw : w < 761) (h : P (.inl none) (M.w o w v)) : Sp E yX9_lay cX9_lay zX9_lay [.ref (ad E 20 0 0), .int (nI w), .int v] M P := by
  have ho := hR.2
  refine Sp_of (own := RX9) (by decide) rfl rfl (Nat.le_of_ble_eq_true rfl) (fun C => ?_)
  refine G_aload_n dX9_lay_0 rfl ?_
  refine gf_X9_7 dX9_lay_1  ?_
  refine G_sipush (v := 761) dX9_lay_4 (by decide) ?_
  refine G_aload_n dX9_lay_7 rfl ?_
  refine gf_X9_44 dX9_lay_8  ?_
  refine G_imul dX9_lay_11 ?_
  refine G_iload_n dX9_lay_12 rfl ?_
  refine G_iadd dX9_lay_13 ?_
  refine G_iload_n dX9_lay_14 rfl ?_
  refine G_iast dX9_lay_15 ⟨by decide, rfl, rfl⟩ (fun _ => rfl) (ixC hR) (show 761 * o + w < 8371 by omega) (by decide) ?_
  refine G_vret dX9_lay_16 rfl (Nat.le_of_ble_eq_true rfl) (Nat.le_of_ble_eq_true rfl) ?_
  exact h
theorem s_X9_adds {w : Nat} {v x : Int32} (hR : Ro M o) (hw : w < 761) (hx : cl M o w = x) (h : P (.inl none) (M.w o w (x + v))) : Sp E yX9_adds cX9_adds zX9_adds [.ref (ad E 20 0 0), .int (nI w), .int v] M P := by
  have ho := hR.2
  refine Sp_of (own := RX9) (by decide) rfl rfl (Nat.le_of_ble_eq_true rfl) (fun C => ?_)
  refine G_aload_n dX9_adds_0 rfl ?_
  refine gf_X9_7 dX9_adds_1  ?_
  refine G_sipush (v := 761) dX9_adds_4 (by decide) ?_
  refine G_aload_n dX9_adds_7 rfl ?_
  refine gf_X9_44 dX9_adds_8  ?_
  refine G_imul dX9_adds_11 ?_
  refine G_iload_n dX9_adds_12 rfl ?_
  refine G_iadd dX9_adds_13 ?_
  refine G_dup2 dX9_adds_14 rfl rfl ?_
  refine G_iald dX9_adds_15 ⟨by decide, rfl, rfl⟩ rfl (ixC hR) (show 761 * o + w < 8371 by omega) (by decide) ?_
  rw [show M.1 21 0 0 (761 * o + w) = x from hx]
  refine G_iload_n dX9_adds_16 rfl ?_
  refine G_iadd dX9_adds_17 ?_
  refine G_iast dX9_adds_18 ⟨by decide, rfl, rfl⟩ (fun _ => rfl) (ixC hR) (show 761 * o + w < 8371 by omega) (by decide) ?_
  refine G_vret dX9_adds_19 rfl (Nat.le_of_ble_eq_true rfl) (Nat.le_of_ble_eq_true rfl) ?_
  exact h
theorem s_X9_tallies {t : Nat} {v x : Int32} (hR : Ro M o) (ht : t < 10) (hx : cl M o (7 + t) = x) (h : P (.inl none) (M.w o (7 + t) (x + v))) : Sp E yX9_tallies cX9_tallies zX9_tallies [.ref (ad E 20 0 0), .int (nI t), .int v] M P := by
  refine Sp_of (own := RX9) (by decide) rfl rfl (Nat.le_of_ble_eq_true rfl) (fun C => ?_)
  refine G_aload_n dX9_tallies_0 rfl ?_
  refine G_bipush (v := 7) dX9_tallies_1 (by decide) ?_
  refine G_iload_n dX9_tallies_3 rfl ?_
  refine G_iadd dX9_tallies_4 ?_
  rw [show (7 : Int32) + nI t = nI (7 + t) from nI_add 7 t]
  refine G_iload_n dX9_tallies_5 rfl ?_
  refine cv_X9_47 (cs' := 0) (ss' := 0) dX9_tallies_6  (Nat.le_of_ble_eq_true rfl) (Nat.le_of_ble_eq_true rfl) (Nat.le_of_ble_eq_true rfl) rfl rfl (Nat.le_of_ble_eq_true rfl) (Nat.le_of_ble_eq_true rfl) rfl ?_
  refine s_X9_adds hR (by omega) hx (hGo_v ?_)
  refine G_vret dX9_tallies_9 rfl (Nat.le_of_ble_eq_true rfl) (Nat.le_of_ble_eq_true rfl) ?_
  exact h
theorem ixP {p t : Nat} : (17 : Int32) + 12 * nI p + nI t = nI (17 + 12 * p + t) := by rw [show (17 : Int32) = nI 17 from rfl, show (12 : Int32) = nI 12 from rfl, pk_mul, nI_add, nI_add]
theorem ixD {i t : Nat} : (641 : Int32) + 4 * nI i + nI t = nI (641 + 4 * i + t) := by rw [show (641 : Int32) = nI 641 from rfl, show (4 : Int32) = nI 4 from rfl, pk_mul, nI_add, nI_add]
theorem s_X9_pu {p t : Nat} {v : Int32} (hR : Ro M o) (hp : p < 12) (ht : t < 12) (hv : cl M o (17 + 12 * p + t) = v) (h : P (.inl (some (.int v))) M) : Sp E yX9_pu cX9_pu zX9_pu [.ref (ad E 20 0 0), .int (nI p), .int (nI t)] M P := by
  refine Sp_of (own := RX9) (by decide) rfl rfl (Nat.le_of_ble_eq_true rfl) (fun C => ?_)
  refine G_aload_n dX9_pu_0 rfl ?_
  refine G_bipush (v := 17) dX9_pu_1 (by decide) ?_
  refine G_bipush (v := 12) dX9_pu_3 (by decide) ?_
  refine G_iload_n dX9_pu_5 rfl ?_
  refine G_imul dX9_pu_6 ?_
  refine G_iadd dX9_pu_7 ?_
  refine G_iload_n dX9_pu_8 rfl ?_
  refine G_iadd dX9_pu_9 ?_
  rw [ixP]
  refine cv_X9_50 (cs' := 0) (ss' := 0) dX9_pu_10  (Nat.le_of_ble_eq_true rfl) (Nat.le_of_ble_eq_true rfl) (Nat.le_of_ble_eq_true rfl) rfl rfl (Nat.le_of_ble_eq_true rfl) (Nat.le_of_ble_eq_true rfl) rfl ?_
  refine s_X9_get hR (by omega) hv (hGo_i ?_)
  refine G_iret dX9_pu_13 rfl rfl (Nat.le_of_ble_eq_true rfl) (Nat.le_of_ble_eq_true rfl) ?_
  exact h
theorem s_X9_layPupil {p t : Nat} {v : Int32} (hR : Ro M o) (hp : p < 12) (ht : t < 12) (h : P (.inl none) (M.w o (17 + 12 * p + t) v)) : Sp E yX9_layPupil cX9_layPupil zX9_layPupil [.ref (ad E 20 0 0), .int (nI p), .int (nI t), .int v] M P := by
  refine Sp_of (own := RX9) (by decide) rfl rfl (Nat.le_of_ble_eq_true rfl) (fun C => ?_)
  refine G_aload_n dX9_layPupil_0 rfl ?_
  refine G_bipush (v := 17) dX9_layPupil_1 (by decide) ?_
  refine G_bipush (v := 12) dX9_layPupil_3 (by decide) ?_
  refine G_iload_n dX9_layPupil_5 rfl ?_
  refine G_imul dX9_layPupil_6 ?_
  refine G_iadd dX9_layPupil_7 ?_
  refine G_iload_n dX9_layPupil_8 rfl ?_
  refine G_iadd dX9_layPupil_9 ?_
  rw [ixP]
  refine G_iload_n dX9_layPupil_10 rfl ?_
  refine cv_X9_33 (cs' := 0) (ss' := 0) dX9_layPupil_11  (Nat.le_of_ble_eq_true rfl) (Nat.le_of_ble_eq_true rfl) (Nat.le_of_ble_eq_true rfl) rfl rfl (Nat.le_of_ble_eq_true rfl) (Nat.le_of_ble_eq_true rfl) rfl ?_
  refine s_X9_lay hR (by omega) (hGo_v ?_)
  refine G_vret dX9_layPupil_14 rfl (Nat.le_of_ble_eq_true rfl) (Nat.le_of_ble_eq_true rfl) ?_
  exact h
theorem s_X9_addsPupil {p t : Nat} {v x : Int32} (hR : Ro M o) (hp : p < 12) (ht : t < 12) (hx : cl M o (17 + 12 * p + t) = x) (h : P (.inl none) (M.w o (17 + 12 * p + t) (x + v))) : Sp E yX9_addsPupil cX9_addsPupil zX9_addsPupil [.ref (ad E 20 0 0), .int (nI p), .int (nI t), .int v] M P := by
  refine Sp_of (own := RX9) (by decide) rfl rfl (Nat.le_of_ble_eq_true rfl) (fun C => ?_)
  refine G_aload_n dX9_addsPupil_0 rfl ?_
  refine G_bipush (v := 17) dX9_addsPupil_1 (by decide) ?_
  refine G_bipush (v := 12) dX9_addsPupil_3 (by decide) ?_
  refine G_iload_n dX9_addsPupil_5 rfl ?_
  refine G_imul dX9_addsPupil_6 ?_
  refine G_iadd dX9_addsPupil_7 ?_
  refine G_iload_n dX9_addsPupil_8 rfl ?_
  refine G_iadd dX9_addsPupil_9 ?_
  rw [ixP]
  refine G_iload_n dX9_addsPupil_10 rfl ?_
  refine cv_X9_47 (cs' := 0) (ss' := 0) dX9_addsPupil_11  (Nat.le_of_ble_eq_true rfl) (Nat.le_of_ble_eq_true rfl) (Nat.le_of_ble_eq_true rfl) rfl rfl (Nat.le_of_ble_eq_true rfl) (Nat.le_of_ble_eq_true rfl) rfl ?_
  refine s_X9_adds hR (by omega) hx (hGo_v ?_)
  refine G_vret dX9_addsPupil_14 rfl (Nat.le_of_ble_eq_true rfl) (Nat.le_of_ble_eq_true rfl) ?_
  exact h
theorem s_X9_db {i t : Nat} {v : Int32} (hR : Ro M o) (hi : i < 30) (ht : t < 4) (hv : cl M o (641 + 4 * i + t) = v) (h : P (.inl (some (.int v))) M) : Sp E yX9_db cX9_db zX9_db [.ref (ad E 20 0 0), .int (nI i), .int (nI t)] M P := by
  refine Sp_of (own := RX9) (by decide) rfl rfl (Nat.le_of_ble_eq_true rfl) (fun C => ?_)
  refine G_aload_n dX9_db_0 rfl ?_
  refine G_sipush (v := 641) dX9_db_1 (by decide) ?_
  refine G_iconst (v := 4) dX9_db_4 (by decide) ?_
  refine G_iload_n dX9_db_5 rfl ?_
  refine G_imul dX9_db_6 ?_
  refine G_iadd dX9_db_7 ?_
  refine G_iload_n dX9_db_8 rfl ?_
  refine G_iadd dX9_db_9 ?_
  rw [ixD]
  refine cv_X9_50 (cs' := 0) (ss' := 0) dX9_db_10  (Nat.le_of_ble_eq_true rfl) (Nat.le_of_ble_eq_true rfl) (Nat.le_of_ble_eq_true rfl) rfl rfl (Nat.le_of_ble_eq_true rfl) (Nat.le_of_ble_eq_true rfl) rfl ?_
  refine s_X9_get hR (by omega) hv (hGo_i ?_)
  refine G_iret dX9_db_13 rfl rfl (Nat.le_of_ble_eq_true rfl) (Nat.le_of_ble_eq_true rfl) ?_
  exact h
theorem s_X9_in {v a b' : Int32} (h : P (.inl (some (.int (if inR v a b' then 1 else 0)))) M) : Sp E yX9_in cX9_in zX9_in [.int v, .int a, .int b'] M P := by
  refine Sp_of (own := RX9) (by decide) rfl rfl (Nat.le_of_ble_eq_true rfl) (fun C => ?_)
  refine G_iload_n dX9_in_0 rfl ?_
  refine G_iload_n dX9_in_1 rfl ?_
  refine G_icmp_lt (tgt := 14) dX9_in_2 (by decide) (fun c2 => ?_) (fun c2 => ?_)
  · rw [if_neg (fun q => absurd c2 (Int32.not_lt.mpr q.1))] at h
    refine G_iconst (v := 0) dX9_in_14 (by decide) ?_
    refine G_iret dX9_in_15 rfl rfl (Nat.le_of_ble_eq_true rfl) (Nat.le_of_ble_eq_true rfl) ?_
    exact h
  · refine G_iload_n dX9_in_5 rfl ?_
    refine G_iload_n dX9_in_6 rfl ?_
    refine G_icmp_gt (tgt := 14) dX9_in_7 (by decide) (fun c7 => ?_) (fun c7 => ?_)
    · rw [if_neg (fun q => absurd c7 (Int32.not_lt.mpr q.2))] at h
      refine G_iconst (v := 0) dX9_in_14 (by decide) ?_
      refine G_iret dX9_in_15 rfl rfl (Nat.le_of_ble_eq_true rfl) (Nat.le_of_ble_eq_true rfl) ?_
      exact h
    · rw [if_pos ⟨Int32.not_lt.mp c2, Int32.not_lt.mp c7⟩] at h
      refine G_iconst (v := 1) dX9_in_10 (by decide) ?_
      refine G_goto (tgt := 15) dX9_in_11 (by decide) ?_
      refine G_iret dX9_in_15 rfl rfl (Nat.le_of_ble_eq_true rfl) (Nat.le_of_ble_eq_true rfl) ?_
      exact h
theorem s_X9_one {b' : Int32} (hb : b' = 0 ∨ b' = 1) (h : P (.inl (some (.int b'))) M) : Sp E yX9_one cX9_one zX9_one [.int b'] M P := by
  rcases hb with rfl | rfl
  · refine Sp_of (own := RX9) (by decide) rfl rfl (Nat.le_of_ble_eq_true rfl) (fun C => ?_)
    refine G_iload_n dX9_one_0 rfl ?_
    refine G_if_eq (tgt := 8) dX9_one_1 (by decide) (fun c1 => ?_) (fun c1 => ?_)
    · refine G_iconst (v := 0) dX9_one_8 (by decide) ?_
      refine G_iret dX9_one_9 rfl rfl (Nat.le_of_ble_eq_true rfl) (Nat.le_of_ble_eq_true rfl) ?_
      exact h
    · exact absurd rfl c1
  · refine Sp_of (own := RX9) (by decide) rfl rfl (Nat.le_of_ble_eq_true rfl) (fun C => ?_)
    refine G_iload_n dX9_one_0 rfl ?_
    refine G_if_eq (tgt := 8) dX9_one_1 (by decide) (fun c1 => ?_) (fun c1 => ?_)
    · exact absurd c1 (by decide)
    · refine G_iconst (v := 1) dX9_one_4 (by decide) ?_
      refine G_goto (tgt := 9) dX9_one_5 (by decide) ?_
      refine G_iret dX9_one_9 rfl rfl (Nat.le_of_ble_eq_true rfl) (Nat.le_of_ble_eq_true rfl) ?_
      exact h
theorem s_X9_holds1 {k : Int32} (hT : M.1 20 0 0 5 = 0) (h : P (.inl (some (.int 1))) M) : Sp E yX9_holds cX9_holds zX9_holds [.ref (ad E 20 0 0), .int 1, .int k] M P := by
  refine Sp_of (own := RX9) (by decide) rfl rfl (Nat.le_of_ble_eq_true rfl) (fun C => ?_)
  refine G_aload_n dX9_holds_0 rfl ?_
  refine gf_X9_41 dX9_holds_1  ?_
  rw [hT]
  refine G_if_ne (tgt := 16) dX9_holds_4 (by decide) (fun c4 => ?_) (fun c4 => ?_)
  · exact absurd rfl c4
  · refine G_iload_n dX9_holds_7 rfl ?_
    refine G_if_ne (tgt := 16) dX9_holds_8 (by decide) (fun c8 => ?_) (fun c8 => ?_)
    · refine G_aload_n dX9_holds_16 rfl ?_
      refine gf_X9_41 dX9_holds_17  ?_
      rw [hT]
      refine G_if_ne (tgt := 27) dX9_holds_20 (by decide) (fun c20 => ?_) (fun c20 => ?_)
      · exact absurd rfl c20
      · refine G_iconst (v := 1) dX9_holds_23 (by decide) ?_
        refine G_goto (tgt := 28) dX9_holds_24 (by decide) ?_
        refine G_iret dX9_holds_28 rfl rfl (Nat.le_of_ble_eq_true rfl) (Nat.le_of_ble_eq_true rfl) ?_
        exact h
    · exact absurd c8 (by decide)
theorem s_X9_holds0 {k : Int32} (hT : M.1 20 0 0 5 = 0) (hk : k ≠ 0) (h : P (.inl (some (.int 0))) (M.up 20 0 0 5 k)) : Sp E yX9_holds cX9_holds zX9_holds [.ref (ad E 20 0 0), .int 0, .int k] M P := by
  refine Sp_of (own := RX9) (by decide) rfl rfl (Nat.le_of_ble_eq_true rfl) (fun C => ?_)
  refine G_aload_n dX9_holds_0 rfl ?_
  refine gf_X9_41 dX9_holds_1  ?_
  rw [hT]
  refine G_if_ne (tgt := 16) dX9_holds_4 (by decide) (fun c4 => ?_) (fun c4 => ?_)
  · exact absurd rfl c4
  · refine G_iload_n dX9_holds_7 rfl ?_
    refine G_if_ne (tgt := 16) dX9_holds_8 (by decide) (fun c8 => ?_) (fun c8 => ?_)
    · exact absurd rfl c8
    · refine G_aload_n dX9_holds_11 rfl ?_
      refine G_iload_n dX9_holds_12 rfl ?_
      refine pf_X9_41 dX9_holds_13  ?_
      refine G_aload_n dX9_holds_16 rfl ?_
      refine gf_X9_41 dX9_holds_17  ?_
      rw [up_at]
      refine G_if_ne (tgt := 27) dX9_holds_20 (by decide) (fun c20 => ?_) (fun c20 => ?_)
      · refine G_iconst (v := 0) dX9_holds_27 (by decide) ?_
        refine G_iret dX9_holds_28 rfl rfl (Nat.le_of_ble_eq_true rfl) (Nat.le_of_ble_eq_true rfl) ?_
        exact h
      · exact absurd c20 hk
theorem s_X9_sumOf {t : Nat} {f : Nat → Int32} (hR : Ro M o) (hA : MR M o A) (ht : t < 12) (hf : ∀ p, p < A.n → cl M o (17 + 12 * p + t) = f p) (h : P (.inl (some (.int (sm A.n f)))) M) : Sp E yX9_sumOf cX9_sumOf zX9_sumOf [.ref (ad E 20 0 0), .int (nI t)] M P := by
  have h12 := hA.n12
  refine Sp_of (own := RX9) (by decide) rfl rfl (Nat.le_of_ble_eq_true rfl) (fun C => ?_)
  refine G_iconst (v := 0) dX9_sumOf_0 (by decide) ?_
  refine G_istore_n dX9_sumOf_1 (Nat.le_of_ble_eq_true rfl) ?_
  refine G_iconst (v := 0) dX9_sumOf_2 (by decide) ?_
  refine G_istore_n dX9_sumOf_3 (Nat.le_of_ble_eq_true rfl) ?_
  refine G_lv (lv' := [(0, .ref (ad E 20 0 0)), (1, .int (nI t)), (2, .int (sm 0 f)), (3, .int (nI 0))]) ⟨rfl, rfl, rfl, rfl, trivial⟩ ?_
  refine up0 (c := A.n) (H := fun i => G E C RX9 cX9_sumOf zX9_sumOf P 0 0 M 4 [(0, .ref (ad E 20 0 0)), (1, .int (nI t)), (2, .int (sm i f)), (3, .int (nI i))] []) ?_ (fun i hi ih => ?_)
  · refine G_iload_n dX9_sumOf_4 rfl ?_
    refine G_aload_n dX9_sumOf_5 rfl ?_
    refine G_iconst (v := 0) dX9_sumOf_6 (by decide) ?_
    refine cv_X9_50 (cs' := 0) (ss' := 0) dX9_sumOf_7  (Nat.le_of_ble_eq_true rfl) (Nat.le_of_ble_eq_true rfl) (Nat.le_of_ble_eq_true rfl) rfl rfl (Nat.le_of_ble_eq_true rfl) (Nat.le_of_ble_eq_true rfl) rfl ?_
    refine s_X9_get (w := 0) hR (by decide) hA.n (hGo_i ?_)
    refine G_icmp_ge (tgt := 28) dX9_sumOf_10 (by decide) (fun c10 => ?_) (fun c10 => ?_)
    · refine G_iload_n dX9_sumOf_28 rfl ?_
      refine G_iret dX9_sumOf_29 rfl rfl (Nat.le_of_ble_eq_true rfl) (Nat.le_of_ble_eq_true rfl) ?_
      exact h
    · exact absurd (Int32.le_refl _) c10
  · refine G_iload_n dX9_sumOf_4 rfl ?_
    refine G_aload_n dX9_sumOf_5 rfl ?_
    refine G_iconst (v := 0) dX9_sumOf_6 (by decide) ?_
    refine cv_X9_50 (cs' := 0) (ss' := 0) dX9_sumOf_7  (Nat.le_of_ble_eq_true rfl) (Nat.le_of_ble_eq_true rfl) (Nat.le_of_ble_eq_true rfl) rfl rfl (Nat.le_of_ble_eq_true rfl) (Nat.le_of_ble_eq_true rfl) rfl ?_
    refine s_X9_get (w := 0) hR (by decide) hA.n (hGo_i ?_)
    refine G_icmp_ge (tgt := 28) dX9_sumOf_10 (by decide) (fun c10 => ?_) (fun c10 => ?_)
    · exact absurd c10 (nI_ge hi (by omega))
    · refine G_iload_n dX9_sumOf_13 rfl ?_
      refine G_aload_n dX9_sumOf_14 rfl ?_
      refine G_iload_n dX9_sumOf_15 rfl ?_
      refine G_iload_n dX9_sumOf_16 rfl ?_
      refine cv_X9_54 (cs' := 0) (ss' := 0) dX9_sumOf_17  (Nat.le_of_ble_eq_true rfl) (Nat.le_of_ble_eq_true rfl) (Nat.le_of_ble_eq_true rfl) rfl rfl (Nat.le_of_ble_eq_true rfl) (Nat.le_of_ble_eq_true rfl) rfl ?_
      refine s_X9_pu hR (by omega) ht (hf i hi) (hGo_i ?_)
      refine G_iadd dX9_sumOf_20 ?_
      refine G_istore_n dX9_sumOf_21 (Nat.le_of_ble_eq_true rfl) ?_
      refine G_iinc (v := 1) dX9_sumOf_22 rfl (Nat.le_of_ble_eq_true rfl) (by decide) ?_
      refine G_goto (tgt := 4) dX9_sumOf_25 (by decide) ?_
      exact G_lv2 ih ⟨rfl, rfl, rfl, lvi (nI_1 i), trivial⟩
theorem s_X9_isDetained {p : Nat} {v : Int32} (hR : Ro M o) (hp : p < 12) (hv : cl M o (17 + 12 * p + 8) = v) (h : P (.inl (some (.int (if 0 < v then 1 else 0)))) M) : Sp E yX9_isDetained cX9_isDetained zX9_isDetained [.ref (ad E 20 0 0), .int (nI p)] M P := by
  refine Sp_of (own := RX9) (by decide) rfl rfl (Nat.le_of_ble_eq_true rfl) (fun C => ?_)
  refine G_aload_n dX9_isDetained_0 rfl ?_
  refine G_iload_n dX9_isDetained_1 rfl ?_
  refine G_bipush (v := 8) dX9_isDetained_2 (by decide) ?_
  refine cv_X9_54 (cs' := 0) (ss' := 0) dX9_isDetained_4  (Nat.le_of_ble_eq_true rfl) (Nat.le_of_ble_eq_true rfl) (Nat.le_of_ble_eq_true rfl) rfl rfl (Nat.le_of_ble_eq_true rfl) (Nat.le_of_ble_eq_true rfl) rfl ?_
  refine s_X9_pu (t := 8) hR hp (by decide) hv (hGo_i ?_)
  refine G_if_le (tgt := 14) dX9_isDetained_7 (by decide) (fun c7 => ?_) (fun c7 => ?_)
  · rw [if_neg (Int32.not_lt.mpr c7)] at h
    refine G_iconst (v := 0) dX9_isDetained_14 (by decide) ?_
    refine G_iret dX9_isDetained_15 rfl rfl (Nat.le_of_ble_eq_true rfl) (Nat.le_of_ble_eq_true rfl) ?_
    exact h
  · rw [if_pos (Int32.not_le.mp c7)] at h
    refine G_iconst (v := 1) dX9_isDetained_10 (by decide) ?_
    refine G_goto (tgt := 15) dX9_isDetained_11 (by decide) ?_
    refine G_iret dX9_isDetained_15 rfl rfl (Nat.le_of_ble_eq_true rfl) (Nat.le_of_ble_eq_true rfl) ?_
    exact h
theorem s_X9_many {p s : Nat} {v : Int32} (hR : Ro M o) (hp : p < 12) (hs : s < 2) (hv : cl M o (17 + 12 * p + (10 + s)) = v) (h : P (.inl (some (.int v))) M) : Sp E yX9_many cX9_many zX9_many [.ref (ad E 20 0 0), .int (nI p), .int (nI s)] M P := by
  refine Sp_of (own := RX9) (by decide) rfl rfl (Nat.le_of_ble_eq_true rfl) (fun C => ?_)
  refine G_aload_n dX9_many_0 rfl ?_
  refine G_iload_n dX9_many_1 rfl ?_
  refine G_bipush (v := 10) dX9_many_2 (by decide) ?_
  refine G_iload_n dX9_many_4 rfl ?_
  refine G_iadd dX9_many_5 ?_
  rw [show (10 : Int32) + nI s = nI (10 + s) from nI_add 10 s]
  refine cv_X9_54 (cs' := 0) (ss' := 0) dX9_many_6  (Nat.le_of_ble_eq_true rfl) (Nat.le_of_ble_eq_true rfl) (Nat.le_of_ble_eq_true rfl) rfl rfl (Nat.le_of_ble_eq_true rfl) (Nat.le_of_ble_eq_true rfl) rfl ?_
  refine s_X9_pu hR hp (by omega) hv (hGo_i ?_)
  refine G_iret dX9_many_9 rfl rfl (Nat.le_of_ble_eq_true rfl) (Nat.le_of_ble_eq_true rfl) ?_
  exact h
theorem s_X9_satchel {p s : Nat} (h : P (.inl (some (.int (nI (161 + 20 * (2 * p + s)))))) M) : Sp E yX9_satchel cX9_satchel zX9_satchel [.ref (ad E 20 0 0), .int (nI p), .int (nI s)] M P := by
  refine Sp_of (own := RX9) (by decide) rfl rfl (Nat.le_of_ble_eq_true rfl) (fun C => ?_)
  refine G_sipush (v := 161) dX9_satchel_0 (by decide) ?_
  refine G_bipush (v := 20) dX9_satchel_3 (by decide) ?_
  refine G_iconst (v := 2) dX9_satchel_5 (by decide) ?_
  refine G_iload_n dX9_satchel_6 rfl ?_
  refine G_imul dX9_satchel_7 ?_
  refine G_iload_n dX9_satchel_8 rfl ?_
  refine G_iadd dX9_satchel_9 ?_
  refine G_imul dX9_satchel_10 ?_
  refine G_iadd dX9_satchel_11 ?_
  rw [show (161 : Int32) + 20 * (2 * nI p + nI s) = nI (161 + 20 * (2 * p + s)) by rw [show (161 : Int32) = nI 161 from rfl, show (20 : Int32) = nI 20 from rfl, show (2 : Int32) = nI 2 from rfl, pk_mul, nI_add, pk_mul, nI_add]]
  refine G_iret dX9_satchel_12 rfl rfl (Nat.le_of_ble_eq_true rfl) (Nat.le_of_ble_eq_true rfl) ?_
  exact h
theorem s_X9_makerAt {p s k : Nat} {v : Int32} (hR : Ro M o) (hp : p < 12) (hs : s < 2) (hk : k < 20) (hv : cl M o (161 + 20 * (2 * p + s) + k) = v) (h : P (.inl (some (.int v))) M) : Sp E yX9_makerAt cX9_makerAt zX9_makerAt [.ref (ad E 20 0 0), .int (nI p), .int (nI s), .int (nI k)] M P := by
  refine Sp_of (own := RX9) (by decide) rfl rfl (Nat.le_of_ble_eq_true rfl) (fun C => ?_)
  refine G_aload_n dX9_makerAt_0 rfl ?_
  refine G_aload_n dX9_makerAt_1 rfl ?_
  refine G_iload_n dX9_makerAt_2 rfl ?_
  refine G_iload_n dX9_makerAt_3 rfl ?_
  refine cv_X9_62 (cs' := 0) (ss' := 0) dX9_makerAt_4  (Nat.le_of_ble_eq_true rfl) (Nat.le_of_ble_eq_true rfl) (Nat.le_of_ble_eq_true rfl) rfl rfl (Nat.le_of_ble_eq_true rfl) (Nat.le_of_ble_eq_true rfl) rfl ?_
  refine s_X9_satchel (hGo_i ?_)
  refine G_iload_n dX9_makerAt_7 rfl ?_
  refine G_iadd dX9_makerAt_8 ?_
  rw [nI_add]
  refine cv_X9_50 (cs' := 0) (ss' := 0) dX9_makerAt_9  (Nat.le_of_ble_eq_true rfl) (Nat.le_of_ble_eq_true rfl) (Nat.le_of_ble_eq_true rfl) rfl rfl (Nat.le_of_ble_eq_true rfl) (Nat.le_of_ble_eq_true rfl) rfl ?_
  refine s_X9_get hR (by omega) hv (hGo_i ?_)
  refine G_iret dX9_makerAt_12 rfl rfl (Nat.le_of_ble_eq_true rfl) (Nat.le_of_ble_eq_true rfl) ?_
  exact h
theorem s_X9_piecesIn {s : Nat} (hR : Ro M o) (hA : MR M o A) (hs : s < 2) (h : P (.inl (some (.int (piecesV A s)))) M) : Sp E yX9_piecesIn cX9_piecesIn zX9_piecesIn [.ref (ad E 20 0 0), .int (nI s)] M P := by
  refine Sp_of (own := RX9) (by decide) rfl rfl (Nat.le_of_ble_eq_true rfl) (fun C => ?_)
  refine G_aload_n dX9_piecesIn_0 rfl ?_
  refine G_bipush (v := 10) dX9_piecesIn_1 (by decide) ?_
  refine G_iload_n dX9_piecesIn_3 rfl ?_
  refine G_iadd dX9_piecesIn_4 ?_
  rw [show (10 : Int32) + nI s = nI (10 + s) from nI_add 10 s]
  refine cv_X9_81 (cs' := 0) (ss' := 0) dX9_piecesIn_5  (Nat.le_of_ble_eq_true rfl) (Nat.le_of_ble_eq_true rfl) (Nat.le_of_ble_eq_true rfl) rfl rfl (Nat.le_of_ble_eq_true rfl) (Nat.le_of_ble_eq_true rfl) rfl ?_
  refine s_X9_sumOf (f := fun p => nI (A.s (2 * p + s)).length) hR hA (by omega) (fun p hp => hA.many hp hs) (hGo_i ?_)
  refine G_iret dX9_piecesIn_8 rfl rfl (Nat.le_of_ble_eq_true rfl) (Nat.le_of_ble_eq_true rfl) ?_
  exact h
end MCORE
