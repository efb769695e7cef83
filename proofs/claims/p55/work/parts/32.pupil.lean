/-! ===== Satchel.giveEldest, copyFrom; HomeworkBarter$Pupil ===== -/
section CPUP
variable {E : Ed} {M : Mm} {P : Res → Mm → Prop} {j q p : Nat} {L : List Int32}
theorem Fr.of_cp {D : Nat → Nat → Nat → Prop} {M M' : Mm} (h : Fr D M M') {k j p : Nat} {row : Nat → Int32} (hd : D k j p) : Fr D M (M'.cp k j p row) := h.cp hd
theorem Fr.at {D : Nat → Nat → Nat → Prop} {M M' : Mm} (h : Fr D M M') {k j p : Nat} (hn : ¬ D k j p) (t : Nat) : M'.1 k j p t = M.1 k j p t := h.2 k j p hn t
theorem s_X2_giveEldest {q2 e : Nat} {L2 : List Int32} (hj : j < 10) (hq : q < 24) (hq2 : q2 < 24) (hne : q ≠ q2) (hs : Sat M j q L) (hs2 : Sat M j q2 L2) (he : e ≤ L.length) (hr : L2.length + e ≤ 20) (h : ∀ M', Sat M' j q (L.drop e) → Sat M' j q2 (L2 ++ L.take e) → Fr (fun k j' p => (k = 13 ∨ k = 14) ∧ j' = j ∧ (p = q ∨ p = q2)) M M' → P (.inl none) M') : Sp E yX2_giveEldest cX2_giveEldest zX2_giveEldest [.ref (ad E 13 j q), .ref (ad E 13 j q2), .int (nI e)] M P := by
  refine Sp_of (own := RX2) (by decide) rfl rfl (Nat.le_of_ble_eq_true rfl) (fun C => ?_)
  have h20 := hs.2.1
  have hD1 : ∀ k j' p, dS j q k j' p → (k = 13 ∨ k = 14) ∧ j' = j ∧ (p = q ∨ p = q2) := fun k j' p h => ⟨h.1, h.2.1, Or.inl h.2.2⟩
  have hD2 : ∀ k j' p, dS j q2 k j' p → (k = 13 ∨ k = 14) ∧ j' = j ∧ (p = q ∨ p = q2) := fun k j' p h => ⟨h.1, h.2.1, Or.inr h.2.2⟩
  refine G_iconst (v := 0) dX2_giveEldest_0 (by decide) ?_
  refine G_istore_n dX2_giveEldest_1 (Nat.le_of_ble_eq_true rfl) ?_
  refine G_lv (lv' := [(0, .ref (ad E 13 j q)), (1, .ref (ad E 13 j q2)), (2, .int (nI e)), (3, .int (nI 0))]) ⟨rfl, rfl, rfl, rfl, trivial⟩ ?_
  refine up0 (c := e) (H := fun i => ∀ M', Sat M' j q L → Sat M' j q2 (L2 ++ L.take i) → Fr (fun k j' p => (k = 13 ∨ k = 14) ∧ j' = j ∧ (p = q ∨ p = q2)) M M' → G E C RX2 cX2_giveEldest zX2_giveEldest P 0 0 M' 2 [(0, .ref (ad E 13 j q)), (1, .ref (ad E 13 j q2)), (2, .int (nI e)), (3, .int (nI i))] []) ?_ (fun i hi ih => ?_) M hs (by simpa using hs2) Fr.rfl
  · intro M' hs' hs2' hf
    refine G_iload_n dX2_giveEldest_2 rfl ?_
    refine G_iload_n dX2_giveEldest_3 rfl ?_
    refine G_icmp_ge (tgt := 32) dX2_giveEldest_4 (by decide) (fun c4 => ?_) (fun c4 => ?_)
    · refine G_aload_n dX2_giveEldest_32 rfl ?_
      refine G_iload_n dX2_giveEldest_33 rfl ?_
      refine cv_X2_29 (cs' := 0) (ss' := 0) dX2_giveEldest_34 hj hq (Nat.le_of_ble_eq_true rfl) (Nat.le_of_ble_eq_true rfl) (Nat.le_of_ble_eq_true rfl) rfl rfl (Nat.le_of_ble_eq_true rfl) (Nat.le_of_ble_eq_true rfl) rfl ?_
      refine s_X2_dropEldest hj hq hs' he (fun M2 h1 h2 => hGo_v ?_)
      refine G_vret dX2_giveEldest_37 rfl (Nat.le_of_ble_eq_true rfl) (Nat.le_of_ble_eq_true rfl) ?_
      exact h M2 h1 (hs2'.keep (fun k hk t => h2.at (fun q9 => hne q9.2.2.symm) t)) (hf.trans (h2.mono hD1))
    · exact absurd (Int32.le_refl _) c4
  · intro M' hs' hs2' hf
    refine G_iload_n dX2_giveEldest_2 rfl ?_
    refine G_iload_n dX2_giveEldest_3 rfl ?_
    refine G_icmp_ge (tgt := 32) dX2_giveEldest_4 (by decide) (fun c4 => ?_) (fun c4 => ?_)
    · exact absurd c4 (nI_ge hi (by omega))
    · refine G_iload_n dX2_giveEldest_7 rfl ?_
      refine G_aload_n dX2_giveEldest_8 rfl ?_
      refine gf_X2_21 dX2_giveEldest_9 hj hq ?_
      refine G_icmp_ge (tgt := 32) dX2_giveEldest_12 (by decide) (fun c12 => ?_) (fun c12 => ?_)
      · rw [hs'.1] at c12
        exact absurd c12 (nI_ge (show i < L.length by omega) (by omega))
      · refine G_aload_n dX2_giveEldest_15 rfl ?_
        refine G_aload_n dX2_giveEldest_16 rfl ?_
        refine gf_X2_9 dX2_giveEldest_17 hj hq ?_
        refine G_iload_n dX2_giveEldest_20 rfl ?_
        refine G_iald dX2_giveEldest_21 ⟨hj, hq⟩ rfl rfl (show i < 20 by omega) (by decide) ?_
        refine G_iconst (v := 1) dX2_giveEldest_22 (by decide) ?_
        refine cv_X2_25 (cs' := 0) (ss' := 0) dX2_giveEldest_23 hj hq2 (Nat.le_of_ble_eq_true rfl) (Nat.le_of_ble_eq_true rfl) (Nat.le_of_ble_eq_true rfl) rfl rfl (Nat.le_of_ble_eq_true rfl) (Nat.le_of_ble_eq_true rfl) rfl ?_
        rw [hs'.2.2 i (by omega)]
        refine s_X2_put (n := 1) hj hq2 hs2' (by rw [List.length_append, List.length_take]; omega) (fun M2 h1 h2 => hGo_v ?_)
        refine G_iinc (v := 1) dX2_giveEldest_26 rfl (Nat.le_of_ble_eq_true rfl) (by decide) ?_
        refine G_goto (tgt := 2) dX2_giveEldest_29 (by decide) ?_
        refine G_lv ?_ (ih M2 (hs'.keep (fun k hk t => h2.at (fun q9 => hne q9.2.2) t)) ?_ (hf.trans (h2.mono hD2)))
        · exact ⟨rfl, rfl, rfl, lvi (nI_1 i), trivial⟩
        · rw [List.append_assoc] at h1
          have e5 : L.take i ++ List.replicate 1 (L.getD i 0) = L.take (i + 1) := by
            rw [List.take_add_one, List.getD_eq_getElem?_getD, List.getElem?_eq_getElem (show i < L.length by omega)]
            rfl
          rw [e5] at h1
          exact h1
theorem s_X2_copyFrom {j2 q2 : Nat} (hj : j < 10) (hq : q < 24) (hj2 : j2 < 10) (hq2 : q2 < 24) (hs : Sat M j2 q2 L) (h : ∀ M', Sat M' j q L → Fr (dS j q) M M' → P (.inl none) M') : Sp E yX2_copyFrom cX2_copyFrom zX2_copyFrom [.ref (ad E 13 j q), .ref (ad E 13 j2 q2)] M P := by
  have h20 := hs.2.1
  refine Sp_of (own := RX2) (by decide) rfl rfl (Nat.le_of_ble_eq_true rfl) (fun C => ?_)
  refine G_aload_n dX2_copyFrom_0 rfl ?_
  refine gf_X2_9 dX2_copyFrom_1 hj2 hq2 ?_
  refine G_iconst (v := 0) dX2_copyFrom_4 (by decide) ?_
  refine G_aload_n dX2_copyFrom_5 rfl ?_
  refine gf_X2_9 dX2_copyFrom_6 hj hq ?_
  refine G_iconst (v := 0) dX2_copyFrom_9 (by decide) ?_
  refine G_bipush (v := 20) dX2_copyFrom_10 (by decide) ?_
  refine G_copyE dX2_copyFrom_12 (hqx 474 (by decide +kernel) rfl) ⟨hj2, hq2⟩ ⟨hj, hq⟩ rfl (fun _ => rfl) (rfl : (0 : Int32) = nI 0) (rfl : (0 : Int32) = nI 0) (rfl : (20 : Int32) = nI 20) (by decide) (by decide) (by decide) (by decide) (Nat.le_of_ble_eq_true rfl) (Nat.le_of_ble_eq_true rfl) ?_
  refine G_aload_n dX2_copyFrom_15 rfl ?_
  refine G_aload_n dX2_copyFrom_16 rfl ?_
  refine gf_X2_21 dX2_copyFrom_17 hj2 hq2 ?_
  rw [cp_nk (k' := 13) (by decide), hs.1]
  refine pf_X2_21 dX2_copyFrom_20 hj hq ?_
  refine G_vret dX2_copyFrom_23 rfl (Nat.le_of_ble_eq_true rfl) (Nat.le_of_ble_eq_true rfl) ?_
  refine h _ ⟨up_at, hs.2.1, fun k hk => ?_⟩ ((Fr.rfl.of_cp ⟨Or.inr rfl, rfl, rfl⟩).up ⟨Or.inl rfl, rfl, rfl⟩)
  rw [up_nk (k' := 14) (by decide), cp_at, pk_cpy_in (Nat.zero_le k) (show k < 0 + 20 by have := hs.2.1; omega)]
  simpa using hs.2.2 k hk
/-- a pupil of the class -/
def Pup (M : Mm) (j p : Nat) (f : Nat → Int32) (s1 s2 : List Int32) : Prop := M.1 12 j p 0 = nI p ∧ (∀ t, t < 10 → M.1 12 j p (pF t) = f t) ∧ Sat M j (2 * p) s1 ∧ Sat M j (2 * p + 1) s2
def dP (j p : Nat) : Nat → Nat → Nat → Prop := fun k j' p' => j' = j ∧ (k = 12 ∧ p' = p ∨ (k = 13 ∨ k = 14) ∧ (p' = 2 * p ∨ p' = 2 * p + 1))
theorem CR.pup {A : Ab} (h : CR M j A) (hp : p < A.n) : Pup M j p (A.f p) (A.s (2 * p)) (A.s (2 * p + 1)) := ⟨h.2.2.2.1 p (Nat.lt_of_lt_of_le hp h.1.2), h.2.2.2.2.1 p hp, h.2.2.2.2.2.1 _ (by omega), h.2.2.2.2.2.1 _ (by omega)⟩
theorem s_X1_satchel (hj : j < 10) (hp : p < 12) {s : Nat} (hs : s < 2) (h : P (.inl (some (.ref (ad E 13 j (2 * p + s))))) M) : Sp E yX1_satchel cX1_satchel zX1_satchel [.ref (ad E 12 j p), .int (nI s)] M P := by
  refine Sp_of (own := RX1) (by decide) rfl rfl (Nat.le_of_ble_eq_true rfl) (fun C => ?_)
  refine G_iload_n dX1_satchel_0 rfl ?_
  refine G_if_ne (tgt := 11) dX1_satchel_1 (by decide) (fun c1 => ?_) (fun c1 => ?_)
  · refine G_aload_n dX1_satchel_11 rfl ?_
    refine gf_X1_18 dX1_satchel_12 hj hp ?_
    refine G_aret dX1_satchel_15 rfl (Nat.le_of_ble_eq_true rfl) (Nat.le_of_ble_eq_true rfl) ?_
    have : s = 1 := by
      rcases (show s = 0 ∨ s = 1 by omega) with rfl | rfl
      · exact absurd rfl c1
      · rfl
    subst this
    exact h
  · refine G_aload_n dX1_satchel_4 rfl ?_
    refine gf_X1_12 dX1_satchel_5 hj hp ?_
    refine G_goto (tgt := 15) dX1_satchel_8 (by decide) ?_
    refine G_aret dX1_satchel_15 rfl (Nat.le_of_ble_eq_true rfl) (Nat.le_of_ble_eq_true rfl) ?_
    have : s = 0 := by
      rcases (show s = 0 ∨ s = 1 by omega) with rfl | rfl
      · rfl
      · exact absurd c1 (by decide)
    subst this
    exact h
theorem s_X1_skill (hj : j < 10) (hp : p < 12) {s : Nat} {f : Nat → Int32} (hs : s < 2) (hf : ∀ t, t < 10 → M.1 12 j p (pF t) = f t) (h : P (.inl (some (.int (f (2 + s))))) M) : Sp E yX1_skill cX1_skill zX1_skill [.ref (ad E 12 j p), .int (nI s)] M P := by
  refine Sp_of (own := RX1) (by decide) rfl rfl (Nat.le_of_ble_eq_true rfl) (fun C => ?_)
  refine G_iload_n dX1_skill_0 rfl ?_
  refine G_if_ne (tgt := 11) dX1_skill_1 (by decide) (fun c1 => ?_) (fun c1 => ?_)
  · refine G_aload_n dX1_skill_11 rfl ?_
    refine gf_X1_57 dX1_skill_12 hj hp ?_
    refine G_iret dX1_skill_15 rfl rfl (Nat.le_of_ble_eq_true rfl) (Nat.le_of_ble_eq_true rfl) ?_
    have : s = 1 := by
      rcases (show s = 0 ∨ s = 1 by omega) with rfl | rfl
      · exact absurd rfl c1
      · rfl
    subst this
    rw [show M.1 12 j p 12 = f 3 from hf 3 (by decide)]
    exact h
  · refine G_aload_n dX1_skill_4 rfl ?_
    refine gf_X1_54 dX1_skill_5 hj hp ?_
    refine G_goto (tgt := 15) dX1_skill_8 (by decide) ?_
    refine G_iret dX1_skill_15 rfl rfl (Nat.le_of_ble_eq_true rfl) (Nat.le_of_ble_eq_true rfl) ?_
    have : s = 0 := by
      rcases (show s = 0 ∨ s = 1 by omega) with rfl | rfl
      · rfl
      · exact absurd c1 (by decide)
    subst this
    rw [show M.1 12 j p 11 = f 2 from hf 2 (by decide)]
    exact h
theorem s_X1_effort (hj : j < 10) (hp : p < 12) {s : Nat} {f : Nat → Int32} (hs : s < 2) (hf : ∀ t, t < 10 → M.1 12 j p (pF t) = f t) (h : P (.inl (some (.int (10 - f (2 + s))))) M) : Sp E yX1_effort cX1_effort zX1_effort [.ref (ad E 12 j p), .int (nI s)] M P := by
  refine Sp_of (own := RX1) (by decide) rfl rfl (Nat.le_of_ble_eq_true rfl) (fun C => ?_)
  refine G_bipush (v := 10) dX1_effort_0 (by decide) ?_
  refine G_aload_n dX1_effort_2 rfl ?_
  refine G_iload_n dX1_effort_3 rfl ?_
  refine cv_X1_66 (cs' := 0) (ss' := 0) dX1_effort_4 hj hp (Nat.le_of_ble_eq_true rfl) (Nat.le_of_ble_eq_true rfl) (Nat.le_of_ble_eq_true rfl) rfl rfl (Nat.le_of_ble_eq_true rfl) (Nat.le_of_ble_eq_true rfl) rfl ?_
  refine s_X1_skill hj hp hs hf (hGo_i ?_)
  refine G_isub dX1_effort_7 ?_
  refine G_iret dX1_effort_8 rfl rfl (Nat.le_of_ble_eq_true rfl) (Nat.le_of_ble_eq_true rfl) ?_
  exact h
theorem s_X1_isDetained (hj : j < 10) (hp : p < 12) {f : Nat → Int32} (hf : ∀ t, t < 10 → M.1 12 j p (pF t) = f t) (h : P (.inl (some (.int (if 0 < f 8 then 1 else 0)))) M) : Sp E yX1_isDetained cX1_isDetained zX1_isDetained [.ref (ad E 12 j p)] M P := by
  refine Sp_of (own := RX1) (by decide) rfl rfl (Nat.le_of_ble_eq_true rfl) (fun C => ?_)
  have e : M.1 12 j p 9 = f 8 := hf 8 (by decide)
  refine G_aload_n dX1_isDetained_0 rfl ?_
  refine gf_X1_48 dX1_isDetained_1 hj hp ?_
  refine G_if_le (tgt := 11) dX1_isDetained_4 (by decide) (fun c4 => ?_) (fun c4 => ?_)
  · refine G_iconst (v := 0) dX1_isDetained_11 (by decide) ?_
    refine G_iret dX1_isDetained_12 rfl rfl (Nat.le_of_ble_eq_true rfl) (Nat.le_of_ble_eq_true rfl) ?_
    rw [e] at c4
    rw [if_neg (Int32.not_lt.mpr c4)] at h
    exact h
  · refine G_iconst (v := 1) dX1_isDetained_7 (by decide) ?_
    refine G_goto (tgt := 12) dX1_isDetained_8 (by decide) ?_
    refine G_iret dX1_isDetained_12 rfl rfl (Nat.le_of_ble_eq_true rfl) (Nat.le_of_ble_eq_true rfl) ?_
    rw [e] at c4
    rw [if_pos (Int32.not_le.mp c4)] at h
    exact h
theorem s_X1_canSpy (hj : j < 10) (hp : p < 12) {f : Nat → Int32} (hf : ∀ t, t < 10 → M.1 12 j p (pF t) = f t) (h : P (.inl (some (.int (if f 4 ≠ 0 ∧ f 8 = 0 then 1 else 0)))) M) : Sp E yX1_canSpy cX1_canSpy zX1_canSpy [.ref (ad E 12 j p)] M P := by
  refine Sp_of (own := RX1) (by decide) rfl rfl (Nat.le_of_ble_eq_true rfl) (fun C => ?_)
  have e : M.1 12 j p 9 = f 8 := hf 8 (by decide)
  have e2 : M.1 12 j p 5 = f 4 := hf 4 (by decide)
  refine G_aload_n dX1_canSpy_0 rfl ?_
  refine gf_X1_35 dX1_canSpy_1 hj hp ?_
  refine G_if_eq (tgt := 18) dX1_canSpy_4 (by decide) (fun c4 => ?_) (fun c4 => ?_)
  · refine G_iconst (v := 0) dX1_canSpy_18 (by decide) ?_
    refine G_iret dX1_canSpy_19 rfl rfl (Nat.le_of_ble_eq_true rfl) (Nat.le_of_ble_eq_true rfl) ?_
    rw [e2] at c4
    rw [if_neg (fun q => q.1 c4)] at h
    exact h
  · refine G_aload_n dX1_canSpy_7 rfl ?_
    refine gf_X1_48 dX1_canSpy_8 hj hp ?_
    refine G_if_ne (tgt := 18) dX1_canSpy_11 (by decide) (fun c11 => ?_) (fun c11 => ?_)
    · refine G_iconst (v := 0) dX1_canSpy_18 (by decide) ?_
      refine G_iret dX1_canSpy_19 rfl rfl (Nat.le_of_ble_eq_true rfl) (Nat.le_of_ble_eq_true rfl) ?_
      rw [e] at c11
      rw [if_neg (fun q => c11 q.2)] at h
      exact h
    · refine G_iconst (v := 1) dX1_canSpy_14 (by decide) ?_
      refine G_goto (tgt := 19) dX1_canSpy_15 (by decide) ?_
      refine G_iret dX1_canSpy_19 rfl rfl (Nat.le_of_ble_eq_true rfl) (Nat.le_of_ble_eq_true rfl) ?_
      rw [e] at c11
      rw [e2] at c4
      rw [if_pos ⟨c4, c11⟩] at h
      exact h
def iabs (x : Int32) : Int32 := if 0 ≤ x then x else 0 - x
theorem s_X1_isNearBench (hj : j < 10) (hp : p < 12) {f : Nat → Int32} {r t : Int32} (hf : ∀ t, t < 10 → M.1 12 j p (pF t) = f t) (h : P (.inl (some (.int (if iabs (f 0 - r) ≤ 1 ∧ iabs (f 1 - t) ≤ 1 then 1 else 0)))) M) : Sp E yX1_isNearBench cX1_isNearBench zX1_isNearBench [.ref (ad E 12 j p), .int r, .int t] M P := by
  refine Sp_of (own := RX1) (by decide) rfl rfl (Nat.le_of_ble_eq_true rfl) (fun C => ?_)
  have e : M.1 12 j p 3 = f 0 := hf 0 (by decide)
  have e2 : M.1 12 j p 4 = f 1 := hf 1 (by decide)
  refine G_aload_n dX1_isNearBench_0 rfl ?_
  refine gf_X1_29 dX1_isNearBench_1 hj hp ?_
  refine G_iload_n dX1_isNearBench_4 rfl ?_
  refine G_isub dX1_isNearBench_5 ?_
  refine G_mabs dX1_isNearBench_6 (hqx 1069 (by decide +kernel) rfl) (hqx 918 (by decide +kernel) rfl) (hqx 15 (by decide +kernel) rfl) (hqx 919 (by decide +kernel) rfl) (Nat.le_of_ble_eq_true rfl) (Nat.le_of_ble_eq_true rfl) (Nat.le_of_ble_eq_true rfl) (Nat.le_of_ble_eq_true rfl) ?_
  refine G_iconst (v := 1) dX1_isNearBench_9 (by decide) ?_
  refine G_icmp_gt (tgt := 30) dX1_isNearBench_10 (by decide) (fun c10 => ?_) (fun c10 => ?_)
  · refine G_iconst (v := 0) dX1_isNearBench_30 (by decide) ?_
    refine G_iret dX1_isNearBench_31 rfl rfl (Nat.le_of_ble_eq_true rfl) (Nat.le_of_ble_eq_true rfl) ?_
    rw [e] at c10
    rw [if_neg (fun q => Int32.not_le.mpr c10 q.1)] at h
    exact h
  · refine G_aload_n dX1_isNearBench_13 rfl ?_
    refine gf_X1_32 dX1_isNearBench_14 hj hp ?_
    refine G_iload_n dX1_isNearBench_17 rfl ?_
    refine G_isub dX1_isNearBench_18 ?_
    refine G_mabs dX1_isNearBench_19 (hqx 1069 (by decide +kernel) rfl) (hqx 918 (by decide +kernel) rfl) (hqx 15 (by decide +kernel) rfl) (hqx 919 (by decide +kernel) rfl) (Nat.le_of_ble_eq_true rfl) (Nat.le_of_ble_eq_true rfl) (Nat.le_of_ble_eq_true rfl) (Nat.le_of_ble_eq_true rfl) ?_
    refine G_iconst (v := 1) dX1_isNearBench_22 (by decide) ?_
    refine G_icmp_gt (tgt := 30) dX1_isNearBench_23 (by decide) (fun c23 => ?_) (fun c23 => ?_)
    · refine G_iconst (v := 0) dX1_isNearBench_30 (by decide) ?_
      refine G_iret dX1_isNearBench_31 rfl rfl (Nat.le_of_ble_eq_true rfl) (Nat.le_of_ble_eq_true rfl) ?_
      rw [e2] at c23
      rw [if_neg (fun q => Int32.not_le.mpr c23 q.2)] at h
      exact h
    · refine G_iconst (v := 1) dX1_isNearBench_26 (by decide) ?_
      refine G_goto (tgt := 31) dX1_isNearBench_27 (by decide) ?_
      refine G_iret dX1_isNearBench_31 rfl rfl (Nat.le_of_ble_eq_true rfl) (Nat.le_of_ble_eq_true rfl) ?_
      rw [e] at c10
      rw [e2] at c23
      rw [if_pos ⟨Int32.not_lt.mp c10, Int32.not_lt.mp c23⟩] at h
      exact h
/-- by how much PROOF grows -/
def grow (n : Int32) (s1 s2 : List Int32) (h1 h2 : Nat) : Int32 := sm h1 (fun k => if s1.getD k 0 = n then 0 else 1) / 3 + sm h2 (fun k => if s2.getD k 0 = n then 0 else 1) - bc (bitsL s2 n h2)
theorem s_X1_proofOf (hj : j < 10) (hp : p < 12) {f : Nat → Int32} {s1 s2 : List Int32} {h1 h2 : Nat} (hu : Pup M j p f s1 s2) (hh1 : h1 ≤ s1.length) (hh2 : h2 ≤ s2.length) (h : P (.inl (some (.int (grow (nI p) s1 s2 h1 h2)))) M) : Sp E yX1_proofOf cX1_proofOf zX1_proofOf [.ref (ad E 12 j p), .int (nI h1), .int (nI h2)] M P := by
  refine Sp_of (own := RX1) (by decide) rfl rfl (Nat.le_of_ble_eq_true rfl) (fun C => ?_)
  refine G_aload_n dX1_proofOf_0 rfl ?_
  refine gf_X1_18 dX1_proofOf_1 hj hp ?_
  refine G_iload_n dX1_proofOf_4 rfl ?_
  refine G_aload_n dX1_proofOf_5 rfl ?_
  refine gf_X1_21 dX1_proofOf_6 hj hp ?_
  refine cv_X1_75 (cs' := 0) (ss' := 0) dX1_proofOf_9 hj (show 2 * p + 1 < 24 by omega) (Nat.le_of_ble_eq_true rfl) (Nat.le_of_ble_eq_true rfl) (Nat.le_of_ble_eq_true rfl) rfl rfl (Nat.le_of_ble_eq_true rfl) (Nat.le_of_ble_eq_true rfl) rfl ?_
  rw [hu.1]
  refine s_X2_foreignPieces hj (by omega) hu.2.2.2 hh2 (hGo_i ?_)
  refine G_istore_n dX1_proofOf_12 (Nat.le_of_ble_eq_true rfl) ?_
  refine G_aload_n dX1_proofOf_13 rfl ?_
  refine gf_X1_18 dX1_proofOf_14 hj hp ?_
  refine G_iload_n dX1_proofOf_17 rfl ?_
  refine G_aload_n dX1_proofOf_18 rfl ?_
  refine gf_X1_21 dX1_proofOf_19 hj hp ?_
  refine cv_X1_79 (cs' := 0) (ss' := 0) dX1_proofOf_22 hj (show 2 * p + 1 < 24 by omega) (Nat.le_of_ble_eq_true rfl) (Nat.le_of_ble_eq_true rfl) (Nat.le_of_ble_eq_true rfl) rfl rfl (Nat.le_of_ble_eq_true rfl) (Nat.le_of_ble_eq_true rfl) rfl ?_
  rw [hu.1]
  refine s_X2_makersButOne hj (by omega) hu.2.2.2 hh2 (hGo_i ?_)
  refine cv_bc dX1_proofOf_25 (hqx 1109 (by decide +kernel) rfl) (Nat.le_of_ble_eq_true rfl) (Nat.le_of_ble_eq_true rfl) (Nat.le_of_ble_eq_true rfl) (Nat.le_of_ble_eq_true rfl) (Nat.le_of_ble_eq_true rfl) rfl ?_
  refine G_istore dX1_proofOf_28 (Nat.le_of_ble_eq_true rfl) ?_
  refine G_aload_n dX1_proofOf_30 rfl ?_
  refine gf_X1_12 dX1_proofOf_31 hj hp ?_
  refine G_iload_n dX1_proofOf_34 rfl ?_
  refine G_aload_n dX1_proofOf_35 rfl ?_
  refine gf_X1_21 dX1_proofOf_36 hj hp ?_
  refine cv_X1_75 (cs' := 0) (ss' := 0) dX1_proofOf_39 hj (show 2 * p < 24 by omega) (Nat.le_of_ble_eq_true rfl) (Nat.le_of_ble_eq_true rfl) (Nat.le_of_ble_eq_true rfl) rfl rfl (Nat.le_of_ble_eq_true rfl) (Nat.le_of_ble_eq_true rfl) rfl ?_
  rw [hu.1]
  refine s_X2_foreignPieces hj (by omega) hu.2.2.1 hh1 (hGo_i ?_)
  refine G_iconst (v := 3) dX1_proofOf_42 (by decide) ?_
  refine G_idiv dX1_proofOf_43 (by decide) ?_
  refine G_iload_n dX1_proofOf_44 rfl ?_
  refine G_iadd dX1_proofOf_45 ?_
  refine G_iload dX1_proofOf_46 rfl ?_
  refine G_isub dX1_proofOf_48 ?_
  refine G_iret dX1_proofOf_49 rfl rfl (Nat.le_of_ble_eq_true rfl) (Nat.le_of_ble_eq_true rfl) ?_
  exact h
theorem s_X1_beSeenBy (hj : j < 10) (hp : p < 12) {x : Int32} (h : P (.inl none) ((M.up 12 j p 7 (M.1 12 j p 7 + bc x)).up 12 j p 10 (M.1 12 j p 10 ||| x))) : Sp E yX1_beSeenBy cX1_beSeenBy zX1_beSeenBy [.ref (ad E 12 j p), .int x] M P := by
  refine Sp_of (own := RX1) (by decide) rfl rfl (Nat.le_of_ble_eq_true rfl) (fun C => ?_)
  refine G_aload_n dX1_beSeenBy_0 rfl ?_
  refine G_dup dX1_beSeenBy_1 rfl ?_
  refine gf_X1_42 dX1_beSeenBy_2 hj hp ?_
  refine G_iload_n dX1_beSeenBy_5 rfl ?_
  refine cv_bc dX1_beSeenBy_6 (hqx 1109 (by decide +kernel) rfl) (Nat.le_of_ble_eq_true rfl) (Nat.le_of_ble_eq_true rfl) (Nat.le_of_ble_eq_true rfl) (Nat.le_of_ble_eq_true rfl) (Nat.le_of_ble_eq_true rfl) rfl ?_
  refine G_iadd dX1_beSeenBy_9 ?_
  refine pf_X1_42 dX1_beSeenBy_10 hj hp ?_
  refine G_aload_n dX1_beSeenBy_13 rfl ?_
  refine G_dup dX1_beSeenBy_14 rfl ?_
  refine gf_X1_51 dX1_beSeenBy_15 hj hp ?_
  rw [up_nt (by decide)]
  refine G_iload_n dX1_beSeenBy_18 rfl ?_
  refine G_ior dX1_beSeenBy_19 ?_
  refine pf_X1_51 dX1_beSeenBy_20 hj hp ?_
  refine G_vret dX1_beSeenBy_23 rfl (Nat.le_of_ble_eq_true rfl) (Nat.le_of_ble_eq_true rfl) ?_
  exact h
theorem s_X1_admit (hj : j < 10) (hp : p < 12) (h : P (.inl (some (.int (M.1 12 j p 7 / 2)))) (((M.up 12 j p 7 (M.1 12 j p 7 / 2)).up 12 j p 10 0).up 12 j p 8 (M.1 12 j p 8 + 1))) : Sp E yX1_admit cX1_admit zX1_admit [.ref (ad E 12 j p)] M P := by
  refine Sp_of (own := RX1) (by decide) rfl rfl (Nat.le_of_ble_eq_true rfl) (fun C => ?_)
  refine G_aload_n dX1_admit_0 rfl ?_
  refine G_aload_n dX1_admit_1 rfl ?_
  refine gf_X1_42 dX1_admit_2 hj hp ?_
  refine G_iconst (v := 2) dX1_admit_5 (by decide) ?_
  refine G_idiv dX1_admit_6 (by decide) ?_
  refine pf_X1_42 dX1_admit_7 hj hp ?_
  refine G_aload_n dX1_admit_10 rfl ?_
  refine G_iconst (v := 0) dX1_admit_11 (by decide) ?_
  refine pf_X1_51 dX1_admit_12 hj hp ?_
  refine G_aload_n dX1_admit_15 rfl ?_
  refine G_dup dX1_admit_16 rfl ?_
  refine gf_X1_45 dX1_admit_17 hj hp ?_
  rw [up_nt (by decide), up_nt (by decide)]
  refine G_iconst (v := 1) dX1_admit_20 (by decide) ?_
  refine G_iadd dX1_admit_21 ?_
  refine pf_X1_45 dX1_admit_22 hj hp ?_
  refine G_aload_n dX1_admit_25 rfl ?_
  refine gf_X1_42 dX1_admit_26 hj hp ?_
  rw [up_nt (by decide), up_nt (by decide), up_at]
  refine G_iret dX1_admit_29 rfl rfl (Nat.le_of_ble_eq_true rfl) (Nat.le_of_ble_eq_true rfl) ?_
  exact h
theorem s_X1_sitOn (hj : j < 10) (hp : p < 12) {r t : Int32} (h : P (.inl none) ((M.up 12 j p 3 r).up 12 j p 4 t)) : Sp E yX1_sitOn cX1_sitOn zX1_sitOn [.ref (ad E 12 j p), .int r, .int t] M P := by
  refine Sp_of (own := RX1) (by decide) rfl rfl (Nat.le_of_ble_eq_true rfl) (fun C => ?_)
  refine G_aload_n dX1_sitOn_0 rfl ?_
  refine G_iload_n dX1_sitOn_1 rfl ?_
  refine pf_X1_29 dX1_sitOn_2 hj hp ?_
  refine G_aload_n dX1_sitOn_5 rfl ?_
  refine G_iload_n dX1_sitOn_6 rfl ?_
  refine pf_X1_32 dX1_sitOn_7 hj hp ?_
  refine G_vret dX1_sitOn_10 rfl (Nat.le_of_ble_eq_true rfl) (Nat.le_of_ble_eq_true rfl) ?_
  exact h
theorem s_X1_learn (hj : j < 10) (hp : p < 12) {r t : Int32} (h : P (.inl none) ((M.up 12 j p 11 r).up 12 j p 12 t)) : Sp E yX1_learn cX1_learn zX1_learn [.ref (ad E 12 j p), .int r, .int t] M P := by
  refine Sp_of (own := RX1) (by decide) rfl rfl (Nat.le_of_ble_eq_true rfl) (fun C => ?_)
  refine G_aload_n dX1_learn_0 rfl ?_
  refine G_iload_n dX1_learn_1 rfl ?_
  refine pf_X1_54 dX1_learn_2 hj hp ?_
  refine G_aload_n dX1_learn_5 rfl ?_
  refine G_iload_n dX1_learn_6 rfl ?_
  refine pf_X1_57 dX1_learn_7 hj hp ?_
  refine G_vret dX1_learn_10 rfl (Nat.le_of_ble_eq_true rfl) (Nat.le_of_ble_eq_true rfl) ?_
  exact h
theorem s_X1_emptySatchels (hj : j < 10) (hp : p < 12) (h : P (.inl none) ((M.up 13 j (2 * p) 1 0).up 13 j (2 * p + 1) 1 0)) : Sp E yX1_emptySatchels cX1_emptySatchels zX1_emptySatchels [.ref (ad E 12 j p)] M P := by
  refine Sp_of (own := RX1) (by decide) rfl rfl (Nat.le_of_ble_eq_true rfl) (fun C => ?_)
  refine G_aload_n dX1_emptySatchels_0 rfl ?_
  refine gf_X1_12 dX1_emptySatchels_1 hj hp ?_
  refine G_iconst (v := 0) dX1_emptySatchels_4 (by decide) ?_
  refine pf_X1_63 dX1_emptySatchels_5 hj (show 2 * p < 24 by omega) ?_
  refine G_aload_n dX1_emptySatchels_8 rfl ?_
  refine gf_X1_18 dX1_emptySatchels_9 hj hp ?_
  refine G_iconst (v := 0) dX1_emptySatchels_12 (by decide) ?_
  refine pf_X1_63 dX1_emptySatchels_13 hj (show 2 * p + 1 < 24 by omega) ?_
  refine G_vret dX1_emptySatchels_16 rfl (Nat.le_of_ble_eq_true rfl) (Nat.le_of_ble_eq_true rfl) ?_
  exact h
theorem s_X1_beginSchool (hj : j < 10) (hp : p < 12) {w : Int32} (h : P (.inl none) (((((((M.up 12 j p 6 w).up 12 j p 7 0).up 12 j p 8 0).up 12 j p 9 0).up 12 j p 10 0).up 13 j (2 * p) 1 0).up 13 j (2 * p + 1) 1 0)) : Sp E yX1_beginSchool cX1_beginSchool zX1_beginSchool [.ref (ad E 12 j p), .int w] M P := by
  refine Sp_of (own := RX1) (by decide) rfl rfl (Nat.le_of_ble_eq_true rfl) (fun C => ?_)
  refine G_aload_n dX1_beginSchool_0 rfl ?_
  refine G_iload_n dX1_beginSchool_1 rfl ?_
  refine pf_X1_39 dX1_beginSchool_2 hj hp ?_
  refine G_aload_n dX1_beginSchool_5 rfl ?_
  refine G_iconst (v := 0) dX1_beginSchool_6 (by decide) ?_
  refine pf_X1_42 dX1_beginSchool_7 hj hp ?_
  refine G_aload_n dX1_beginSchool_10 rfl ?_
  refine G_iconst (v := 0) dX1_beginSchool_11 (by decide) ?_
  refine pf_X1_45 dX1_beginSchool_12 hj hp ?_
  refine G_aload_n dX1_beginSchool_15 rfl ?_
  refine G_iconst (v := 0) dX1_beginSchool_16 (by decide) ?_
  refine pf_X1_48 dX1_beginSchool_17 hj hp ?_
  refine G_aload_n dX1_beginSchool_20 rfl ?_
  refine G_iconst (v := 0) dX1_beginSchool_21 (by decide) ?_
  refine pf_X1_51 dX1_beginSchool_22 hj hp ?_
  refine G_aload_n dX1_beginSchool_25 rfl ?_
  refine cv_X1_60 (cs' := 0) (ss' := 0) dX1_beginSchool_26 hj hp (Nat.le_of_ble_eq_true rfl) (Nat.le_of_ble_eq_true rfl) (Nat.le_of_ble_eq_true rfl) rfl rfl (Nat.le_of_ble_eq_true rfl) (Nat.le_of_ble_eq_true rfl) rfl ?_
  refine s_X1_emptySatchels hj hp (hGo_v ?_)
  refine G_vret dX1_beginSchool_29 rfl (Nat.le_of_ble_eq_true rfl) (Nat.le_of_ble_eq_true rfl) ?_
  exact h
end CPUP
