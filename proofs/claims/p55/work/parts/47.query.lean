/-! ===== HomeworkBarter: tests of arguments, what is asked ===== -/
section CQRY
variable {E : Ed} {M : Mm} {P : Res → Mm → Prop} {A : Ab} {g : Gs}
abbrev Qq : Type := Nat × Int32
abbrev inP (A : Ab) (x : Int32) : Prop := 0 ≤ x ∧ x < nI A.n
abbrev inD (A : Ab) (x : Int32) : Prop := 0 ≤ x ∧ x < nI A.d.length
abbrev inR (x a b : Int32) : Prop := a ≤ x ∧ x ≤ b
/-- what a call answers: a number, or the throw of this place -/
def rs (X : Nat → String) (q : Qq) : Res := if q.1 = 0 then .inl (some (.int q.2)) else .inr (X q.1)
def xA : Nat → String := fun _ => xIA
def xP : Nat → String := fun _ => xIO
def xPA : Nat → String := fun c => if c = 1 then xIO else xIA
def xS : Nat → String := fun _ => xIS
def xAS : Nat → String := fun c => if c = 1 then xIA else xIS
theorem rs0 {X : Nat → String} {v : Int32} : rs X (0, v) = .inl (some (.int v)) := rfl
theorem in_ix {x : Int32} {n : Nat} (h : 0 ≤ x ∧ x < nI n) (hn : n < 2 ^ 31) : ∃ p, p < n ∧ x = nI p ∧ tn x = p := by
  rcases pk_ix x hn with q | q | ⟨p, hp, e⟩
  · exact absurd q (Int32.not_lt.mpr h.1)
  · exact absurd q (Int32.not_le.mpr h.2)
  · exact ⟨p, hp, e, by rw [e]; exact nI_clamp (by omega)⟩
theorem inR_ix {x : Int32} {i k : Nat} (hk : k < 2 ^ 31) (hik : i ≤ k) (h : inR x (nI i) (nI k)) : ∃ s, i ≤ s ∧ s ≤ k ∧ x = nI s ∧ tn x = s := by
  have h0 : 0 ≤ x := Int32.le_trans (nI_pos' (by omega)) h.1
  obtain ⟨s, hs, e⟩ := nI_of (Int32.not_lt.mpr h0)
  subst e
  exact ⟨s, (nI_leI (by omega) hs).mp h.1, (nI_leI hs hk).mp h.2, rfl, nI_clamp hs⟩
theorem tn_nI {p : Nat} (h : p < 2 ^ 31) : tn (nI p) = p := nI_clamp h
theorem inR_out {x : Int32} {a b : Int32} (h : ¬ inR x a b) : x.toInt < a.toInt ∨ b.toInt < x.toInt := by
  by_cases q : a ≤ x
  · right
    exact Int32.lt_iff_toInt_lt.mp (Int32.not_le.mp (fun z => h ⟨q, z⟩))
  · left
    exact Int32.lt_iff_toInt_lt.mp (Int32.not_le.mp q)
theorem s_X8_needPupil {x : Int32} (hA : CR M 0 A) (h1 : inP A x → P (.inl none) M) (h0 : ¬ inP A x → P (.inr xIO) M) : Sp E yX8_needPupil cX8_needPupil zX8_needPupil [.ref (ad E 0 0 0), .int x] M P := by
  refine Sp_of (own := RX8) (by decide) rfl rfl (Nat.le_of_ble_eq_true rfl) (fun C => ?_)
  refine G_aload_n dX8_needPupil_0 rfl ?_
  refine gf_X8_26 dX8_needPupil_1  ?_
  refine G_iload_n dX8_needPupil_4 rfl ?_
  refine cv_X8_135 (cs' := 0) (ss' := 0) dX8_needPupil_5 (by decide) (Nat.le_of_ble_eq_true rfl) (Nat.le_of_ble_eq_true rfl) (Nat.le_of_ble_eq_true rfl) rfl rfl (Nat.le_of_ble_eq_true rfl) (Nat.le_of_ble_eq_true rfl) rfl ?_
  refine s_X3_has (by decide) hA (hGo_i ?_)
  by_cases c : 0 ≤ x ∧ x < nI A.n
  · rw [if_pos c]
    refine G_if_ne (tgt := 22) dX8_needPupil_8 (by decide) (fun c8 => ?_) (fun c8 => ?_)
    · refine G_vret dX8_needPupil_22 rfl (Nat.le_of_ble_eq_true rfl) (Nat.le_of_ble_eq_true rfl) ?_
      exact h1 c
    · exact absurd c8 (by decide)
  · rw [if_neg c]
    refine G_if_ne (tgt := 22) dX8_needPupil_8 (by decide) (fun c8 => ?_) (fun c8 => ?_)
    · exact absurd rfl c8
    · exact G_thrN (h0 c)
theorem s_X8_needDebt {x : Int32} (hA : CR M 0 A) (h1 : inD A x → P (.inl none) M) (h0 : ¬ inD A x → P (.inr xIO) M) : Sp E yX8_needDebt cX8_needDebt zX8_needDebt [.ref (ad E 0 0 0), .int x] M P := by
  refine Sp_of (own := RX8) (by decide) rfl rfl (Nat.le_of_ble_eq_true rfl) (fun C => ?_)
  refine G_iload_n dX8_needDebt_0 rfl ?_
  refine G_if_lt (tgt := 18) dX8_needDebt_1 (by decide) (fun c1 => ?_) (fun c1 => ?_)
  · exact G_thrN (h0 (fun q => absurd c1 (Int32.not_lt.mpr q.1)))
  · refine G_iload_n dX8_needDebt_4 rfl ?_
    refine G_aload_n dX8_needDebt_5 rfl ?_
    refine gf_X8_26 dX8_needDebt_6  ?_
    refine gf_X8_174 dX8_needDebt_9 (by decide) ?_
    refine gf_X8_178 dX8_needDebt_12 (by decide) ?_
    rw [hA.d.1]
    refine G_icmp_lt (tgt := 29) dX8_needDebt_15 (by decide) (fun c15 => ?_) (fun c15 => ?_)
    · refine G_vret dX8_needDebt_29 rfl (Nat.le_of_ble_eq_true rfl) (Nat.le_of_ble_eq_true rfl) ?_
      exact h1 ⟨Int32.not_lt.mp c1, c15⟩
    · exact G_thrN (h0 (fun q => c15 q.2))
theorem s_X8_needRange {x a b : Int32} (h1 : inR x a b → P (.inl none) M) (h0 : ¬ inR x a b → P (.inr xIA) M) : Sp E yX8_needRange cX8_needRange zX8_needRange [.int x, .int a, .int b] M P := by
  refine Sp_of (own := RX8) (by decide) rfl rfl (Nat.le_of_ble_eq_true rfl) (fun C => ?_)
  refine G_iload_n dX8_needRange_0 rfl ?_
  refine G_iload_n dX8_needRange_1 rfl ?_
  refine G_icmp_lt (tgt := 10) dX8_needRange_2 (by decide) (fun c2 => ?_) (fun c2 => ?_)
  · exact G_thrN (h0 (fun q => absurd c2 (Int32.not_lt.mpr q.1)))
  · refine G_iload_n dX8_needRange_5 rfl ?_
    refine G_iload_n dX8_needRange_6 rfl ?_
    refine G_icmp_le (tgt := 21) dX8_needRange_7 (by decide) (fun c7 => ?_) (fun c7 => ?_)
    · refine G_vret dX8_needRange_21 rfl (Nat.le_of_ble_eq_true rfl) (Nat.le_of_ble_eq_true rfl) ?_
      exact h1 ⟨Int32.not_lt.mp c2, c7⟩
    · exact G_thrN (h0 (fun q => c7 q.2))
theorem s_X8_needSubject {x : Int32} (h1 : inR x 0 1 → P (.inl none) M) (h0 : ¬ inR x 0 1 → P (.inr xIA) M) : Sp E yX8_needSubject cX8_needSubject zX8_needSubject [.int x] M P := by
  refine Sp_of (own := RX8) (by decide) rfl rfl (Nat.le_of_ble_eq_true rfl) (fun C => ?_)
  refine G_iload_n dX8_needSubject_0 rfl ?_
  refine G_iconst (v := 0) dX8_needSubject_1 (by decide) ?_
  refine G_iconst (v := 1) dX8_needSubject_2 (by decide) ?_
  refine cv_X8_86 (cs' := 0) (ss' := 0) dX8_needSubject_3  (Nat.le_of_ble_eq_true rfl) (Nat.le_of_ble_eq_true rfl) (Nat.le_of_ble_eq_true rfl) rfl rfl (Nat.le_of_ble_eq_true rfl) (Nat.le_of_ble_eq_true rfl) rfl ?_
  refine s_X8_needRange (fun c => hGo_v ?_) (fun c => hGo_x (h0 c))
  refine G_vret dX8_needSubject_6 rfl (Nat.le_of_ble_eq_true rfl) (Nat.le_of_ble_eq_true rfl) ?_
  exact h1 c
theorem s_X8_needBench {x y : Int32} (h1 : inR x 0 5 ∧ inR y 0 5 → P (.inl none) M) (h0 : ¬ (inR x 0 5 ∧ inR y 0 5) → P (.inr xIA) M) : Sp E yX8_needBench cX8_needBench zX8_needBench [.int x, .int y] M P := by
  refine Sp_of (own := RX8) (by decide) rfl rfl (Nat.le_of_ble_eq_true rfl) (fun C => ?_)
  refine G_iload_n dX8_needBench_0 rfl ?_
  refine G_iconst (v := 0) dX8_needBench_1 (by decide) ?_
  refine G_iconst (v := 5) dX8_needBench_2 (by decide) ?_
  refine cv_X8_86 (cs' := 0) (ss' := 0) dX8_needBench_3  (Nat.le_of_ble_eq_true rfl) (Nat.le_of_ble_eq_true rfl) (Nat.le_of_ble_eq_true rfl) rfl rfl (Nat.le_of_ble_eq_true rfl) (Nat.le_of_ble_eq_true rfl) rfl ?_
  refine s_X8_needRange (fun c => hGo_v ?_) (fun c => hGo_x (h0 (fun q => c q.1)))
  refine G_iload_n dX8_needBench_6 rfl ?_
  refine G_iconst (v := 0) dX8_needBench_7 (by decide) ?_
  refine G_iconst (v := 5) dX8_needBench_8 (by decide) ?_
  refine cv_X8_86 (cs' := 0) (ss' := 0) dX8_needBench_9  (Nat.le_of_ble_eq_true rfl) (Nat.le_of_ble_eq_true rfl) (Nat.le_of_ble_eq_true rfl) rfl rfl (Nat.le_of_ble_eq_true rfl) (Nat.le_of_ble_eq_true rfl) rfl ?_
  refine s_X8_needRange (fun c2 => hGo_v ?_) (fun c2 => hGo_x (h0 (fun q => c2 q.2)))
  refine G_vret dX8_needBench_12 rfl (Nat.le_of_ble_eq_true rfl) (Nat.le_of_ble_eq_true rfl) ?_
  exact h1 ⟨c, c2⟩
theorem s_X8_needSwap {x y n m : Int32} (hA : CR M 0 A) (h1 : inP A x ∧ inP A y → inR n 0 20 ∧ inR m 0 20 → P (.inl none) M) (h0 : ¬ (inP A x ∧ inP A y) → P (.inr xIO) M) (h2 : inP A x ∧ inP A y → ¬ (inR n 0 20 ∧ inR m 0 20) → P (.inr xIA) M) : Sp E yX8_needSwap cX8_needSwap zX8_needSwap [.ref (ad E 0 0 0), .int x, .int y, .int n, .int m] M P := by
  refine Sp_of (own := RX8) (by decide) rfl rfl (Nat.le_of_ble_eq_true rfl) (fun C => ?_)
  refine G_aload_n dX8_needSwap_0 rfl ?_
  refine G_iload_n dX8_needSwap_1 rfl ?_
  refine cv_X8_200 (cs' := 0) (ss' := 0) dX8_needSwap_2  (Nat.le_of_ble_eq_true rfl) (Nat.le_of_ble_eq_true rfl) (Nat.le_of_ble_eq_true rfl) rfl rfl (Nat.le_of_ble_eq_true rfl) (Nat.le_of_ble_eq_true rfl) rfl ?_
  refine s_X8_needPupil hA (fun c1 => hGo_v ?_) (fun c1 => hGo_x (h0 (fun q => c1 q.1)))
  refine G_aload_n dX8_needSwap_5 rfl ?_
  refine G_iload_n dX8_needSwap_6 rfl ?_
  refine cv_X8_200 (cs' := 0) (ss' := 0) dX8_needSwap_7  (Nat.le_of_ble_eq_true rfl) (Nat.le_of_ble_eq_true rfl) (Nat.le_of_ble_eq_true rfl) rfl rfl (Nat.le_of_ble_eq_true rfl) (Nat.le_of_ble_eq_true rfl) rfl ?_
  refine s_X8_needPupil hA (fun c2 => hGo_v ?_) (fun c2 => hGo_x (h0 (fun q => c2 q.2)))
  refine G_iload_n dX8_needSwap_10 rfl ?_
  refine G_iconst (v := 0) dX8_needSwap_11 (by decide) ?_
  refine G_bipush (v := 20) dX8_needSwap_12 (by decide) ?_
  refine cv_X8_86 (cs' := 0) (ss' := 0) dX8_needSwap_14  (Nat.le_of_ble_eq_true rfl) (Nat.le_of_ble_eq_true rfl) (Nat.le_of_ble_eq_true rfl) rfl rfl (Nat.le_of_ble_eq_true rfl) (Nat.le_of_ble_eq_true rfl) rfl ?_
  refine s_X8_needRange (fun c3 => hGo_v ?_) (fun c3 => hGo_x (h2 ⟨c1, c2⟩ (fun q => c3 q.1)))
  refine G_iload dX8_needSwap_17 rfl ?_
  refine G_iconst (v := 0) dX8_needSwap_19 (by decide) ?_
  refine G_bipush (v := 20) dX8_needSwap_20 (by decide) ?_
  refine cv_X8_86 (cs' := 0) (ss' := 0) dX8_needSwap_22  (Nat.le_of_ble_eq_true rfl) (Nat.le_of_ble_eq_true rfl) (Nat.le_of_ble_eq_true rfl) rfl rfl (Nat.le_of_ble_eq_true rfl) (Nat.le_of_ble_eq_true rfl) rfl ?_
  refine s_X8_needRange (fun c4 => hGo_v ?_) (fun c4 => hGo_x (h2 ⟨c1, c2⟩ (fun q => c4 q.2)))
  refine G_vret dX8_needSwap_25 rfl (Nat.le_of_ble_eq_true rfl) (Nat.le_of_ble_eq_true rfl) ?_
  exact h1 ⟨c1, c2⟩ ⟨c3, c4⟩
theorem s_X8_needLoan {x y n m : Int32} (hA : CR M 0 A) (h1 : inP A x ∧ inP A y → inR n 0 1 ∧ inR m 1 20 → P (.inl none) M) (h0 : ¬ (inP A x ∧ inP A y) → P (.inr xIO) M) (h2 : inP A x ∧ inP A y → ¬ (inR n 0 1 ∧ inR m 1 20) → P (.inr xIA) M) : Sp E yX8_needLoan cX8_needLoan zX8_needLoan [.ref (ad E 0 0 0), .int x, .int y, .int n, .int m] M P := by
  refine Sp_of (own := RX8) (by decide) rfl rfl (Nat.le_of_ble_eq_true rfl) (fun C => ?_)
  refine G_aload_n dX8_needLoan_0 rfl ?_
  refine G_iload_n dX8_needLoan_1 rfl ?_
  refine cv_X8_200 (cs' := 0) (ss' := 0) dX8_needLoan_2  (Nat.le_of_ble_eq_true rfl) (Nat.le_of_ble_eq_true rfl) (Nat.le_of_ble_eq_true rfl) rfl rfl (Nat.le_of_ble_eq_true rfl) (Nat.le_of_ble_eq_true rfl) rfl ?_
  refine s_X8_needPupil hA (fun c1 => hGo_v ?_) (fun c1 => hGo_x (h0 (fun q => c1 q.1)))
  refine G_aload_n dX8_needLoan_5 rfl ?_
  refine G_iload_n dX8_needLoan_6 rfl ?_
  refine cv_X8_200 (cs' := 0) (ss' := 0) dX8_needLoan_7  (Nat.le_of_ble_eq_true rfl) (Nat.le_of_ble_eq_true rfl) (Nat.le_of_ble_eq_true rfl) rfl rfl (Nat.le_of_ble_eq_true rfl) (Nat.le_of_ble_eq_true rfl) rfl ?_
  refine s_X8_needPupil hA (fun c2 => hGo_v ?_) (fun c2 => hGo_x (h0 (fun q => c2 q.2)))
  refine G_iload_n dX8_needLoan_10 rfl ?_
  refine cv_X8_260 (cs' := 0) (ss' := 0) dX8_needLoan_11  (Nat.le_of_ble_eq_true rfl) (Nat.le_of_ble_eq_true rfl) (Nat.le_of_ble_eq_true rfl) rfl rfl (Nat.le_of_ble_eq_true rfl) (Nat.le_of_ble_eq_true rfl) rfl ?_
  refine s_X8_needSubject (fun c3 => hGo_v ?_) (fun c3 => hGo_x (h2 ⟨c1, c2⟩ (fun q => c3 q.1)))
  refine G_iload dX8_needLoan_14 rfl ?_
  refine G_iconst (v := 1) dX8_needLoan_16 (by decide) ?_
  refine G_bipush (v := 20) dX8_needLoan_17 (by decide) ?_
  refine cv_X8_86 (cs' := 0) (ss' := 0) dX8_needLoan_19  (Nat.le_of_ble_eq_true rfl) (Nat.le_of_ble_eq_true rfl) (Nat.le_of_ble_eq_true rfl) rfl rfl (Nat.le_of_ble_eq_true rfl) (Nat.le_of_ble_eq_true rfl) rfl ?_
  refine s_X8_needRange (fun c4 => hGo_v ?_) (fun c4 => hGo_x (h2 ⟨c1, c2⟩ (fun q => c4 q.2)))
  refine G_vret dX8_needLoan_22 rfl (Nat.le_of_ble_eq_true rfl) (Nat.le_of_ble_eq_true rfl) ?_
  exact h1 ⟨c1, c2⟩ ⟨c3, c4⟩
/-- the member at a place of a set -/
def bitP (w : Int32) (i : Nat) : Bool := decide (¬ ((w >>> (nI i &&& 31)) &&& 1) = 0)
def lowV (w pl : Int32) : Int32 := nth (bitP w) 12 0 pl
theorem s_X8_lowest {w pl : Int32} (h : P (.inl (some (.int (lowV w pl)))) M) : Sp E yX8_lowest cX8_lowest zX8_lowest [.int w, .int pl] M P := by
  refine Sp_of (own := RX8) (by decide) rfl rfl (Nat.le_of_ble_eq_true rfl) (fun C => ?_)
  refine G_iload_n dX8_lowest_0 rfl ?_
  refine G_istore_n dX8_lowest_1 (Nat.le_of_ble_eq_true rfl) ?_
  refine G_iconst (v := 0) dX8_lowest_2 (by decide) ?_
  refine G_istore_n dX8_lowest_3 (Nat.le_of_ble_eq_true rfl) ?_
  refine G_lv (lv' := [(0, .int w), (1, .int pl), (2, .int pl), (3, .int (nI 0))]) ⟨rfl, rfl, rfl, rfl, trivial⟩ ?_
  refine up0 (c := 12) (H := fun i => ∀ x, nth (bitP w) (12 - i) i x = lowV w pl → G E C RX8 cX8_lowest zX8_lowest P 0 0 M 4 [(0, .int w), (1, .int pl), (2, .int x), (3, .int (nI i))] []) ?_ (fun i hi ih => ?_) pl rfl
  · intro x hx
    refine G_iload_n dX8_lowest_4 rfl ?_
    refine G_bipush (v := 12) dX8_lowest_5 (by decide) ?_
    refine G_icmp_ge (tgt := 36) dX8_lowest_7 (by decide) (fun c7 => ?_) (fun c7 => ?_)
    · refine G_iconst (v := (-1)) dX8_lowest_36 (by decide) ?_
      refine G_iret dX8_lowest_37 rfl rfl (Nat.le_of_ble_eq_true rfl) (Nat.le_of_ble_eq_true rfl) ?_
      rw [← hx] at h
      exact h
    · exact absurd (show nI 12 ≤ nI 12 from Int32.le_refl _) c7
  · intro x hx
    rw [show 12 - i = (12 - (i + 1)) + 1 by omega] at hx
    have hx2 : (if bitP w i = true then (if x = 0 then nI i else nth (bitP w) (12 - (i + 1)) (i + 1) (x - 1)) else nth (bitP w) (12 - (i + 1)) (i + 1) x) = lowV w pl := hx
    refine G_iload_n dX8_lowest_4 rfl ?_
    refine G_bipush (v := 12) dX8_lowest_5 (by decide) ?_
    refine G_icmp_ge (tgt := 36) dX8_lowest_7 (by decide) (fun c7 => ?_) (fun c7 => ?_)
    · exact absurd (show nI 12 ≤ nI i from c7) (nI_ge hi (by decide))
    · refine G_iload_n dX8_lowest_10 rfl ?_
      refine G_iload_n dX8_lowest_11 rfl ?_
      refine G_ishr dX8_lowest_12 ?_
      refine G_iconst (v := 1) dX8_lowest_13 (by decide) ?_
      refine G_iand dX8_lowest_14 ?_
      refine G_if_ne (tgt := 21) dX8_lowest_15 (by decide) (fun c15 => ?_) (fun c15 => ?_)
      · rw [if_pos (show bitP w i = true from decide_eq_true c15)] at hx2
        refine G_iload_n dX8_lowest_21 rfl ?_
        refine G_if_ne (tgt := 27) dX8_lowest_22 (by decide) (fun c22 => ?_) (fun c22 => ?_)
        · rw [if_neg c22] at hx2
          refine G_iinc (v := (-1)) dX8_lowest_27 rfl (Nat.le_of_ble_eq_true rfl) (by decide) ?_
          refine G_iinc (v := 1) dX8_lowest_30 rfl (Nat.le_of_ble_eq_true rfl) (by decide) ?_
          refine G_goto (tgt := 4) dX8_lowest_33 (by decide) ?_
          exact G_lv2 (ih (x - 1) hx2) ⟨rfl, rfl, lvi (by rw [Int32.sub_eq_add_neg]), lvi (nI_1 i), trivial⟩
        · rw [if_pos c22] at hx2
          refine G_iload_n dX8_lowest_25 rfl ?_
          refine G_iret dX8_lowest_26 rfl rfl (Nat.le_of_ble_eq_true rfl) (Nat.le_of_ble_eq_true rfl) ?_
          rw [← hx2] at h
          exact h
      · rw [if_neg (show ¬ bitP w i = true from fun q => of_decide_eq_true q c15)] at hx2
        refine G_goto (tgt := 30) dX8_lowest_18 (by decide) ?_
        refine G_iinc (v := 1) dX8_lowest_30 rfl (Nat.le_of_ble_eq_true rfl) (by decide) ?_
        refine G_goto (tgt := 4) dX8_lowest_33 (by decide) ?_
        exact G_lv2 (ih x hx2) ⟨rfl, rfl, rfl, lvi (nI_1 i), trivial⟩
def cntV (g : Gs) : Nat → Int32
  | 0 => nI g.A.n
  | 6 => piecesV g.A 0
  | 7 => piecesV g.A 1
  | 8 => nI g.A.d.length
  | 9 => sm g.A.d.length (fun i => dg g.A.d i 3)
  | 10 => sm g.A.n (fun p => if 0 < g.A.f p 8 then 1 else 0)
  | 11 => sm g.A.n (fun p => if g.A.f p 4 = 0 then 0 else 1)
  | 12 => nI g.U.length
  | k => g.A.g k
def qCount (g : Gs) (x : Int32) : Qq := if inR x 0 12 then (0, cntV g (tn x)) else (1, 0)
theorem s_X8_count {x : Int32} (hC : CG M g) (h : P (rs xA (qCount g x)) M) : Sp E yX8_count cX8_count zX8_count [.ref (ad E 0 0 0), .int x] M P := by
  unfold qCount at h
  have hA := hC.1
  refine Sp_of (own := RX8) (by decide) rfl rfl (Nat.le_of_ble_eq_true rfl) (fun C => ?_)
  refine G_iload_n dX8_count_0 rfl ?_
  by_cases c : inR x 0 12
  · rw [if_pos c] at h
    obtain ⟨k, -, hk, rfl, ek⟩ := inR_ix (i := 0) (k := 12) (by decide) (by decide) c
    rw [ek] at h
    rcases (show k = 0 ∨ k = 1 ∨ k = 2 ∨ k = 3 ∨ k = 4 ∨ k = 5 ∨ k = 6 ∨ k = 7 ∨ k = 8 ∨ k = 9 ∨ k = 10 ∨ k = 11 ∨ k = 12 by omega) with rfl | rfl | rfl | rfl | rfl | rfl | rfl | rfl | rfl | rfl | rfl | rfl | rfl
    · refine G_tIn (off := 67) (tgt := 68) dX8_count_1 (by decide) (by decide) rfl (by decide) ?_
      refine G_aload_n dX8_count_68 rfl ?_
      refine gf_X8_26 dX8_count_69  ?_
      refine gf_X8_108 dX8_count_72 (by decide) ?_
      refine G_iret dX8_count_75 rfl rfl (Nat.le_of_ble_eq_true rfl) (Nat.le_of_ble_eq_true rfl) ?_
      rw [hA.n]
      exact h
    · refine G_tIn (off := 75) (tgt := 76) dX8_count_1 (by decide) (by decide) rfl (by decide) ?_
      refine G_aload_n dX8_count_76 rfl ?_
      refine gf_X8_26 dX8_count_77  ?_
      refine gf_X8_159 dX8_count_80 (by decide) ?_
      refine G_iret dX8_count_83 rfl rfl (Nat.le_of_ble_eq_true rfl) (Nat.le_of_ble_eq_true rfl) ?_
      rw [show M.1 7 0 0 4 = g.A.g 1 from hA.g (t := 0) (by decide)]
      exact h
    · refine G_tIn (off := 83) (tgt := 84) dX8_count_1 (by decide) (by decide) rfl (by decide) ?_
      refine G_aload_n dX8_count_84 rfl ?_
      refine gf_X8_26 dX8_count_85  ?_
      refine gf_X8_162 dX8_count_88 (by decide) ?_
      refine G_iret dX8_count_91 rfl rfl (Nat.le_of_ble_eq_true rfl) (Nat.le_of_ble_eq_true rfl) ?_
      rw [show M.1 7 0 0 5 = g.A.g 2 from hA.g (t := 1) (by decide)]
      exact h
    · refine G_tIn (off := 91) (tgt := 92) dX8_count_1 (by decide) (by decide) rfl (by decide) ?_
      refine G_aload_n dX8_count_92 rfl ?_
      refine gf_X8_26 dX8_count_93  ?_
      refine gf_X8_165 dX8_count_96 (by decide) ?_
      refine G_iret dX8_count_99 rfl rfl (Nat.le_of_ble_eq_true rfl) (Nat.le_of_ble_eq_true rfl) ?_
      rw [show M.1 7 0 0 6 = g.A.g 3 from hA.g (t := 2) (by decide)]
      exact h
    · refine G_tIn (off := 99) (tgt := 100) dX8_count_1 (by decide) (by decide) rfl (by decide) ?_
      refine G_aload_n dX8_count_100 rfl ?_
      refine gf_X8_26 dX8_count_101  ?_
      refine G_iconst (v := 0) dX8_count_104 (by decide) ?_
      refine cv_X8_168 (cs' := 0) (ss' := 0) dX8_count_105 (by decide) (Nat.le_of_ble_eq_true rfl) (Nat.le_of_ble_eq_true rfl) (Nat.le_of_ble_eq_true rfl) rfl rfl (Nat.le_of_ble_eq_true rfl) (Nat.le_of_ble_eq_true rfl) rfl ?_
      refine s_X3_due (s := 0) (by decide) hA (by decide) (hGo_i ?_)
      refine G_iret dX8_count_108 rfl rfl (Nat.le_of_ble_eq_true rfl) (Nat.le_of_ble_eq_true rfl) ?_
      exact h
    · refine G_tIn (off := 108) (tgt := 109) dX8_count_1 (by decide) (by decide) rfl (by decide) ?_
      refine G_aload_n dX8_count_109 rfl ?_
      refine gf_X8_26 dX8_count_110  ?_
      refine G_iconst (v := 1) dX8_count_113 (by decide) ?_
      refine cv_X8_168 (cs' := 0) (ss' := 0) dX8_count_114 (by decide) (Nat.le_of_ble_eq_true rfl) (Nat.le_of_ble_eq_true rfl) (Nat.le_of_ble_eq_true rfl) rfl rfl (Nat.le_of_ble_eq_true rfl) (Nat.le_of_ble_eq_true rfl) rfl ?_
      refine s_X3_due (s := 1) (by decide) hA (by decide) (hGo_i ?_)
      refine G_iret dX8_count_117 rfl rfl (Nat.le_of_ble_eq_true rfl) (Nat.le_of_ble_eq_true rfl) ?_
      exact h
    · refine G_tIn (off := 117) (tgt := 118) dX8_count_1 (by decide) (by decide) rfl (by decide) ?_
      refine G_aload_n dX8_count_118 rfl ?_
      refine gf_X8_26 dX8_count_119  ?_
      refine G_iconst (v := 0) dX8_count_122 (by decide) ?_
      refine cv_X8_171 (cs' := 0) (ss' := 0) dX8_count_123 (by decide) (Nat.le_of_ble_eq_true rfl) (Nat.le_of_ble_eq_true rfl) (Nat.le_of_ble_eq_true rfl) rfl rfl (Nat.le_of_ble_eq_true rfl) (Nat.le_of_ble_eq_true rfl) rfl ?_
      refine s_X3_piecesOf (s := 0) (by decide) hA (by decide) (hGo_i ?_)
      refine G_iret dX8_count_126 rfl rfl (Nat.le_of_ble_eq_true rfl) (Nat.le_of_ble_eq_true rfl) ?_
      exact h
    · refine G_tIn (off := 126) (tgt := 127) dX8_count_1 (by decide) (by decide) rfl (by decide) ?_
      refine G_aload_n dX8_count_127 rfl ?_
      refine gf_X8_26 dX8_count_128  ?_
      refine G_iconst (v := 1) dX8_count_131 (by decide) ?_
      refine cv_X8_171 (cs' := 0) (ss' := 0) dX8_count_132 (by decide) (Nat.le_of_ble_eq_true rfl) (Nat.le_of_ble_eq_true rfl) (Nat.le_of_ble_eq_true rfl) rfl rfl (Nat.le_of_ble_eq_true rfl) (Nat.le_of_ble_eq_true rfl) rfl ?_
      refine s_X3_piecesOf (s := 1) (by decide) hA (by decide) (hGo_i ?_)
      refine G_iret dX8_count_135 rfl rfl (Nat.le_of_ble_eq_true rfl) (Nat.le_of_ble_eq_true rfl) ?_
      exact h
    · refine G_tIn (off := 135) (tgt := 136) dX8_count_1 (by decide) (by decide) rfl (by decide) ?_
      refine G_aload_n dX8_count_136 rfl ?_
      refine gf_X8_26 dX8_count_137  ?_
      refine gf_X8_174 dX8_count_140 (by decide) ?_
      refine gf_X8_178 dX8_count_143 (by decide) ?_
      refine G_iret dX8_count_146 rfl rfl (Nat.le_of_ble_eq_true rfl) (Nat.le_of_ble_eq_true rfl) ?_
      rw [hA.d.1]
      exact h
    · refine G_tIn (off := 146) (tgt := 147) dX8_count_1 (by decide) (by decide) rfl (by decide) ?_
      refine G_aload_n dX8_count_147 rfl ?_
      refine gf_X8_26 dX8_count_148  ?_
      refine gf_X8_174 dX8_count_151 (by decide) ?_
      refine cv_X8_181 (cs' := 0) (ss' := 0) dX8_count_154 (by decide) (Nat.le_of_ble_eq_true rfl) (Nat.le_of_ble_eq_true rfl) (Nat.le_of_ble_eq_true rfl) rfl rfl (Nat.le_of_ble_eq_true rfl) (Nat.le_of_ble_eq_true rfl) rfl ?_
      refine s_X0_piecesOwed (by decide) hA.d (hGo_i ?_)
      refine G_iret dX8_count_157 rfl rfl (Nat.le_of_ble_eq_true rfl) (Nat.le_of_ble_eq_true rfl) ?_
      exact h
    · refine G_tIn (off := 157) (tgt := 158) dX8_count_1 (by decide) (by decide) rfl (by decide) ?_
      refine G_aload_n dX8_count_158 rfl ?_
      refine gf_X8_26 dX8_count_159  ?_
      refine cv_X8_185 (cs' := 0) (ss' := 0) dX8_count_162 (by decide) (Nat.le_of_ble_eq_true rfl) (Nat.le_of_ble_eq_true rfl) (Nat.le_of_ble_eq_true rfl) rfl rfl (Nat.le_of_ble_eq_true rfl) (Nat.le_of_ble_eq_true rfl) rfl ?_
      refine s_X3_detainedPupils (by decide) hA (hGo_i ?_)
      refine G_iret dX8_count_165 rfl rfl (Nat.le_of_ble_eq_true rfl) (Nat.le_of_ble_eq_true rfl) ?_
      exact h
    · refine G_tIn (off := 165) (tgt := 166) dX8_count_1 (by decide) (by decide) rfl (by decide) ?_
      refine G_aload_n dX8_count_166 rfl ?_
      refine gf_X8_26 dX8_count_167  ?_
      refine cv_X8_188 (cs' := 0) (ss' := 0) dX8_count_170 (by decide) (Nat.le_of_ble_eq_true rfl) (Nat.le_of_ble_eq_true rfl) (Nat.le_of_ble_eq_true rfl) rfl rfl (Nat.le_of_ble_eq_true rfl) (Nat.le_of_ble_eq_true rfl) rfl ?_
      refine s_X3_spies (by decide) hA (hGo_i ?_)
      refine G_iret dX8_count_173 rfl rfl (Nat.le_of_ble_eq_true rfl) (Nat.le_of_ble_eq_true rfl) ?_
      exact h
    · refine G_tIn (off := 173) (tgt := 174) dX8_count_1 (by decide) (by decide) rfl (by decide) ?_
      refine G_aload_n dX8_count_174 rfl ?_
      refine gf_X8_36 dX8_count_175  ?_
      refine gf_X8_191 dX8_count_178  ?_
      refine G_iret dX8_count_181 rfl rfl (Nat.le_of_ble_eq_true rfl) (Nat.le_of_ble_eq_true rfl) ?_
      rw [hC.2.1.2.1]
      exact h
  · rw [if_neg c] at h
    refine G_tOut (tgt := 182) dX8_count_1 (inR_out c) (by decide) ?_
    exact G_thrN h
def qTally (g : Gs) (x : Int32) : Qq := if inR x 0 9 then (0, g.A.g (7 + tn x)) else (1, 0)
theorem s_X8_tally {x : Int32} (hC : CG M g) (h : P (rs xA (qTally g x)) M) : Sp E yX8_tally cX8_tally zX8_tally [.ref (ad E 0 0 0), .int x] M P := by
  unfold qTally at h
  have hA := hC.1
  refine Sp_of (own := RX8) (by decide) rfl rfl (Nat.le_of_ble_eq_true rfl) (fun C => ?_)
  refine G_iload_n dX8_tally_0 rfl ?_
  refine G_iconst (v := 0) dX8_tally_1 (by decide) ?_
  refine G_bipush (v := 9) dX8_tally_2 (by decide) ?_
  refine cv_X8_86 (cs' := 0) (ss' := 0) dX8_tally_4  (Nat.le_of_ble_eq_true rfl) (Nat.le_of_ble_eq_true rfl) (Nat.le_of_ble_eq_true rfl) rfl rfl (Nat.le_of_ble_eq_true rfl) (Nat.le_of_ble_eq_true rfl) rfl ?_
  refine s_X8_needRange (fun c => hGo_v ?_) (fun c => hGo_x (by rw [if_neg c] at h; exact h))
  rw [if_pos c] at h
  obtain ⟨k, -, hk, rfl, ek⟩ := inR_ix (i := 0) (k := 9) (by decide) (by decide) c
  rw [ek] at h
  refine G_aload_n dX8_tally_7 rfl ?_
  refine gf_X8_26 dX8_tally_8  ?_
  refine gf_X8_197 dX8_tally_11 (by decide) ?_
  refine G_iload_n dX8_tally_14 rfl ?_
  refine G_iald dX8_tally_15 ⟨by decide, rfl⟩ rfl rfl (show k < 10 by omega) (by decide) ?_
  refine G_iret dX8_tally_16 rfl rfl (Nat.le_of_ble_eq_true rfl) (Nat.le_of_ble_eq_true rfl) ?_
  rw [hA.tl (by omega)]
  exact h
def pupV (A : Ab) (p : Nat) : Nat → Int32
  | 9 => nI (A.s (2 * p)).length
  | 10 => nI (A.s (2 * p + 1)).length
  | 11 => sm A.d.length (fun i => if dg A.d i 0 = nI p then dg A.d i 3 else 0)
  | 12 => sm A.d.length (fun i => if dg A.d i 1 = nI p then dg A.d i 3 else 0)
  | 13 => bc (A.f p 9)
  | k => A.f p k
def qPupil (g : Gs) (x y : Int32) : Qq := if inP g.A x then if inR y 0 13 then (0, pupV g.A (tn x) (tn y)) else (2, 0) else (1, 0)
theorem s_X8_pupil {x y : Int32} (hC : CG M g) (hO : Okg g) (h : P (rs xPA (qPupil g x y)) M) : Sp E yX8_pupil cX8_pupil zX8_pupil [.ref (ad E 0 0 0), .int x, .int y] M P := by
  unfold qPupil at h
  have hA := hC.1
  refine Sp_of (own := RX8) (by decide) rfl rfl (Nat.le_of_ble_eq_true rfl) (fun C => ?_)
  have h12 := hA.n12
  refine G_aload_n dX8_pupil_0 rfl ?_
  refine G_iload_n dX8_pupil_1 rfl ?_
  refine cv_X8_200 (cs' := 0) (ss' := 0) dX8_pupil_2  (Nat.le_of_ble_eq_true rfl) (Nat.le_of_ble_eq_true rfl) (Nat.le_of_ble_eq_true rfl) rfl rfl (Nat.le_of_ble_eq_true rfl) (Nat.le_of_ble_eq_true rfl) rfl ?_
  refine s_X8_needPupil hA (fun c1 => hGo_v ?_) (fun c1 => hGo_x (by rw [if_neg c1] at h; exact h))
  rw [if_pos c1] at h
  obtain ⟨p, hp, rfl, ep⟩ := in_ix c1 (by omega)
  rw [ep] at h
  have hf := hA.f hp
  refine G_aload_n dX8_pupil_5 rfl ?_
  refine gf_X8_26 dX8_pupil_6  ?_
  refine gf_X8_203 dX8_pupil_9 (by decide) ?_
  refine G_iload_n dX8_pupil_12 rfl ?_
  refine G_aald dX8_pupil_13 ⟨by decide, rfl⟩ rfl rfl rfl (show p < 12 by omega) (by decide) rfl ?_
  refine G_astore_n dX8_pupil_14 (Nat.le_of_ble_eq_true rfl) ?_
  refine G_iload_n dX8_pupil_15 rfl ?_
  by_cases c : inR y 0 13
  · rw [if_pos c] at h
    obtain ⟨k, -, hk, rfl, ek⟩ := inR_ix (i := 0) (k := 13) (by decide) (by decide) c
    rw [ek] at h
    rcases (show k = 0 ∨ k = 1 ∨ k = 2 ∨ k = 3 ∨ k = 4 ∨ k = 5 ∨ k = 6 ∨ k = 7 ∨ k = 8 ∨ k = 9 ∨ k = 10 ∨ k = 11 ∨ k = 12 ∨ k = 13 by omega) with rfl | rfl | rfl | rfl | rfl | rfl | rfl | rfl | rfl | rfl | rfl | rfl | rfl | rfl
    · refine G_tIn (off := 72) (tgt := 88) dX8_pupil_16 (by decide) (by decide) rfl (by decide) ?_
      refine G_aload_n dX8_pupil_88 rfl ?_
      refine gf_X8_207 dX8_pupil_89 (by decide) (show _ < 12 by omega) ?_
      refine G_iret dX8_pupil_92 rfl rfl (Nat.le_of_ble_eq_true rfl) (Nat.le_of_ble_eq_true rfl) ?_
      rw [show M.1 12 0 p 3 = g.A.f p 0 from hf 0 (by decide)]
      exact h
    · refine G_tIn (off := 77) (tgt := 93) dX8_pupil_16 (by decide) (by decide) rfl (by decide) ?_
      refine G_aload_n dX8_pupil_93 rfl ?_
      refine gf_X8_212 dX8_pupil_94 (by decide) (show _ < 12 by omega) ?_
      refine G_iret dX8_pupil_97 rfl rfl (Nat.le_of_ble_eq_true rfl) (Nat.le_of_ble_eq_true rfl) ?_
      rw [show M.1 12 0 p 4 = g.A.f p 1 from hf 1 (by decide)]
      exact h
    · refine G_tIn (off := 82) (tgt := 98) dX8_pupil_16 (by decide) (by decide) rfl (by decide) ?_
      refine G_aload_n dX8_pupil_98 rfl ?_
      refine G_iconst (v := 0) dX8_pupil_99 (by decide) ?_
      refine cv_X8_215 (cs' := 0) (ss' := 0) dX8_pupil_100 (by decide) (show _ < 12 by omega) (Nat.le_of_ble_eq_true rfl) (Nat.le_of_ble_eq_true rfl) (Nat.le_of_ble_eq_true rfl) rfl rfl (Nat.le_of_ble_eq_true rfl) (Nat.le_of_ble_eq_true rfl) rfl ?_
      refine s_X1_skill (s := 0) (by decide) (by omega) (by decide) hf (hGo_i ?_)
      refine G_iret dX8_pupil_103 rfl rfl (Nat.le_of_ble_eq_true rfl) (Nat.le_of_ble_eq_true rfl) ?_
      exact h
    · refine G_tIn (off := 88) (tgt := 104) dX8_pupil_16 (by decide) (by decide) rfl (by decide) ?_
      refine G_aload_n dX8_pupil_104 rfl ?_
      refine G_iconst (v := 1) dX8_pupil_105 (by decide) ?_
      refine cv_X8_215 (cs' := 0) (ss' := 0) dX8_pupil_106 (by decide) (show _ < 12 by omega) (Nat.le_of_ble_eq_true rfl) (Nat.le_of_ble_eq_true rfl) (Nat.le_of_ble_eq_true rfl) rfl rfl (Nat.le_of_ble_eq_true rfl) (Nat.le_of_ble_eq_true rfl) rfl ?_
      refine s_X1_skill (s := 1) (by decide) (by omega) (by decide) hf (hGo_i ?_)
      refine G_iret dX8_pupil_109 rfl rfl (Nat.le_of_ble_eq_true rfl) (Nat.le_of_ble_eq_true rfl) ?_
      exact h
    · refine G_tIn (off := 94) (tgt := 110) dX8_pupil_16 (by decide) (by decide) rfl (by decide) ?_
      refine G_aload_n dX8_pupil_110 rfl ?_
      refine gf_X8_218 dX8_pupil_111 (by decide) (show _ < 12 by omega) ?_
      rw [show M.1 12 0 p 5 = g.A.f p 4 from hf 4 (by decide)]
      rcases hO.1.spy p hp with e | e
      · rw [e]
        refine G_if_eq (tgt := 121) dX8_pupil_114 (by decide) (fun c114 => ?_) (fun c114 => ?_)
        · refine G_iconst (v := 0) dX8_pupil_121 (by decide) ?_
          refine G_iret dX8_pupil_122 rfl rfl (Nat.le_of_ble_eq_true rfl) (Nat.le_of_ble_eq_true rfl) ?_
          rw [show pupV g.A p 4 = g.A.f p 4 from rfl, e] at h
          exact h
        · exact absurd rfl c114
      · rw [e]
        refine G_if_eq (tgt := 121) dX8_pupil_114 (by decide) (fun c114 => ?_) (fun c114 => ?_)
        · exact absurd c114 (by decide)
        · refine G_iconst (v := 1) dX8_pupil_117 (by decide) ?_
          refine G_goto (tgt := 122) dX8_pupil_118 (by decide) ?_
          refine G_iret dX8_pupil_122 rfl rfl (Nat.le_of_ble_eq_true rfl) (Nat.le_of_ble_eq_true rfl) ?_
          rw [show pupV g.A p 4 = g.A.f p 4 from rfl, e] at h
          exact h
    · refine G_tIn (off := 107) (tgt := 123) dX8_pupil_16 (by decide) (by decide) rfl (by decide) ?_
      refine G_aload_n dX8_pupil_123 rfl ?_
      refine gf_X8_222 dX8_pupil_124 (by decide) (show _ < 12 by omega) ?_
      refine G_iret dX8_pupil_127 rfl rfl (Nat.le_of_ble_eq_true rfl) (Nat.le_of_ble_eq_true rfl) ?_
      rw [show M.1 12 0 p 6 = g.A.f p 5 from hf 5 (by decide)]
      exact h
    · refine G_tIn (off := 112) (tgt := 128) dX8_pupil_16 (by decide) (by decide) rfl (by decide) ?_
      refine G_aload_n dX8_pupil_128 rfl ?_
      refine gf_X8_225 dX8_pupil_129 (by decide) (show _ < 12 by omega) ?_
      refine G_iret dX8_pupil_132 rfl rfl (Nat.le_of_ble_eq_true rfl) (Nat.le_of_ble_eq_true rfl) ?_
      rw [show M.1 12 0 p 7 = g.A.f p 6 from hf 6 (by decide)]
      exact h
    · refine G_tIn (off := 117) (tgt := 133) dX8_pupil_16 (by decide) (by decide) rfl (by decide) ?_
      refine G_aload_n dX8_pupil_133 rfl ?_
      refine gf_X8_228 dX8_pupil_134 (by decide) (show _ < 12 by omega) ?_
      refine G_iret dX8_pupil_137 rfl rfl (Nat.le_of_ble_eq_true rfl) (Nat.le_of_ble_eq_true rfl) ?_
      rw [show M.1 12 0 p 8 = g.A.f p 7 from hf 7 (by decide)]
      exact h
    · refine G_tIn (off := 122) (tgt := 138) dX8_pupil_16 (by decide) (by decide) rfl (by decide) ?_
      refine G_aload_n dX8_pupil_138 rfl ?_
      refine gf_X8_231 dX8_pupil_139 (by decide) (show _ < 12 by omega) ?_
      refine G_iret dX8_pupil_142 rfl rfl (Nat.le_of_ble_eq_true rfl) (Nat.le_of_ble_eq_true rfl) ?_
      rw [show M.1 12 0 p 9 = g.A.f p 8 from hf 8 (by decide)]
      exact h
    · refine G_tIn (off := 127) (tgt := 143) dX8_pupil_16 (by decide) (by decide) rfl (by decide) ?_
      refine G_aload_n dX8_pupil_143 rfl ?_
      refine gf_X8_234 dX8_pupil_144 (by decide) (show _ < 12 by omega) ?_
      refine gf_X8_238 dX8_pupil_147 (by decide) (show _ < 24 by omega) ?_
      refine G_iret dX8_pupil_150 rfl rfl (Nat.le_of_ble_eq_true rfl) (Nat.le_of_ble_eq_true rfl) ?_
      rw [show M.1 13 0 (2 * p) 1 = _ from (hA.s hp (t := 0) (by decide)).1]
      exact h
    · refine G_tIn (off := 135) (tgt := 151) dX8_pupil_16 (by decide) (by decide) rfl (by decide) ?_
      refine G_aload_n dX8_pupil_151 rfl ?_
      refine gf_X8_241 dX8_pupil_152 (by decide) (show _ < 12 by omega) ?_
      refine gf_X8_238 dX8_pupil_155 (by decide) (show _ < 24 by omega) ?_
      refine G_iret dX8_pupil_158 rfl rfl (Nat.le_of_ble_eq_true rfl) (Nat.le_of_ble_eq_true rfl) ?_
      rw [(hA.s hp (t := 1) (by decide)).1]
      exact h
    · refine G_tIn (off := 143) (tgt := 159) dX8_pupil_16 (by decide) (by decide) rfl (by decide) ?_
      refine G_aload_n dX8_pupil_159 rfl ?_
      refine gf_X8_26 dX8_pupil_160  ?_
      refine gf_X8_174 dX8_pupil_163 (by decide) ?_
      refine G_iload_n dX8_pupil_166 rfl ?_
      refine cv_X8_244 (cs' := 0) (ss' := 0) dX8_pupil_167 (by decide) (Nat.le_of_ble_eq_true rfl) (Nat.le_of_ble_eq_true rfl) (Nat.le_of_ble_eq_true rfl) rfl rfl (Nat.le_of_ble_eq_true rfl) (Nat.le_of_ble_eq_true rfl) rfl ?_
      refine s_X0_owedBy (by decide) hA.d (hGo_i ?_)
      refine G_iret dX8_pupil_170 rfl rfl (Nat.le_of_ble_eq_true rfl) (Nat.le_of_ble_eq_true rfl) ?_
      exact h
    · refine G_tIn (off := 155) (tgt := 171) dX8_pupil_16 (by decide) (by decide) rfl (by decide) ?_
      refine G_aload_n dX8_pupil_171 rfl ?_
      refine gf_X8_26 dX8_pupil_172  ?_
      refine gf_X8_174 dX8_pupil_175 (by decide) ?_
      refine G_iload_n dX8_pupil_178 rfl ?_
      refine cv_X8_247 (cs' := 0) (ss' := 0) dX8_pupil_179 (by decide) (Nat.le_of_ble_eq_true rfl) (Nat.le_of_ble_eq_true rfl) (Nat.le_of_ble_eq_true rfl) rfl rfl (Nat.le_of_ble_eq_true rfl) (Nat.le_of_ble_eq_true rfl) rfl ?_
      refine s_X0_owedTo (by decide) hA.d (hGo_i ?_)
      refine G_iret dX8_pupil_182 rfl rfl (Nat.le_of_ble_eq_true rfl) (Nat.le_of_ble_eq_true rfl) ?_
      exact h
    · refine G_tIn (off := 167) (tgt := 183) dX8_pupil_16 (by decide) (by decide) rfl (by decide) ?_
      refine G_aload_n dX8_pupil_183 rfl ?_
      refine gf_X8_250 dX8_pupil_184 (by decide) (show _ < 12 by omega) ?_
      rw [show M.1 12 0 p 10 = g.A.f p 9 from hf 9 (by decide)]
      refine cv_bc dX8_pupil_187 (hqx 980 (by decide +kernel) rfl) (Nat.le_of_ble_eq_true rfl) (Nat.le_of_ble_eq_true rfl) (Nat.le_of_ble_eq_true rfl) (Nat.le_of_ble_eq_true rfl) (Nat.le_of_ble_eq_true rfl) rfl ?_
      refine G_iret dX8_pupil_190 rfl rfl (Nat.le_of_ble_eq_true rfl) (Nat.le_of_ble_eq_true rfl) ?_
      exact h
  · rw [if_neg c] at h
    refine G_tOut (tgt := 191) dX8_pupil_16 (inR_out c) (by decide) ?_
    exact G_thrN h
def qPiece (g : Gs) (x y z : Int32) : Qq := if inP g.A x then if inR y 0 1 then (0, atL (g.A.s (2 * tn x + tn y)) z) else (2, 0) else (1, 0)
theorem s_X8_piece {x y z' : Int32} (hC : CG M g) (h : P (rs xPA (qPiece g x y z')) M) : Sp E yX8_piece cX8_piece zX8_piece [.ref (ad E 0 0 0), .int x, .int y, .int z'] M P := by
  unfold qPiece at h
  have hA := hC.1
  refine Sp_of (own := RX8) (by decide) rfl rfl (Nat.le_of_ble_eq_true rfl) (fun C => ?_)
  have h12 := hA.n12
  refine G_aload_n dX8_piece_0 rfl ?_
  refine G_iload_n dX8_piece_1 rfl ?_
  refine cv_X8_200 (cs' := 0) (ss' := 0) dX8_piece_2  (Nat.le_of_ble_eq_true rfl) (Nat.le_of_ble_eq_true rfl) (Nat.le_of_ble_eq_true rfl) rfl rfl (Nat.le_of_ble_eq_true rfl) (Nat.le_of_ble_eq_true rfl) rfl ?_
  refine s_X8_needPupil hA (fun c1 => hGo_v ?_) (fun c1 => hGo_x (by rw [if_neg c1] at h; exact h))
  rw [if_pos c1] at h
  obtain ⟨p, hp, rfl, ep⟩ := in_ix c1 (by omega)
  rw [ep] at h
  refine G_iload_n dX8_piece_5 rfl ?_
  refine cv_X8_260 (cs' := 0) (ss' := 0) dX8_piece_6  (Nat.le_of_ble_eq_true rfl) (Nat.le_of_ble_eq_true rfl) (Nat.le_of_ble_eq_true rfl) rfl rfl (Nat.le_of_ble_eq_true rfl) (Nat.le_of_ble_eq_true rfl) rfl ?_
  refine s_X8_needSubject (fun c2 => hGo_v ?_) (fun c2 => hGo_x (by rw [if_neg c2] at h; exact h))
  rw [if_pos c2] at h
  obtain ⟨s, -, hs, rfl, es⟩ := inR_ix (i := 0) (k := 1) (by decide) (by decide) c2
  rw [es] at h
  refine G_aload_n dX8_piece_9 rfl ?_
  refine gf_X8_26 dX8_piece_10  ?_
  refine gf_X8_203 dX8_piece_13 (by decide) ?_
  refine G_iload_n dX8_piece_16 rfl ?_
  refine G_aald dX8_piece_17 ⟨by decide, rfl⟩ rfl rfl rfl (show p < 12 by omega) (by decide) rfl ?_
  refine G_iload_n dX8_piece_18 rfl ?_
  refine cv_X8_263 (cs' := 0) (ss' := 0) dX8_piece_19 (by decide) (show _ < 12 by omega) (Nat.le_of_ble_eq_true rfl) (Nat.le_of_ble_eq_true rfl) (Nat.le_of_ble_eq_true rfl) rfl rfl (Nat.le_of_ble_eq_true rfl) (Nat.le_of_ble_eq_true rfl) rfl ?_
  refine s_X1_satchel (by decide) (by omega) (by omega) (hGo_a ?_)
  refine G_iload_n dX8_piece_22 rfl ?_
  refine cv_X8_267 (cs' := 0) (ss' := 0) dX8_piece_23 (by decide) (show _ < 24 by omega) (Nat.le_of_ble_eq_true rfl) (Nat.le_of_ble_eq_true rfl) (Nat.le_of_ble_eq_true rfl) rfl rfl (Nat.le_of_ble_eq_true rfl) (Nat.le_of_ble_eq_true rfl) rfl ?_
  refine s_X2_makerAt (by decide) (by omega) (hA.s hp (by omega)) (hGo_i ?_)
  refine G_iret dX8_piece_26 rfl rfl (Nat.le_of_ble_eq_true rfl) (Nat.le_of_ble_eq_true rfl) ?_
  exact h
def qMadeBy (g : Gs) (x y m : Int32) : Qq := if inP g.A x ∧ inP g.A m then if inR y 0 1 then (0, sm (g.A.s (2 * tn x + tn y)).length (fun k => if (g.A.s (2 * tn x + tn y)).getD k 0 = m then 1 else 0)) else (2, 0) else (1, 0)
theorem s_X8_madeBy {x y z' : Int32} (hC : CG M g) (h : P (rs xPA (qMadeBy g x y z')) M) : Sp E yX8_madeBy cX8_madeBy zX8_madeBy [.ref (ad E 0 0 0), .int x, .int y, .int z'] M P := by
  unfold qMadeBy at h
  have hA := hC.1
  refine Sp_of (own := RX8) (by decide) rfl rfl (Nat.le_of_ble_eq_true rfl) (fun C => ?_)
  have h12 := hA.n12
  refine G_aload_n dX8_madeBy_0 rfl ?_
  refine G_iload_n dX8_madeBy_1 rfl ?_
  refine cv_X8_200 (cs' := 0) (ss' := 0) dX8_madeBy_2  (Nat.le_of_ble_eq_true rfl) (Nat.le_of_ble_eq_true rfl) (Nat.le_of_ble_eq_true rfl) rfl rfl (Nat.le_of_ble_eq_true rfl) (Nat.le_of_ble_eq_true rfl) rfl ?_
  refine s_X8_needPupil hA (fun c1 => hGo_v ?_) (fun c1 => hGo_x (by rw [if_neg (fun q => c1 q.1)] at h; exact h))
  refine G_aload_n dX8_madeBy_5 rfl ?_
  refine G_iload_n dX8_madeBy_6 rfl ?_
  refine cv_X8_200 (cs' := 0) (ss' := 0) dX8_madeBy_7  (Nat.le_of_ble_eq_true rfl) (Nat.le_of_ble_eq_true rfl) (Nat.le_of_ble_eq_true rfl) rfl rfl (Nat.le_of_ble_eq_true rfl) (Nat.le_of_ble_eq_true rfl) rfl ?_
  refine s_X8_needPupil hA (fun c2 => hGo_v ?_) (fun c2 => hGo_x (by rw [if_neg (fun q => c2 q.2)] at h; exact h))
  rw [if_pos ⟨c1, c2⟩] at h
  obtain ⟨p, hp, rfl, ep⟩ := in_ix c1 (by omega)
  obtain ⟨o, ho, rfl, eo⟩ := in_ix c2 (by omega)
  refine G_iload_n dX8_madeBy_10 rfl ?_
  refine cv_X8_260 (cs' := 0) (ss' := 0) dX8_madeBy_11  (Nat.le_of_ble_eq_true rfl) (Nat.le_of_ble_eq_true rfl) (Nat.le_of_ble_eq_true rfl) rfl rfl (Nat.le_of_ble_eq_true rfl) (Nat.le_of_ble_eq_true rfl) rfl ?_
  refine s_X8_needSubject (fun c3 => hGo_v ?_) (fun c3 => hGo_x (by rw [if_neg c3] at h; exact h))
  rw [if_pos c3] at h
  obtain ⟨s, -, hs, rfl, es⟩ := inR_ix (i := 0) (k := 1) (by decide) (by decide) c3
  rw [ep, es] at h
  refine G_aload_n dX8_madeBy_14 rfl ?_
  refine gf_X8_26 dX8_madeBy_15  ?_
  refine gf_X8_203 dX8_madeBy_18 (by decide) ?_
  refine G_iload_n dX8_madeBy_21 rfl ?_
  refine G_aald dX8_madeBy_22 ⟨by decide, rfl⟩ rfl rfl rfl (show p < 12 by omega) (by decide) rfl ?_
  refine G_iload_n dX8_madeBy_23 rfl ?_
  refine cv_X8_263 (cs' := 0) (ss' := 0) dX8_madeBy_24 (by decide) (show _ < 12 by omega) (Nat.le_of_ble_eq_true rfl) (Nat.le_of_ble_eq_true rfl) (Nat.le_of_ble_eq_true rfl) rfl rfl (Nat.le_of_ble_eq_true rfl) (Nat.le_of_ble_eq_true rfl) rfl ?_
  refine s_X1_satchel (by decide) (by omega) (by omega) (hGo_a ?_)
  refine G_iload_n dX8_madeBy_27 rfl ?_
  refine cv_X8_270 (cs' := 0) (ss' := 0) dX8_madeBy_28 (by decide) (show _ < 24 by omega) (Nat.le_of_ble_eq_true rfl) (Nat.le_of_ble_eq_true rfl) (Nat.le_of_ble_eq_true rfl) rfl rfl (Nat.le_of_ble_eq_true rfl) (Nat.le_of_ble_eq_true rfl) rfl ?_
  refine s_X2_piecesBy (by decide) (by omega) (hA.s hp (by omega)) (hGo_i ?_)
  refine G_iret dX8_madeBy_31 rfl rfl (Nat.le_of_ble_eq_true rfl) (Nat.le_of_ble_eq_true rfl) ?_
  exact h
def qDebt (g : Gs) (x y : Int32) : Qq := if inD g.A x then if inR y 0 3 then (0, dg g.A.d (tn x) (tn y)) else (2, 0) else (1, 0)
theorem s_X8_debt {x y : Int32} (hC : CG M g) (h : P (rs xPA (qDebt g x y)) M) : Sp E yX8_debt cX8_debt zX8_debt [.ref (ad E 0 0 0), .int x, .int y] M P := by
  unfold qDebt at h
  have hA := hC.1
  have h30 := hA.d.2.1
  refine Sp_of (own := RX8) (by decide) rfl rfl (Nat.le_of_ble_eq_true rfl) (fun C => ?_)
  refine G_aload_n dX8_debt_0 rfl ?_
  refine G_iload_n dX8_debt_1 rfl ?_
  refine cv_X8_273 (cs' := 0) (ss' := 0) dX8_debt_2  (Nat.le_of_ble_eq_true rfl) (Nat.le_of_ble_eq_true rfl) (Nat.le_of_ble_eq_true rfl) rfl rfl (Nat.le_of_ble_eq_true rfl) (Nat.le_of_ble_eq_true rfl) rfl ?_
  refine s_X8_needDebt hA (fun c1 => hGo_v ?_) (fun c1 => hGo_x (by rw [if_neg c1] at h; exact h))
  rw [if_pos c1] at h
  obtain ⟨p, hp, rfl, ep⟩ := in_ix c1 (by omega)
  rw [ep] at h
  have hd := hA.d.2.2 p hp
  refine G_iload_n dX8_debt_5 rfl ?_
  by_cases c : inR y 0 3
  · rw [if_pos c] at h
    obtain ⟨k, -, hk, rfl, ek⟩ := inR_ix (i := 0) (k := 3) (by decide) (by decide) c
    rw [ek] at h
    rcases (show k = 0 ∨ k = 1 ∨ k = 2 ∨ k = 3 by omega) with rfl | rfl | rfl | rfl
    · refine G_tIn (off := 30) (tgt := 36) dX8_debt_6 (by decide) (by decide) rfl (by decide) ?_
      refine G_aload_n dX8_debt_36 rfl ?_
      refine gf_X8_26 dX8_debt_37  ?_
      refine gf_X8_174 dX8_debt_40 (by decide) ?_
      refine gf_X8_276 dX8_debt_43 (by decide) ?_
      refine G_iload_n dX8_debt_46 rfl ?_
      refine G_iald dX8_debt_47 ⟨by decide, by decide⟩ rfl rfl (show p < 30 by omega) (by decide) ?_
      refine G_iret dX8_debt_48 rfl rfl (Nat.le_of_ble_eq_true rfl) (Nat.le_of_ble_eq_true rfl) ?_
      rw [hd 0 (by decide)]
      exact h
    · refine G_tIn (off := 43) (tgt := 49) dX8_debt_6 (by decide) (by decide) rfl (by decide) ?_
      refine G_aload_n dX8_debt_49 rfl ?_
      refine gf_X8_26 dX8_debt_50  ?_
      refine gf_X8_174 dX8_debt_53 (by decide) ?_
      refine gf_X8_279 dX8_debt_56 (by decide) ?_
      refine G_iload_n dX8_debt_59 rfl ?_
      refine G_iald dX8_debt_60 ⟨by decide, by decide⟩ rfl rfl (show p < 30 by omega) (by decide) ?_
      refine G_iret dX8_debt_61 rfl rfl (Nat.le_of_ble_eq_true rfl) (Nat.le_of_ble_eq_true rfl) ?_
      rw [hd 1 (by decide)]
      exact h
    · refine G_tIn (off := 56) (tgt := 62) dX8_debt_6 (by decide) (by decide) rfl (by decide) ?_
      refine G_aload_n dX8_debt_62 rfl ?_
      refine gf_X8_26 dX8_debt_63  ?_
      refine gf_X8_174 dX8_debt_66 (by decide) ?_
      refine gf_X8_282 dX8_debt_69 (by decide) ?_
      refine G_iload_n dX8_debt_72 rfl ?_
      refine G_iald dX8_debt_73 ⟨by decide, by decide⟩ rfl rfl (show p < 30 by omega) (by decide) ?_
      refine G_iret dX8_debt_74 rfl rfl (Nat.le_of_ble_eq_true rfl) (Nat.le_of_ble_eq_true rfl) ?_
      rw [hd 2 (by decide)]
      exact h
    · refine G_tIn (off := 69) (tgt := 75) dX8_debt_6 (by decide) (by decide) rfl (by decide) ?_
      refine G_aload_n dX8_debt_75 rfl ?_
      refine gf_X8_26 dX8_debt_76  ?_
      refine gf_X8_174 dX8_debt_79 (by decide) ?_
      refine gf_X8_285 dX8_debt_82 (by decide) ?_
      refine G_iload_n dX8_debt_85 rfl ?_
      refine G_iald dX8_debt_86 ⟨by decide, by decide⟩ rfl rfl (show p < 30 by omega) (by decide) ?_
      refine G_iret dX8_debt_87 rfl rfl (Nat.le_of_ble_eq_true rfl) (Nat.le_of_ble_eq_true rfl) ?_
      rw [hd 3 (by decide)]
      exact h
  · rw [if_neg c] at h
    refine G_tOut (tgt := 88) dX8_debt_6 (inR_out c) (by decide) ?_
    exact G_thrN h
def qOwes (g : Gs) (x y z : Int32) : Qq := if inP g.A x ∧ inP g.A y then if inR z 0 1 then (0, owedV g.A.d x y z) else (2, 0) else (1, 0)
theorem s_X8_owes {x y z' : Int32} (hC : CG M g) (h : P (rs xPA (qOwes g x y z')) M) : Sp E yX8_owes cX8_owes zX8_owes [.ref (ad E 0 0 0), .int x, .int y, .int z'] M P := by
  unfold qOwes at h
  have hA := hC.1
  refine Sp_of (own := RX8) (by decide) rfl rfl (Nat.le_of_ble_eq_true rfl) (fun C => ?_)
  refine G_aload_n dX8_owes_0 rfl ?_
  refine G_iload_n dX8_owes_1 rfl ?_
  refine cv_X8_200 (cs' := 0) (ss' := 0) dX8_owes_2  (Nat.le_of_ble_eq_true rfl) (Nat.le_of_ble_eq_true rfl) (Nat.le_of_ble_eq_true rfl) rfl rfl (Nat.le_of_ble_eq_true rfl) (Nat.le_of_ble_eq_true rfl) rfl ?_
  refine s_X8_needPupil hA (fun c1 => hGo_v ?_) (fun c1 => hGo_x (by rw [if_neg (fun q => c1 q.1)] at h; exact h))
  refine G_aload_n dX8_owes_5 rfl ?_
  refine G_iload_n dX8_owes_6 rfl ?_
  refine cv_X8_200 (cs' := 0) (ss' := 0) dX8_owes_7  (Nat.le_of_ble_eq_true rfl) (Nat.le_of_ble_eq_true rfl) (Nat.le_of_ble_eq_true rfl) rfl rfl (Nat.le_of_ble_eq_true rfl) (Nat.le_of_ble_eq_true rfl) rfl ?_
  refine s_X8_needPupil hA (fun c2 => hGo_v ?_) (fun c2 => hGo_x (by rw [if_neg (fun q => c2 q.2)] at h; exact h))
  rw [if_pos ⟨c1, c2⟩] at h
  refine G_iload_n dX8_owes_10 rfl ?_
  refine cv_X8_260 (cs' := 0) (ss' := 0) dX8_owes_11  (Nat.le_of_ble_eq_true rfl) (Nat.le_of_ble_eq_true rfl) (Nat.le_of_ble_eq_true rfl) rfl rfl (Nat.le_of_ble_eq_true rfl) (Nat.le_of_ble_eq_true rfl) rfl ?_
  refine s_X8_needSubject (fun c3 => hGo_v ?_) (fun c3 => hGo_x (by rw [if_neg c3] at h; exact h))
  rw [if_pos c3] at h
  refine G_aload_n dX8_owes_14 rfl ?_
  refine gf_X8_26 dX8_owes_15  ?_
  refine gf_X8_174 dX8_owes_18 (by decide) ?_
  refine G_iload_n dX8_owes_21 rfl ?_
  refine G_iload_n dX8_owes_22 rfl ?_
  refine G_iload_n dX8_owes_23 rfl ?_
  refine cv_X8_290 (cs' := 0) (ss' := 0) dX8_owes_24 (by decide) (Nat.le_of_ble_eq_true rfl) (Nat.le_of_ble_eq_true rfl) (Nat.le_of_ble_eq_true rfl) rfl rfl (Nat.le_of_ble_eq_true rfl) (Nat.le_of_ble_eq_true rfl) rfl ?_
  refine s_X0_owed (by decide) hA.d (hGo_i ?_)
  refine G_iret dX8_owes_27 rfl rfl (Nat.le_of_ble_eq_true rfl) (Nat.le_of_ble_eq_true rfl) ?_
  exact h
def qNear (g : Gs) (x y : Int32) : Qq := if inP g.A x ∧ inP g.A y then (0, if nr g.A (tn x) (tn y) = true then 1 else 0) else (1, 0)
theorem s_X8_isNear {x y : Int32} (hC : CG M g) (h : P (rs xP (qNear g x y)) M) : Sp E yX8_isNear cX8_isNear zX8_isNear [.ref (ad E 0 0 0), .int x, .int y] M P := by
  unfold qNear at h
  have hA := hC.1
  refine Sp_of (own := RX8) (by decide) rfl rfl (Nat.le_of_ble_eq_true rfl) (fun C => ?_)
  have h12 := hA.n12
  refine G_aload_n dX8_isNear_0 rfl ?_
  refine G_iload_n dX8_isNear_1 rfl ?_
  refine cv_X8_200 (cs' := 0) (ss' := 0) dX8_isNear_2  (Nat.le_of_ble_eq_true rfl) (Nat.le_of_ble_eq_true rfl) (Nat.le_of_ble_eq_true rfl) rfl rfl (Nat.le_of_ble_eq_true rfl) (Nat.le_of_ble_eq_true rfl) rfl ?_
  refine s_X8_needPupil hA (fun c1 => hGo_v ?_) (fun c1 => hGo_x (by rw [if_neg (fun q => c1 q.1)] at h; exact h))
  refine G_aload_n dX8_isNear_5 rfl ?_
  refine G_iload_n dX8_isNear_6 rfl ?_
  refine cv_X8_200 (cs' := 0) (ss' := 0) dX8_isNear_7  (Nat.le_of_ble_eq_true rfl) (Nat.le_of_ble_eq_true rfl) (Nat.le_of_ble_eq_true rfl) rfl rfl (Nat.le_of_ble_eq_true rfl) (Nat.le_of_ble_eq_true rfl) rfl ?_
  refine s_X8_needPupil hA (fun c2 => hGo_v ?_) (fun c2 => hGo_x (by rw [if_neg (fun q => c2 q.2)] at h; exact h))
  rw [if_pos ⟨c1, c2⟩] at h
  obtain ⟨p, hp, rfl, ep⟩ := in_ix c1 (by omega)
  obtain ⟨o, ho, rfl, eo⟩ := in_ix c2 (by omega)
  rw [ep, eo] at h
  have hf := hA.f ho
  refine G_aload_n dX8_isNear_10 rfl ?_
  refine gf_X8_26 dX8_isNear_11  ?_
  refine gf_X8_203 dX8_isNear_14 (by decide) ?_
  refine G_iload_n dX8_isNear_17 rfl ?_
  refine G_aald dX8_isNear_18 ⟨by decide, rfl⟩ rfl rfl rfl (show p < 12 by omega) (by decide) rfl ?_
  refine G_aload_n dX8_isNear_19 rfl ?_
  refine gf_X8_26 dX8_isNear_20  ?_
  refine gf_X8_203 dX8_isNear_23 (by decide) ?_
  refine G_iload_n dX8_isNear_26 rfl ?_
  refine G_aald dX8_isNear_27 ⟨by decide, rfl⟩ rfl rfl rfl (show o < 12 by omega) (by decide) rfl ?_
  refine gf_X8_207 dX8_isNear_28 (by decide) (show _ < 12 by omega) ?_
  rw [show M.1 12 0 o 3 = g.A.f o 0 from hf 0 (by decide)]
  refine G_aload_n dX8_isNear_31 rfl ?_
  refine gf_X8_26 dX8_isNear_32  ?_
  refine gf_X8_203 dX8_isNear_35 (by decide) ?_
  refine G_iload_n dX8_isNear_38 rfl ?_
  refine G_aald dX8_isNear_39 ⟨by decide, rfl⟩ rfl rfl rfl (show o < 12 by omega) (by decide) rfl ?_
  refine gf_X8_212 dX8_isNear_40 (by decide) (show _ < 12 by omega) ?_
  rw [show M.1 12 0 o 4 = g.A.f o 1 from hf 1 (by decide)]
  refine cv_X8_293 (cs' := 0) (ss' := 0) dX8_isNear_43 (by decide) (show _ < 12 by omega) (Nat.le_of_ble_eq_true rfl) (Nat.le_of_ble_eq_true rfl) (Nat.le_of_ble_eq_true rfl) rfl rfl (Nat.le_of_ble_eq_true rfl) (Nat.le_of_ble_eq_true rfl) rfl ?_
  refine s_X1_isNearBench (by decide) (by omega) (hA.f hp) (hGo_i ?_)
  refine G_iret dX8_isNear_46 rfl (by split <;> rfl) (Nat.le_of_ble_eq_true rfl) (Nat.le_of_ble_eq_true rfl) ?_
  by_cases q : nr g.A p o = true
  · rw [if_pos q] at h
    rw [if_pos (of_decide_eq_true q)]
    exact h
  · rw [if_neg q] at h
    rw [if_neg (fun z => q (decide_eq_true z))]
    exact h
def qWitness (g : Gs) (x y : Int32) : Qq := if inP g.A x then (0, lowV (g.A.f (tn x) 9) y) else (1, 0)
theorem s_X8_witness {x y : Int32} (hC : CG M g) (h : P (rs xP (qWitness g x y)) M) : Sp E yX8_witness cX8_witness zX8_witness [.ref (ad E 0 0 0), .int x, .int y] M P := by
  unfold qWitness at h
  have hA := hC.1
  refine Sp_of (own := RX8) (by decide) rfl rfl (Nat.le_of_ble_eq_true rfl) (fun C => ?_)
  have h12 := hA.n12
  refine G_aload_n dX8_witness_0 rfl ?_
  refine G_iload_n dX8_witness_1 rfl ?_
  refine cv_X8_200 (cs' := 0) (ss' := 0) dX8_witness_2  (Nat.le_of_ble_eq_true rfl) (Nat.le_of_ble_eq_true rfl) (Nat.le_of_ble_eq_true rfl) rfl rfl (Nat.le_of_ble_eq_true rfl) (Nat.le_of_ble_eq_true rfl) rfl ?_
  refine s_X8_needPupil hA (fun c1 => hGo_v ?_) (fun c1 => hGo_x (by rw [if_neg c1] at h; exact h))
  rw [if_pos c1] at h
  obtain ⟨p, hp, rfl, ep⟩ := in_ix c1 (by omega)
  rw [ep] at h
  refine G_aload_n dX8_witness_5 rfl ?_
  refine gf_X8_26 dX8_witness_6  ?_
  refine gf_X8_203 dX8_witness_9 (by decide) ?_
  refine G_iload_n dX8_witness_12 rfl ?_
  refine G_aald dX8_witness_13 ⟨by decide, rfl⟩ rfl rfl rfl (show p < 12 by omega) (by decide) rfl ?_
  refine gf_X8_250 dX8_witness_14 (by decide) (show _ < 12 by omega) ?_
  rw [show M.1 12 0 p 10 = g.A.f p 9 from hA.f hp 9 (by decide)]
  refine G_iload_n dX8_witness_17 rfl ?_
  refine cv_X8_297 (cs' := 0) (ss' := 0) dX8_witness_18  (Nat.le_of_ble_eq_true rfl) (Nat.le_of_ble_eq_true rfl) (Nat.le_of_ble_eq_true rfl) rfl rfl (Nat.le_of_ble_eq_true rfl) (Nat.le_of_ble_eq_true rfl) rfl ?_
  refine s_X8_lowest (hGo_i ?_)
  refine G_iret dX8_witness_21 rfl rfl (Nat.le_of_ble_eq_true rfl) (Nat.le_of_ble_eq_true rfl) ?_
  exact h
def qBench (g : Gs) (x y : Int32) : Qq := if inR x 0 5 ∧ inR y 0 5 then (0, onV g.A x y) else (1, 0)
theorem s_X8_bench {x y : Int32} (hC : CG M g) (h : P (rs xA (qBench g x y)) M) : Sp E yX8_bench cX8_bench zX8_bench [.ref (ad E 0 0 0), .int x, .int y] M P := by
  unfold qBench at h
  have hA := hC.1
  refine Sp_of (own := RX8) (by decide) rfl rfl (Nat.le_of_ble_eq_true rfl) (fun C => ?_)
  refine G_iload_n dX8_bench_0 rfl ?_
  refine G_iload_n dX8_bench_1 rfl ?_
  refine cv_X8_300 (cs' := 0) (ss' := 0) dX8_bench_2  (Nat.le_of_ble_eq_true rfl) (Nat.le_of_ble_eq_true rfl) (Nat.le_of_ble_eq_true rfl) rfl rfl (Nat.le_of_ble_eq_true rfl) (Nat.le_of_ble_eq_true rfl) rfl ?_
  refine s_X8_needBench (fun c => hGo_v ?_) (fun c => hGo_x (by rw [if_neg c] at h; exact h))
  rw [if_pos c] at h
  refine G_aload_n dX8_bench_5 rfl ?_
  refine gf_X8_26 dX8_bench_6  ?_
  refine G_iload_n dX8_bench_9 rfl ?_
  refine G_iload_n dX8_bench_10 rfl ?_
  refine cv_X8_304 (cs' := 0) (ss' := 0) dX8_bench_11 (by decide) (Nat.le_of_ble_eq_true rfl) (Nat.le_of_ble_eq_true rfl) (Nat.le_of_ble_eq_true rfl) rfl rfl (Nat.le_of_ble_eq_true rfl) (Nat.le_of_ble_eq_true rfl) rfl ?_
  refine s_X3_pupilOn (by decide) hA (hGo_i ?_)
  refine G_iret dX8_bench_14 rfl rfl (Nat.le_of_ble_eq_true rfl) (Nat.le_of_ble_eq_true rfl) ?_
  exact h
def qSeers (g : Gs) (x y : Int32) : Qq := if inP g.A x ∧ inP g.A y then if x ≠ y then (0, bc (seersV g.A (tn x) (tn y))) else (2, 0) else (1, 0)
theorem s_X8_seers {x y : Int32} (hC : CG M g) (h : P (rs xPA (qSeers g x y)) M) : Sp E yX8_seers cX8_seers zX8_seers [.ref (ad E 0 0 0), .int x, .int y] M P := by
  unfold qSeers at h
  have hA := hC.1
  refine Sp_of (own := RX8) (by decide) rfl rfl (Nat.le_of_ble_eq_true rfl) (fun C => ?_)
  have h12 := hA.n12
  refine G_aload_n dX8_seers_0 rfl ?_
  refine G_iload_n dX8_seers_1 rfl ?_
  refine cv_X8_200 (cs' := 0) (ss' := 0) dX8_seers_2  (Nat.le_of_ble_eq_true rfl) (Nat.le_of_ble_eq_true rfl) (Nat.le_of_ble_eq_true rfl) rfl rfl (Nat.le_of_ble_eq_true rfl) (Nat.le_of_ble_eq_true rfl) rfl ?_
  refine s_X8_needPupil hA (fun c1 => hGo_v ?_) (fun c1 => hGo_x (by rw [if_neg (fun q => c1 q.1)] at h; exact h))
  refine G_aload_n dX8_seers_5 rfl ?_
  refine G_iload_n dX8_seers_6 rfl ?_
  refine cv_X8_200 (cs' := 0) (ss' := 0) dX8_seers_7  (Nat.le_of_ble_eq_true rfl) (Nat.le_of_ble_eq_true rfl) (Nat.le_of_ble_eq_true rfl) rfl rfl (Nat.le_of_ble_eq_true rfl) (Nat.le_of_ble_eq_true rfl) rfl ?_
  refine s_X8_needPupil hA (fun c2 => hGo_v ?_) (fun c2 => hGo_x (by rw [if_neg (fun q => c2 q.2)] at h; exact h))
  rw [if_pos ⟨c1, c2⟩] at h
  obtain ⟨p, hp, rfl, ep⟩ := in_ix c1 (by omega)
  obtain ⟨o, ho, rfl, eo⟩ := in_ix c2 (by omega)
  rw [ep, eo] at h
  refine G_iload_n dX8_seers_10 rfl ?_
  refine G_iload_n dX8_seers_11 rfl ?_
  refine G_icmp_ne (tgt := 26) dX8_seers_12 (by decide) (fun c12 => ?_) (fun c12 => ?_)
  · rw [if_pos c12] at h
    refine G_aload_n dX8_seers_26 rfl ?_
    refine gf_X8_26 dX8_seers_27  ?_
    refine G_iload_n dX8_seers_30 rfl ?_
    refine G_iload_n dX8_seers_31 rfl ?_
    refine cv_X8_309 (cs' := 0) (ss' := 0) dX8_seers_32 (by decide) (Nat.le_of_ble_eq_true rfl) (Nat.le_of_ble_eq_true rfl) (Nat.le_of_ble_eq_true rfl) rfl rfl (Nat.le_of_ble_eq_true rfl) (Nat.le_of_ble_eq_true rfl) rfl ?_
    refine s_X3_spiesWhoSee (by decide) hA hp ho (hGo_i ?_)
    refine cv_bc dX8_seers_35 (hqx 980 (by decide +kernel) rfl) (Nat.le_of_ble_eq_true rfl) (Nat.le_of_ble_eq_true rfl) (Nat.le_of_ble_eq_true rfl) (Nat.le_of_ble_eq_true rfl) (Nat.le_of_ble_eq_true rfl) rfl ?_
    refine G_iret dX8_seers_38 rfl rfl (Nat.le_of_ble_eq_true rfl) (Nat.le_of_ble_eq_true rfl) ?_
    exact h
  · rw [if_neg (fun q => q c12)] at h
    exact G_thrN h
def whyV (A : Ab) (p : Nat) : Int32 := if standV A p = 1 then 100 + A.f p 8 else if standV A p = 2 then 200 + (A.f p 6 + growV A p) else if standV A p = 3 then 300 + lackV A p else if standV A p = 4 then 400 + beyV A p else 500 + A.f p 5
def qWhy (g : Gs) (x y : Int32) : Qq := if inP g.A x then if inR y 0 1 then (0, if y = 0 then standV g.A (tn x) else whyV g.A (tn x)) else (2, 0) else (1, 0)
theorem standV_cases (A : Ab) (p : Nat) : standV A p = 1 ∨ standV A p = 2 ∨ standV A p = 3 ∨ standV A p = 4 ∨ standV A p = 5 := by
  unfold standV
  split
  · exact Or.inl rfl
  · split
    · exact Or.inr (Or.inl rfl)
    · split
      · exact Or.inr (Or.inr (Or.inl rfl))
      · split
        · exact Or.inr (Or.inr (Or.inr (Or.inr rfl)))
        · exact Or.inr (Or.inr (Or.inr (Or.inl rfl)))
theorem s_X8_why {x y : Int32} (hC : CG M g) (hO : Okg g) (h : P (rs xPA (qWhy g x y)) M) : Sp E yX8_why cX8_why zX8_why [.ref (ad E 0 0 0), .int x, .int y] M P := by
  unfold qWhy at h
  have hA := hC.1
  refine Sp_of (own := RX8) (by decide) rfl rfl (Nat.le_of_ble_eq_true rfl) (fun C => ?_)
  have h12 := hA.n12
  refine G_aload_n dX8_why_0 rfl ?_
  refine G_iload_n dX8_why_1 rfl ?_
  refine cv_X8_200 (cs' := 0) (ss' := 0) dX8_why_2  (Nat.le_of_ble_eq_true rfl) (Nat.le_of_ble_eq_true rfl) (Nat.le_of_ble_eq_true rfl) rfl rfl (Nat.le_of_ble_eq_true rfl) (Nat.le_of_ble_eq_true rfl) rfl ?_
  refine s_X8_needPupil hA (fun c1 => hGo_v ?_) (fun c1 => hGo_x (by rw [if_neg c1] at h; exact h))
  rw [if_pos c1] at h
  obtain ⟨p, hp, rfl, ep⟩ := in_ix c1 (by omega)
  rw [ep] at h
  refine G_iload_n dX8_why_5 rfl ?_
  refine G_iconst (v := 0) dX8_why_6 (by decide) ?_
  refine G_iconst (v := 1) dX8_why_7 (by decide) ?_
  refine cv_X8_86 (cs' := 0) (ss' := 0) dX8_why_8  (Nat.le_of_ble_eq_true rfl) (Nat.le_of_ble_eq_true rfl) (Nat.le_of_ble_eq_true rfl) rfl rfl (Nat.le_of_ble_eq_true rfl) (Nat.le_of_ble_eq_true rfl) rfl ?_
  refine s_X8_needRange (fun c2 => hGo_v ?_) (fun c2 => hGo_x (by rw [if_neg c2] at h; exact h))
  rw [if_pos c2] at h
  have hO1 := hO.1
  have hf := hA.f hp
  refine G_aload_n dX8_why_11 rfl ?_
  refine gf_X8_26 dX8_why_12  ?_
  refine gf_X8_203 dX8_why_15 (by decide) ?_
  refine G_iload_n dX8_why_18 rfl ?_
  refine G_aald dX8_why_19 ⟨by decide, rfl⟩ rfl rfl rfl (show p < 12 by omega) (by decide) rfl ?_
  refine G_astore_n dX8_why_20 (Nat.le_of_ble_eq_true rfl) ?_
  refine G_aload_n dX8_why_21 rfl ?_
  refine gf_X8_26 dX8_why_22  ?_
  refine G_aload_n dX8_why_25 rfl ?_
  refine cv_X8_312 (cs' := 0) (ss' := 0) dX8_why_26 (by decide) (Nat.le_of_ble_eq_true rfl) (Nat.le_of_ble_eq_true rfl) (Nat.le_of_ble_eq_true rfl) rfl rfl (Nat.le_of_ble_eq_true rfl) (Nat.le_of_ble_eq_true rfl) rfl ?_
  refine s_X3_standing (by decide) hA hp hO1.2.1.2.1 hO1.2.1.2.2 hO1.subj (hGo_i ?_)
  refine G_istore dX8_why_29 (Nat.le_of_ble_eq_true rfl) ?_
  refine G_iload_n dX8_why_31 rfl ?_
  refine G_if_ne (tgt := 38) dX8_why_32 (by decide) (fun c32 => ?_) (fun c32 => ?_)
  · rw [if_neg c32] at h
    unfold whyV at h
    rcases standV_cases g.A p with e | e | e | e | e
    · rw [e] at h ⊢
      rw [if_pos rfl] at h
      refine G_iload dX8_why_38 rfl ?_
      refine G_tIn (off := 32) (tgt := 72) dX8_why_40 (by decide) (by decide) rfl (by decide) ?_
      refine G_bipush (v := 100) dX8_why_72 (by decide) ?_
      refine G_aload_n dX8_why_74 rfl ?_
      refine gf_X8_231 dX8_why_75 (by decide) (show _ < 12 by omega) ?_
      rw [show M.1 12 0 p 9 = g.A.f p 8 from hf 8 (by decide)]
      refine G_iadd dX8_why_78 ?_
      refine G_iret dX8_why_79 rfl rfl (Nat.le_of_ble_eq_true rfl) (Nat.le_of_ble_eq_true rfl) ?_
      exact h
    · rw [e] at h ⊢
      rw [if_neg (by decide), if_pos rfl] at h
      refine G_iload dX8_why_38 rfl ?_
      refine G_tIn (off := 40) (tgt := 80) dX8_why_40 (by decide) (by decide) rfl (by decide) ?_
      refine G_sipush (v := 200) dX8_why_80 (by decide) ?_
      refine G_aload_n dX8_why_83 rfl ?_
      refine gf_X8_26 dX8_why_84  ?_
      refine G_aload_n dX8_why_87 rfl ?_
      refine cv_X8_316 (cs' := 0) (ss' := 0) dX8_why_88 (by decide) (Nat.le_of_ble_eq_true rfl) (Nat.le_of_ble_eq_true rfl) (Nat.le_of_ble_eq_true rfl) rfl rfl (Nat.le_of_ble_eq_true rfl) (Nat.le_of_ble_eq_true rfl) rfl ?_
      refine s_X3_proofLookedAt (by decide) hA hp hO1.2.1.2.1 hO1.2.1.2.2 (hGo_i ?_)
      refine G_iadd dX8_why_91 ?_
      refine G_iret dX8_why_92 rfl rfl (Nat.le_of_ble_eq_true rfl) (Nat.le_of_ble_eq_true rfl) ?_
      exact h
    · rw [e] at h ⊢
      rw [if_neg (by decide), if_neg (by decide), if_pos rfl] at h
      refine G_iload dX8_why_38 rfl ?_
      refine G_tIn (off := 53) (tgt := 93) dX8_why_40 (by decide) (by decide) rfl (by decide) ?_
      refine G_sipush (v := 300) dX8_why_93 (by decide) ?_
      refine G_aload_n dX8_why_96 rfl ?_
      refine gf_X8_26 dX8_why_97  ?_
      refine G_aload_n dX8_why_100 rfl ?_
      refine cv_X8_319 (cs' := 0) (ss' := 0) dX8_why_101 (by decide) (Nat.le_of_ble_eq_true rfl) (Nat.le_of_ble_eq_true rfl) (Nat.le_of_ble_eq_true rfl) rfl rfl (Nat.le_of_ble_eq_true rfl) (Nat.le_of_ble_eq_true rfl) rfl ?_
      refine s_X3_lacking (by decide) hA hp (hGo_i ?_)
      refine G_iadd dX8_why_104 ?_
      refine G_iret dX8_why_105 rfl rfl (Nat.le_of_ble_eq_true rfl) (Nat.le_of_ble_eq_true rfl) ?_
      exact h
    · rw [e] at h ⊢
      rw [if_neg (by decide), if_neg (by decide), if_neg (by decide), if_pos rfl] at h
      refine G_iload dX8_why_38 rfl ?_
      refine G_tIn (off := 66) (tgt := 106) dX8_why_40 (by decide) (by decide) rfl (by decide) ?_
      refine G_sipush (v := 400) dX8_why_106 (by decide) ?_
      refine G_aload_n dX8_why_109 rfl ?_
      refine gf_X8_26 dX8_why_110  ?_
      refine G_aload_n dX8_why_113 rfl ?_
      refine cv_X8_322 (cs' := 0) (ss' := 0) dX8_why_114 (by decide) (Nat.le_of_ble_eq_true rfl) (Nat.le_of_ble_eq_true rfl) (Nat.le_of_ble_eq_true rfl) rfl rfl (Nat.le_of_ble_eq_true rfl) (Nat.le_of_ble_eq_true rfl) rfl ?_
      refine s_X3_debtBeyondSatchel (by decide) hA hp hO1.subj (hGo_i ?_)
      refine G_iadd dX8_why_117 ?_
      refine G_iret dX8_why_118 rfl rfl (Nat.le_of_ble_eq_true rfl) (Nat.le_of_ble_eq_true rfl) ?_
      exact h
    · rw [e] at h ⊢
      rw [if_neg (by decide), if_neg (by decide), if_neg (by decide), if_neg (by decide)] at h
      refine G_iload dX8_why_38 rfl ?_
      refine G_tOut (tgt := 119) dX8_why_40 (by decide) (by decide) ?_
      refine G_sipush (v := 500) dX8_why_119 (by decide) ?_
      refine G_aload_n dX8_why_122 rfl ?_
      refine gf_X8_222 dX8_why_123 (by decide) (show _ < 12 by omega) ?_
      rw [show M.1 12 0 p 6 = g.A.f p 5 from hf 5 (by decide)]
      refine G_iadd dX8_why_126 ?_
      refine G_iret dX8_why_127 rfl rfl (Nat.le_of_ble_eq_true rfl) (Nat.le_of_ble_eq_true rfl) ?_
      exact h
  · rw [if_pos c32] at h
    refine G_iload dX8_why_35 rfl ?_
    refine G_iret dX8_why_37 rfl rfl (Nat.le_of_ble_eq_true rfl) (Nat.le_of_ble_eq_true rfl) ?_
    exact h
/-- the first with the most, among the first k -/
def bestV (f : Nat → Int32) : Nat → Nat
  | 0 => 0
  | k + 1 => if f (bestV f k) < f k then k else bestV f k
theorem bestV_1 {f : Nat → Int32} : bestV f 1 = 0 := ite_self _
theorem bestV_lt {f : Nat → Int32} : ∀ {k : Nat}, 0 < k → bestV f k < k
  | 0, h => absurd h (Nat.not_lt_zero 0)
  | 1, _ => by rw [bestV_1]; decide
  | k + 2, _ => by
    have := bestV_lt (f := f) (k := k + 1) (by omega)
    show (if f (bestV f (k + 1)) < f (k + 1) then k + 1 else bestV f (k + 1)) < k + 2
    split <;> omega
def meaV (A : Ab) (w p : Nat) : Int32 := if w = 0 then A.f p 7 else if w = 1 then A.f p 6 else if w = 2 then sm A.d.length (fun i => if dg A.d i 0 = nI p then dg A.d i 3 else 0) else if w = 3 then sm A.d.length (fun i => if dg A.d i 1 = nI p then dg A.d i 3 else 0) else nI (A.s (2 * p)).length + nI (A.s (2 * p + 1)).length
theorem s_X8_measure {p k : Nat} (hA : CR M 0 A) (hp : p < A.n) (hk : k < 5) (h : P (.inl (some (.int (meaV A k p)))) M) : Sp E yX8_measure cX8_measure zX8_measure [.ref (ad E 0 0 0), .int (nI p), .int (nI k)] M P := by
  have h12 := hA.n12
  have hf := hA.f hp
  unfold meaV at h
  refine Sp_of (own := RX8) (by decide) rfl rfl (Nat.le_of_ble_eq_true rfl) (fun C => ?_)
  refine G_iload_n dX8_measure_0 rfl ?_
  rcases (show k = 0 ∨ k = 1 ∨ k = 2 ∨ k = 3 ∨ k = 4 by omega) with rfl | rfl | rfl | rfl | rfl
  · refine G_tIn (off := 31) (tgt := 32) dX8_measure_1 (by decide) (by decide) rfl (by decide) ?_
    refine G_aload_n dX8_measure_32 rfl ?_
    refine gf_X8_26 dX8_measure_33  ?_
    refine gf_X8_203 dX8_measure_36 (by decide) ?_
    refine G_iload_n dX8_measure_39 rfl ?_
    refine G_aald dX8_measure_40 ⟨by decide, rfl⟩ rfl rfl rfl (show p < 12 by omega) (by decide) rfl ?_
    refine gf_X8_228 dX8_measure_41 (by decide) (show _ < 12 by omega) ?_
    rw [show M.1 12 0 p 8 = A.f p 7 from hf 7 (by decide)]
    refine G_iret dX8_measure_44 rfl rfl (Nat.le_of_ble_eq_true rfl) (Nat.le_of_ble_eq_true rfl) ?_
    exact h
  · refine G_tIn (off := 44) (tgt := 45) dX8_measure_1 (by decide) (by decide) rfl (by decide) ?_
    refine G_aload_n dX8_measure_45 rfl ?_
    refine gf_X8_26 dX8_measure_46  ?_
    refine gf_X8_203 dX8_measure_49 (by decide) ?_
    refine G_iload_n dX8_measure_52 rfl ?_
    refine G_aald dX8_measure_53 ⟨by decide, rfl⟩ rfl rfl rfl (show p < 12 by omega) (by decide) rfl ?_
    refine gf_X8_225 dX8_measure_54 (by decide) (show _ < 12 by omega) ?_
    rw [show M.1 12 0 p 7 = A.f p 6 from hf 6 (by decide)]
    refine G_iret dX8_measure_57 rfl rfl (Nat.le_of_ble_eq_true rfl) (Nat.le_of_ble_eq_true rfl) ?_
    exact h
  · refine G_tIn (off := 57) (tgt := 58) dX8_measure_1 (by decide) (by decide) rfl (by decide) ?_
    refine G_aload_n dX8_measure_58 rfl ?_
    refine gf_X8_26 dX8_measure_59  ?_
    refine gf_X8_174 dX8_measure_62 (by decide) ?_
    refine G_iload_n dX8_measure_65 rfl ?_
    refine cv_X8_244 (cs' := 0) (ss' := 0) dX8_measure_66 (by decide) (Nat.le_of_ble_eq_true rfl) (Nat.le_of_ble_eq_true rfl) (Nat.le_of_ble_eq_true rfl) rfl rfl (Nat.le_of_ble_eq_true rfl) (Nat.le_of_ble_eq_true rfl) rfl ?_
    refine s_X0_owedBy (by decide) hA.d (hGo_i ?_)
    refine G_iret dX8_measure_69 rfl rfl (Nat.le_of_ble_eq_true rfl) (Nat.le_of_ble_eq_true rfl) ?_
    exact h
  · refine G_tIn (off := 69) (tgt := 70) dX8_measure_1 (by decide) (by decide) rfl (by decide) ?_
    refine G_aload_n dX8_measure_70 rfl ?_
    refine gf_X8_26 dX8_measure_71  ?_
    refine gf_X8_174 dX8_measure_74 (by decide) ?_
    refine G_iload_n dX8_measure_77 rfl ?_
    refine cv_X8_247 (cs' := 0) (ss' := 0) dX8_measure_78 (by decide) (Nat.le_of_ble_eq_true rfl) (Nat.le_of_ble_eq_true rfl) (Nat.le_of_ble_eq_true rfl) rfl rfl (Nat.le_of_ble_eq_true rfl) (Nat.le_of_ble_eq_true rfl) rfl ?_
    refine s_X0_owedTo (by decide) hA.d (hGo_i ?_)
    refine G_iret dX8_measure_81 rfl rfl (Nat.le_of_ble_eq_true rfl) (Nat.le_of_ble_eq_true rfl) ?_
    exact h
  · refine G_tOut (tgt := 82) dX8_measure_1 (by decide) (by decide) ?_
    refine G_aload_n dX8_measure_82 rfl ?_
    refine gf_X8_26 dX8_measure_83  ?_
    refine gf_X8_203 dX8_measure_86 (by decide) ?_
    refine G_iload_n dX8_measure_89 rfl ?_
    refine G_aald dX8_measure_90 ⟨by decide, rfl⟩ rfl rfl rfl (show p < 12 by omega) (by decide) rfl ?_
    refine gf_X8_234 dX8_measure_91 (by decide) (show _ < 12 by omega) ?_
    refine gf_X8_238 dX8_measure_94 (by decide) (show _ < 24 by omega) ?_
    rw [show M.1 13 0 (2 * p) 1 = _ from (hA.s hp (t := 0) (by decide)).1]
    refine G_aload_n dX8_measure_97 rfl ?_
    refine gf_X8_26 dX8_measure_98  ?_
    refine gf_X8_203 dX8_measure_101 (by decide) ?_
    refine G_iload_n dX8_measure_104 rfl ?_
    refine G_aald dX8_measure_105 ⟨by decide, rfl⟩ rfl rfl rfl (show p < 12 by omega) (by decide) rfl ?_
    refine gf_X8_241 dX8_measure_106 (by decide) (show _ < 12 by omega) ?_
    refine gf_X8_238 dX8_measure_109 (by decide) (show _ < 24 by omega) ?_
    rw [(hA.s hp (t := 1) (by decide)).1]
    refine G_iadd dX8_measure_112 ?_
    refine G_iret dX8_measure_113 rfl rfl (Nat.le_of_ble_eq_true rfl) (Nat.le_of_ble_eq_true rfl) ?_
    exact h
def qMost (g : Gs) (x : Int32) : Qq := if inR x 0 4 then (0, nI (bestV (meaV g.A (tn x)) g.A.n)) else (1, 0)
theorem s_X8_most {x : Int32} (hC : CG M g) (hO : Okg g) (h : P (rs xA (qMost g x)) M) : Sp E yX8_most cX8_most zX8_most [.ref (ad E 0 0 0), .int x] M P := by
  unfold qMost at h
  have hA := hC.1
  have h12 := hA.n12
  have h2 := hO.1.1.1
  refine Sp_of (own := RX8) (by decide) rfl rfl (Nat.le_of_ble_eq_true rfl) (fun C => ?_)
  refine G_iload_n dX8_most_0 rfl ?_
  refine G_iconst (v := 0) dX8_most_1 (by decide) ?_
  refine G_iconst (v := 4) dX8_most_2 (by decide) ?_
  refine cv_X8_86 (cs' := 0) (ss' := 0) dX8_most_3  (Nat.le_of_ble_eq_true rfl) (Nat.le_of_ble_eq_true rfl) (Nat.le_of_ble_eq_true rfl) rfl rfl (Nat.le_of_ble_eq_true rfl) (Nat.le_of_ble_eq_true rfl) rfl ?_
  refine s_X8_needRange (fun c => hGo_v ?_) (fun c => hGo_x (by rw [if_neg c] at h; exact h))
  rw [if_pos c] at h
  obtain ⟨k, -, hk, rfl, ek⟩ := inR_ix (i := 0) (k := 4) (by decide) (by decide) c
  rw [ek] at h
  refine G_iconst (v := 0) dX8_most_6 (by decide) ?_
  refine G_istore_n dX8_most_7 (Nat.le_of_ble_eq_true rfl) ?_
  refine G_iconst (v := 1) dX8_most_8 (by decide) ?_
  refine G_istore_n dX8_most_9 (Nat.le_of_ble_eq_true rfl) ?_
  refine G_lv (lv' := [(0, .ref (ad E 0 0 0)), (1, .int (nI k)), (2, .int (nI (bestV (meaV g.A k) 1))), (3, .int (nI 1))]) ⟨rfl, rfl, lvi (by rw [bestV_1]; rfl), rfl, trivial⟩ ?_
  refine upTo (c := g.A.n) (H := fun i => 0 < i → G E C RX8 cX8_most zX8_most P 0 0 M 10 [(0, .ref (ad E 0 0 0)), (1, .int (nI k)), (2, .int (nI (bestV (meaV g.A k) i))), (3, .int (nI i))] []) (fun _ => ?_) (fun i hi ih h0 => ?_) 1 (by omega) (by decide)
  · refine G_iload_n dX8_most_10 rfl ?_
    refine G_aload_n dX8_most_11 rfl ?_
    refine gf_X8_26 dX8_most_12  ?_
    refine gf_X8_108 dX8_most_15 (by decide) ?_
    rw [hA.n]
    refine G_icmp_ge (tgt := 44) dX8_most_18 (by decide) (fun c18 => ?_) (fun c18 => ?_)
    · refine G_iload_n dX8_most_44 rfl ?_
      refine G_iret dX8_most_45 rfl rfl (Nat.le_of_ble_eq_true rfl) (Nat.le_of_ble_eq_true rfl) ?_
      exact h
    · exact absurd (Int32.le_refl _) c18
  · have hb := bestV_lt (f := meaV g.A k) h0
    refine G_iload_n dX8_most_10 rfl ?_
    refine G_aload_n dX8_most_11 rfl ?_
    refine gf_X8_26 dX8_most_12  ?_
    refine gf_X8_108 dX8_most_15 (by decide) ?_
    rw [hA.n]
    refine G_icmp_ge (tgt := 44) dX8_most_18 (by decide) (fun c18 => ?_) (fun c18 => ?_)
    · exact absurd c18 (nI_ge hi (by omega))
    · refine G_aload_n dX8_most_21 rfl ?_
      refine G_iload_n dX8_most_22 rfl ?_
      refine G_iload_n dX8_most_23 rfl ?_
      refine cv_X8_325 (cs' := 0) (ss' := 0) dX8_most_24  (Nat.le_of_ble_eq_true rfl) (Nat.le_of_ble_eq_true rfl) (Nat.le_of_ble_eq_true rfl) rfl rfl (Nat.le_of_ble_eq_true rfl) (Nat.le_of_ble_eq_true rfl) rfl ?_
      refine s_X8_measure hA hi (by omega) (hGo_i ?_)
      refine G_aload_n dX8_most_27 rfl ?_
      refine G_iload_n dX8_most_28 rfl ?_
      refine G_iload_n dX8_most_29 rfl ?_
      refine cv_X8_325 (cs' := 0) (ss' := 0) dX8_most_30  (Nat.le_of_ble_eq_true rfl) (Nat.le_of_ble_eq_true rfl) (Nat.le_of_ble_eq_true rfl) rfl rfl (Nat.le_of_ble_eq_true rfl) (Nat.le_of_ble_eq_true rfl) rfl ?_
      refine s_X8_measure hA (by omega) (by omega) (hGo_i ?_)
      refine G_icmp_le (tgt := 38) dX8_most_33 (by decide) (fun c33 => ?_) (fun c33 => ?_)
      · refine G_iinc (v := 1) dX8_most_38 rfl (Nat.le_of_ble_eq_true rfl) (by decide) ?_
        refine G_goto (tgt := 10) dX8_most_41 (by decide) ?_
        refine G_lv2 (ih (by omega)) ⟨rfl, rfl, lvi ?_, lvi (nI_1 i), trivial⟩
        exact congrArg nI (if_neg (Int32.not_lt.mpr c33)).symm
      · refine G_iload_n dX8_most_36 rfl ?_
        refine G_istore_n dX8_most_37 (Nat.le_of_ble_eq_true rfl) ?_
        refine G_iinc (v := 1) dX8_most_38 rfl (Nat.le_of_ble_eq_true rfl) (by decide) ?_
        refine G_goto (tgt := 10) dX8_most_41 (by decide) ?_
        refine G_lv2 (ih (by omega)) ⟨rfl, rfl, lvi ?_, lvi (nI_1 i), trivial⟩
        exact congrArg nI (if_pos (Int32.not_le.mp c33)).symm
def qRanked (g : Gs) (x y : Int32) : Qq := if inR x 0 1 then (0, first g.A.n (fun i => decide (rankV g.A i (tn x) = y))) else (1, 0)
theorem s_X8_ranked {x y : Int32} (hC : CG M g) (h : P (rs xA (qRanked g x y)) M) : Sp E yX8_ranked cX8_ranked zX8_ranked [.ref (ad E 0 0 0), .int x, .int y] M P := by
  unfold qRanked at h
  have hA := hC.1
  have h12 := hA.n12
  refine Sp_of (own := RX8) (by decide) rfl rfl (Nat.le_of_ble_eq_true rfl) (fun C => ?_)
  refine G_iload_n dX8_ranked_0 rfl ?_
  refine cv_X8_260 (cs' := 0) (ss' := 0) dX8_ranked_1  (Nat.le_of_ble_eq_true rfl) (Nat.le_of_ble_eq_true rfl) (Nat.le_of_ble_eq_true rfl) rfl rfl (Nat.le_of_ble_eq_true rfl) (Nat.le_of_ble_eq_true rfl) rfl ?_
  refine s_X8_needSubject (fun c => hGo_v ?_) (fun c => hGo_x (by rw [if_neg c] at h; exact h))
  rw [if_pos c] at h
  obtain ⟨s, -, hs, rfl, es⟩ := inR_ix (i := 0) (k := 1) (by decide) (by decide) c
  rw [es] at h
  refine G_iconst (v := 0) dX8_ranked_4 (by decide) ?_
  refine G_istore_n dX8_ranked_5 (Nat.le_of_ble_eq_true rfl) ?_
  refine G_lv (lv' := [(0, .ref (ad E 0 0 0)), (1, .int (nI s)), (2, .int y), (3, .int (nI 0))]) ⟨rfl, rfl, rfl, rfl, trivial⟩ ?_
  refine up0 (c := g.A.n) (H := fun i => (∀ k, k < i → decide (rankV g.A k s = y) = false) → G E C RX8 cX8_ranked zX8_ranked P 0 0 M 6 [(0, .ref (ad E 0 0 0)), (1, .int (nI s)), (2, .int y), (3, .int (nI i))] []) (fun hno => ?_) (fun i hi ih hno => ?_) (fun k hk => absurd hk (Nat.not_lt_zero k))
  · refine G_iload_n dX8_ranked_6 rfl ?_
    refine G_aload_n dX8_ranked_7 rfl ?_
    refine gf_X8_26 dX8_ranked_8  ?_
    refine gf_X8_108 dX8_ranked_11 (by decide) ?_
    rw [hA.n]
    refine G_icmp_ge (tgt := 38) dX8_ranked_14 (by decide) (fun c14 => ?_) (fun c14 => ?_)
    · refine G_iconst (v := (-1)) dX8_ranked_38 (by decide) ?_
      refine G_iret dX8_ranked_39 rfl rfl (Nat.le_of_ble_eq_true rfl) (Nat.le_of_ble_eq_true rfl) ?_
      rw [first_none hno] at h
      exact h
    · exact absurd (Int32.le_refl _) c14
  · refine G_iload_n dX8_ranked_6 rfl ?_
    refine G_aload_n dX8_ranked_7 rfl ?_
    refine gf_X8_26 dX8_ranked_8  ?_
    refine gf_X8_108 dX8_ranked_11 (by decide) ?_
    rw [hA.n]
    refine G_icmp_ge (tgt := 38) dX8_ranked_14 (by decide) (fun c14 => ?_) (fun c14 => ?_)
    · exact absurd c14 (nI_ge hi (by omega))
    · refine G_aload_n dX8_ranked_17 rfl ?_
      refine gf_X8_26 dX8_ranked_18  ?_
      refine G_iload_n dX8_ranked_21 rfl ?_
      refine G_iload_n dX8_ranked_22 rfl ?_
      refine cv_X8_328 (cs' := 0) (ss' := 0) dX8_ranked_23 (by decide) (Nat.le_of_ble_eq_true rfl) (Nat.le_of_ble_eq_true rfl) (Nat.le_of_ble_eq_true rfl) rfl rfl (Nat.le_of_ble_eq_true rfl) (Nat.le_of_ble_eq_true rfl) rfl ?_
      refine s_X3_rank (by decide) hA hi (by omega) (hGo_i ?_)
      refine G_iload_n dX8_ranked_26 rfl ?_
      refine G_icmp_ne (tgt := 32) dX8_ranked_27 (by decide) (fun c27 => ?_) (fun c27 => ?_)
      · refine G_iinc (v := 1) dX8_ranked_32 rfl (Nat.le_of_ble_eq_true rfl) (by decide) ?_
        refine G_goto (tgt := 6) dX8_ranked_35 (by decide) ?_
        refine G_lv2 (ih (fun k hk => ?_)) ⟨rfl, rfl, rfl, lvi (nI_1 i), trivial⟩
        by_cases e : k = i
        · subst e
          exact decide_eq_false c27
        · exact hno k (by omega)
      · refine G_iload_n dX8_ranked_30 rfl ?_
        refine G_iret dX8_ranked_31 rfl rfl (Nat.le_of_ble_eq_true rfl) (Nat.le_of_ble_eq_true rfl) ?_
        rw [first_at hi hno (decide_eq_true c27)] at h
        exact h
def qMostOf (g : Gs) (x : Int32) : Qq := if inR x 0 1 then (0, nI (bestV (fun p => nI (g.A.s (2 * p + tn x)).length) g.A.n)) else (1, 0)
theorem s_X8_mostOf {x : Int32} (hC : CG M g) (hO : Okg g) (h : P (rs xA (qMostOf g x)) M) : Sp E yX8_mostOf cX8_mostOf zX8_mostOf [.ref (ad E 0 0 0), .int x] M P := by
  unfold qMostOf at h
  have hA := hC.1
  have h12 := hA.n12
  have h2 := hO.1.1.1
  refine Sp_of (own := RX8) (by decide) rfl rfl (Nat.le_of_ble_eq_true rfl) (fun C => ?_)
  refine G_iload_n dX8_mostOf_0 rfl ?_
  refine cv_X8_260 (cs' := 0) (ss' := 0) dX8_mostOf_1  (Nat.le_of_ble_eq_true rfl) (Nat.le_of_ble_eq_true rfl) (Nat.le_of_ble_eq_true rfl) rfl rfl (Nat.le_of_ble_eq_true rfl) (Nat.le_of_ble_eq_true rfl) rfl ?_
  refine s_X8_needSubject (fun c => hGo_v ?_) (fun c => hGo_x (by rw [if_neg c] at h; exact h))
  rw [if_pos c] at h
  obtain ⟨s, -, hs, rfl, es⟩ := inR_ix (i := 0) (k := 1) (by decide) (by decide) c
  rw [es] at h
  refine G_iconst (v := 0) dX8_mostOf_4 (by decide) ?_
  refine G_istore_n dX8_mostOf_5 (Nat.le_of_ble_eq_true rfl) ?_
  refine G_iconst (v := 1) dX8_mostOf_6 (by decide) ?_
  refine G_istore_n dX8_mostOf_7 (Nat.le_of_ble_eq_true rfl) ?_
  refine G_lv (lv' := [(0, .ref (ad E 0 0 0)), (1, .int (nI s)), (2, .int (nI (bestV (fun p => nI (g.A.s (2 * p + s)).length) 1))), (3, .int (nI 1))]) ⟨rfl, rfl, lvi (by rw [bestV_1]; rfl), rfl, trivial⟩ ?_
  refine upTo (c := g.A.n) (H := fun i => 0 < i → G E C RX8 cX8_mostOf zX8_mostOf P 0 0 M 8 [(0, .ref (ad E 0 0 0)), (1, .int (nI s)), (2, .int (nI (bestV (fun p => nI (g.A.s (2 * p + s)).length) i))), (3, .int (nI i))] []) (fun _ => ?_) (fun i hi ih h0 => ?_) 1 (by omega) (by decide)
  · refine G_iload_n dX8_mostOf_8 rfl ?_
    refine G_aload_n dX8_mostOf_9 rfl ?_
    refine gf_X8_26 dX8_mostOf_10  ?_
    refine gf_X8_108 dX8_mostOf_13 (by decide) ?_
    rw [hA.n]
    refine G_icmp_ge (tgt := 62) dX8_mostOf_16 (by decide) (fun c16 => ?_) (fun c16 => ?_)
    · refine G_iload_n dX8_mostOf_62 rfl ?_
      refine G_iret dX8_mostOf_63 rfl rfl (Nat.le_of_ble_eq_true rfl) (Nat.le_of_ble_eq_true rfl) ?_
      exact h
    · exact absurd (Int32.le_refl _) c16
  · have hb := bestV_lt (f := fun p => nI (g.A.s (2 * p + s)).length) h0
    refine G_iload_n dX8_mostOf_8 rfl ?_
    refine G_aload_n dX8_mostOf_9 rfl ?_
    refine gf_X8_26 dX8_mostOf_10  ?_
    refine gf_X8_108 dX8_mostOf_13 (by decide) ?_
    rw [hA.n]
    refine G_icmp_ge (tgt := 62) dX8_mostOf_16 (by decide) (fun c16 => ?_) (fun c16 => ?_)
    · exact absurd c16 (nI_ge hi (by omega))
    · refine G_aload_n dX8_mostOf_19 rfl ?_
      refine gf_X8_26 dX8_mostOf_20  ?_
      refine gf_X8_203 dX8_mostOf_23 (by decide) ?_
      refine G_iload_n dX8_mostOf_26 rfl ?_
      refine G_aald dX8_mostOf_27 ⟨by decide, rfl⟩ rfl rfl rfl (show i < 12 by omega) (by decide) rfl ?_
      refine G_iload_n dX8_mostOf_28 rfl ?_
      refine cv_X8_263 (cs' := 0) (ss' := 0) dX8_mostOf_29 (by decide) (show _ < 12 by omega) (Nat.le_of_ble_eq_true rfl) (Nat.le_of_ble_eq_true rfl) (Nat.le_of_ble_eq_true rfl) rfl rfl (Nat.le_of_ble_eq_true rfl) (Nat.le_of_ble_eq_true rfl) rfl ?_
      refine s_X1_satchel (by decide) (by omega) (by omega) (hGo_a ?_)
      refine gf_X8_238 dX8_mostOf_32 (by decide) (show _ < 24 by omega) ?_
      rw [(hA.s hi (t := s) (by omega)).1]
      refine G_aload_n dX8_mostOf_35 rfl ?_
      refine gf_X8_26 dX8_mostOf_36  ?_
      refine gf_X8_203 dX8_mostOf_39 (by decide) ?_
      refine G_iload_n dX8_mostOf_42 rfl ?_
      refine G_aald dX8_mostOf_43 ⟨by decide, rfl⟩ rfl rfl rfl (show bestV (fun p => nI (g.A.s (2 * p + s)).length) i < 12 by omega) (by decide) rfl ?_
      refine G_iload_n dX8_mostOf_44 rfl ?_
      refine cv_X8_263 (cs' := 0) (ss' := 0) dX8_mostOf_45 (by decide) (show _ < 12 by omega) (Nat.le_of_ble_eq_true rfl) (Nat.le_of_ble_eq_true rfl) (Nat.le_of_ble_eq_true rfl) rfl rfl (Nat.le_of_ble_eq_true rfl) (Nat.le_of_ble_eq_true rfl) rfl ?_
      refine s_X1_satchel (by decide) (by omega) (by omega) (hGo_a ?_)
      refine gf_X8_238 dX8_mostOf_48 (by decide) (show _ < 24 by omega) ?_
      rw [(hA.s (p := bestV (fun p => nI (g.A.s (2 * p + s)).length) i) (by omega) (t := s) (by omega)).1]
      refine G_icmp_le (tgt := 56) dX8_mostOf_51 (by decide) (fun c51 => ?_) (fun c51 => ?_)
      · refine G_iinc (v := 1) dX8_mostOf_56 rfl (Nat.le_of_ble_eq_true rfl) (by decide) ?_
        refine G_goto (tgt := 8) dX8_mostOf_59 (by decide) ?_
        refine G_lv2 (ih (by omega)) ⟨rfl, rfl, lvi ?_, lvi (nI_1 i), trivial⟩
        exact congrArg nI (if_neg (Int32.not_lt.mpr c51)).symm
      · refine G_iload_n dX8_mostOf_54 rfl ?_
        refine G_istore_n dX8_mostOf_55 (Nat.le_of_ble_eq_true rfl) ?_
        refine G_iinc (v := 1) dX8_mostOf_56 rfl (Nat.le_of_ble_eq_true rfl) (by decide) ?_
        refine G_goto (tgt := 8) dX8_mostOf_59 (by decide) ?_
        refine G_lv2 (ih (by omega)) ⟨rfl, rfl, lvi ?_, lvi (nI_1 i), trivial⟩
        exact congrArg nI (if_pos (Int32.not_le.mp c51)).symm
def qMakers (g : Gs) (x y : Int32) : Qq := if inP g.A x then if inR y 0 1 then (0, bc (bitsL (g.A.s (2 * tn x + tn y)) (-1) (g.A.s (2 * tn x + tn y)).length)) else (2, 0) else (1, 0)
theorem s_X8_makers {x y : Int32} (hC : CG M g) (h : P (rs xPA (qMakers g x y)) M) : Sp E yX8_makers cX8_makers zX8_makers [.ref (ad E 0 0 0), .int x, .int y] M P := by
  unfold qMakers at h
  have hA := hC.1
  refine Sp_of (own := RX8) (by decide) rfl rfl (Nat.le_of_ble_eq_true rfl) (fun C => ?_)
  have h12 := hA.n12
  refine G_aload_n dX8_makers_0 rfl ?_
  refine G_iload_n dX8_makers_1 rfl ?_
  refine cv_X8_200 (cs' := 0) (ss' := 0) dX8_makers_2  (Nat.le_of_ble_eq_true rfl) (Nat.le_of_ble_eq_true rfl) (Nat.le_of_ble_eq_true rfl) rfl rfl (Nat.le_of_ble_eq_true rfl) (Nat.le_of_ble_eq_true rfl) rfl ?_
  refine s_X8_needPupil hA (fun c1 => hGo_v ?_) (fun c1 => hGo_x (by rw [if_neg c1] at h; exact h))
  rw [if_pos c1] at h
  obtain ⟨p, hp, rfl, ep⟩ := in_ix c1 (by omega)
  rw [ep] at h
  refine G_iload_n dX8_makers_5 rfl ?_
  refine cv_X8_260 (cs' := 0) (ss' := 0) dX8_makers_6  (Nat.le_of_ble_eq_true rfl) (Nat.le_of_ble_eq_true rfl) (Nat.le_of_ble_eq_true rfl) rfl rfl (Nat.le_of_ble_eq_true rfl) (Nat.le_of_ble_eq_true rfl) rfl ?_
  refine s_X8_needSubject (fun c2 => hGo_v ?_) (fun c2 => hGo_x (by rw [if_neg c2] at h; exact h))
  rw [if_pos c2] at h
  obtain ⟨s, -, hs, rfl, es⟩ := inR_ix (i := 0) (k := 1) (by decide) (by decide) c2
  rw [es] at h
  refine G_aload_n dX8_makers_9 rfl ?_
  refine gf_X8_26 dX8_makers_10  ?_
  refine gf_X8_203 dX8_makers_13 (by decide) ?_
  refine G_iload_n dX8_makers_16 rfl ?_
  refine G_aald dX8_makers_17 ⟨by decide, rfl⟩ rfl rfl rfl (show p < 12 by omega) (by decide) rfl ?_
  refine G_iload_n dX8_makers_18 rfl ?_
  refine cv_X8_263 (cs' := 0) (ss' := 0) dX8_makers_19 (by decide) (show _ < 12 by omega) (Nat.le_of_ble_eq_true rfl) (Nat.le_of_ble_eq_true rfl) (Nat.le_of_ble_eq_true rfl) rfl rfl (Nat.le_of_ble_eq_true rfl) (Nat.le_of_ble_eq_true rfl) rfl ?_
  refine s_X1_satchel (by decide) (by omega) (by omega) (hGo_a ?_)
  refine cv_X8_331 (cs' := 0) (ss' := 0) dX8_makers_22 (by decide) (show _ < 24 by omega) (Nat.le_of_ble_eq_true rfl) (Nat.le_of_ble_eq_true rfl) (Nat.le_of_ble_eq_true rfl) rfl rfl (Nat.le_of_ble_eq_true rfl) (Nat.le_of_ble_eq_true rfl) rfl ?_
  refine s_X2_differentMakers (by decide) (by omega) (hA.s hp (by omega)) (hGo_i ?_)
  refine G_iret dX8_makers_25 rfl rfl (Nat.le_of_ble_eq_true rfl) (Nat.le_of_ble_eq_true rfl) ?_
  exact h
def qNeeds (g : Gs) (x y : Int32) : Qq := if inP g.A x then if inR y 0 1 then (0, g.A.g (4 + tn y) - hdV g.A (tn x) (tn y)) else (2, 0) else (1, 0)
theorem s_X8_needs {x y : Int32} (hC : CG M g) (h : P (rs xPA (qNeeds g x y)) M) : Sp E yX8_needs cX8_needs zX8_needs [.ref (ad E 0 0 0), .int x, .int y] M P := by
  unfold qNeeds at h
  have hA := hC.1
  refine Sp_of (own := RX8) (by decide) rfl rfl (Nat.le_of_ble_eq_true rfl) (fun C => ?_)
  have h12 := hA.n12
  refine G_aload_n dX8_needs_0 rfl ?_
  refine G_iload_n dX8_needs_1 rfl ?_
  refine cv_X8_200 (cs' := 0) (ss' := 0) dX8_needs_2  (Nat.le_of_ble_eq_true rfl) (Nat.le_of_ble_eq_true rfl) (Nat.le_of_ble_eq_true rfl) rfl rfl (Nat.le_of_ble_eq_true rfl) (Nat.le_of_ble_eq_true rfl) rfl ?_
  refine s_X8_needPupil hA (fun c1 => hGo_v ?_) (fun c1 => hGo_x (by rw [if_neg c1] at h; exact h))
  rw [if_pos c1] at h
  obtain ⟨p, hp, rfl, ep⟩ := in_ix c1 (by omega)
  rw [ep] at h
  refine G_iload_n dX8_needs_5 rfl ?_
  refine cv_X8_260 (cs' := 0) (ss' := 0) dX8_needs_6  (Nat.le_of_ble_eq_true rfl) (Nat.le_of_ble_eq_true rfl) (Nat.le_of_ble_eq_true rfl) rfl rfl (Nat.le_of_ble_eq_true rfl) (Nat.le_of_ble_eq_true rfl) rfl ?_
  refine s_X8_needSubject (fun c2 => hGo_v ?_) (fun c2 => hGo_x (by rw [if_neg c2] at h; exact h))
  rw [if_pos c2] at h
  obtain ⟨s, -, hs, rfl, es⟩ := inR_ix (i := 0) (k := 1) (by decide) (by decide) c2
  rw [es] at h
  refine G_aload_n dX8_needs_9 rfl ?_
  refine gf_X8_26 dX8_needs_10  ?_
  refine G_aload_n dX8_needs_13 rfl ?_
  refine gf_X8_26 dX8_needs_14  ?_
  refine gf_X8_203 dX8_needs_17 (by decide) ?_
  refine G_iload_n dX8_needs_20 rfl ?_
  refine G_aald dX8_needs_21 ⟨by decide, rfl⟩ rfl rfl rfl (show p < 12 by omega) (by decide) rfl ?_
  refine G_iload_n dX8_needs_22 rfl ?_
  refine cv_X8_334 (cs' := 0) (ss' := 0) dX8_needs_23 (by decide) (Nat.le_of_ble_eq_true rfl) (Nat.le_of_ble_eq_true rfl) (Nat.le_of_ble_eq_true rfl) rfl rfl (Nat.le_of_ble_eq_true rfl) (Nat.le_of_ble_eq_true rfl) rfl ?_
  refine s_X3_lackingOf (by decide) hA hp (by omega) (hGo_i ?_)
  refine G_iret dX8_needs_26 rfl rfl (Nat.le_of_ble_eq_true rfl) (Nat.le_of_ble_eq_true rfl) ?_
  exact h
def qNearTo (g : Gs) (x y : Int32) : Qq := if inP g.A x then (0, lowV (nearsV g.A (tn x)) y) else (1, 0)
theorem s_X8_nearTo {x y : Int32} (hC : CG M g) (h : P (rs xP (qNearTo g x y)) M) : Sp E yX8_nearTo cX8_nearTo zX8_nearTo [.ref (ad E 0 0 0), .int x, .int y] M P := by
  unfold qNearTo at h
  have hA := hC.1
  refine Sp_of (own := RX8) (by decide) rfl rfl (Nat.le_of_ble_eq_true rfl) (fun C => ?_)
  have h12 := hA.n12
  refine G_aload_n dX8_nearTo_0 rfl ?_
  refine G_iload_n dX8_nearTo_1 rfl ?_
  refine cv_X8_200 (cs' := 0) (ss' := 0) dX8_nearTo_2  (Nat.le_of_ble_eq_true rfl) (Nat.le_of_ble_eq_true rfl) (Nat.le_of_ble_eq_true rfl) rfl rfl (Nat.le_of_ble_eq_true rfl) (Nat.le_of_ble_eq_true rfl) rfl ?_
  refine s_X8_needPupil hA (fun c1 => hGo_v ?_) (fun c1 => hGo_x (by rw [if_neg c1] at h; exact h))
  rw [if_pos c1] at h
  obtain ⟨p, hp, rfl, ep⟩ := in_ix c1 (by omega)
  rw [ep] at h
  refine G_aload_n dX8_nearTo_5 rfl ?_
  refine gf_X8_26 dX8_nearTo_6  ?_
  refine G_iload_n dX8_nearTo_9 rfl ?_
  refine cv_X8_338 (cs' := 0) (ss' := 0) dX8_nearTo_10 (by decide) (Nat.le_of_ble_eq_true rfl) (Nat.le_of_ble_eq_true rfl) (Nat.le_of_ble_eq_true rfl) rfl rfl (Nat.le_of_ble_eq_true rfl) (Nat.le_of_ble_eq_true rfl) rfl ?_
  refine s_X3_pupilsNear (by decide) hA hp (hGo_i ?_)
  refine G_iload_n dX8_nearTo_13 rfl ?_
  refine cv_X8_297 (cs' := 0) (ss' := 0) dX8_nearTo_14  (Nat.le_of_ble_eq_true rfl) (Nat.le_of_ble_eq_true rfl) (Nat.le_of_ble_eq_true rfl) rfl rfl (Nat.le_of_ble_eq_true rfl) (Nat.le_of_ble_eq_true rfl) rfl ?_
  refine s_X8_lowest (hGo_i ?_)
  refine G_iret dX8_nearTo_17 rfl rfl (Nat.le_of_ble_eq_true rfl) (Nat.le_of_ble_eq_true rfl) ?_
  exact h
def qDebtOf (g : Gs) (x y : Int32) : Qq := if inP g.A x then (0, debtOfV g.A.d x y) else (1, 0)
theorem s_X8_debtOf {x y : Int32} (hC : CG M g) (h : P (rs xP (qDebtOf g x y)) M) : Sp E yX8_debtOf cX8_debtOf zX8_debtOf [.ref (ad E 0 0 0), .int x, .int y] M P := by
  unfold qDebtOf at h
  have hA := hC.1
  refine Sp_of (own := RX8) (by decide) rfl rfl (Nat.le_of_ble_eq_true rfl) (fun C => ?_)
  refine G_aload_n dX8_debtOf_0 rfl ?_
  refine G_iload_n dX8_debtOf_1 rfl ?_
  refine cv_X8_200 (cs' := 0) (ss' := 0) dX8_debtOf_2  (Nat.le_of_ble_eq_true rfl) (Nat.le_of_ble_eq_true rfl) (Nat.le_of_ble_eq_true rfl) rfl rfl (Nat.le_of_ble_eq_true rfl) (Nat.le_of_ble_eq_true rfl) rfl ?_
  refine s_X8_needPupil hA (fun c1 => hGo_v ?_) (fun c1 => hGo_x (by rw [if_neg c1] at h; exact h))
  rw [if_pos c1] at h
  refine G_aload_n dX8_debtOf_5 rfl ?_
  refine gf_X8_26 dX8_debtOf_6  ?_
  refine gf_X8_174 dX8_debtOf_9 (by decide) ?_
  refine G_iload_n dX8_debtOf_12 rfl ?_
  refine G_iload_n dX8_debtOf_13 rfl ?_
  refine cv_X8_341 (cs' := 0) (ss' := 0) dX8_debtOf_14 (by decide) (Nat.le_of_ble_eq_true rfl) (Nat.le_of_ble_eq_true rfl) (Nat.le_of_ble_eq_true rfl) rfl rfl (Nat.le_of_ble_eq_true rfl) (Nat.le_of_ble_eq_true rfl) rfl ?_
  refine s_X0_debtOwedBy (by decide) hA.d (hGo_i ?_)
  refine G_iret dX8_debtOf_17 rfl rfl (Nat.le_of_ble_eq_true rfl) (Nat.le_of_ble_eq_true rfl) ?_
  exact h
def canPayV (A : Ab) (i : Nat) : Int32 := if dg A.d i 3 ≤ 20 ∧ rPay A (tn (dg A.d i 0)) (tn (dg A.d i 1)) (tn (dg A.d i 2)) (tn (dg A.d i 3)) = 0 then 1 else 0
def qCanPay (g : Gs) (x : Int32) : Qq := if inD g.A x then (0, canPayV g.A (tn x)) else (1, 0)
theorem s_X8_canPay {x : Int32} (hC : CG M g) (hO : Okg g) (h : P (rs xP (qCanPay g x)) M) : Sp E yX8_canPay cX8_canPay zX8_canPay [.ref (ad E 0 0 0), .int x] M P := by
  unfold qCanPay at h
  have hA := hC.1
  have h30 := hA.d.2.1
  have h12 := hA.n12
  refine Sp_of (own := RX8) (by decide) rfl rfl (Nat.le_of_ble_eq_true rfl) (fun C => ?_)
  refine G_aload_n dX8_canPay_0 rfl ?_
  refine G_iload_n dX8_canPay_1 rfl ?_
  refine cv_X8_273 (cs' := 0) (ss' := 0) dX8_canPay_2  (Nat.le_of_ble_eq_true rfl) (Nat.le_of_ble_eq_true rfl) (Nat.le_of_ble_eq_true rfl) rfl rfl (Nat.le_of_ble_eq_true rfl) (Nat.le_of_ble_eq_true rfl) rfl ?_
  refine s_X8_needDebt hA (fun c1 => hGo_v ?_) (fun c1 => hGo_x (by rw [if_neg c1] at h; exact h))
  rw [if_pos c1] at h
  obtain ⟨i, hi, rfl, ei⟩ := in_ix c1 (by omega)
  rw [ei] at h
  unfold canPayV at h
  have hd := hA.d.2.2 i hi
  obtain ⟨⟨p, hp, ep⟩, ⟨o, ho, eo⟩, ⟨s, hs, es⟩, v, v1, v2, ev⟩ := hO.1.2.2.2.2.2.1 i hi
  rw [ep, eo, es, ev, tn_nI (by omega), tn_nI (by omega), tn_nI (by omega), tn_nI (by omega)] at h
  refine G_aload_n dX8_canPay_5 rfl ?_
  refine gf_X8_26 dX8_canPay_6  ?_
  refine gf_X8_174 dX8_canPay_9 (by decide) ?_
  refine G_astore_n dX8_canPay_12 (Nat.le_of_ble_eq_true rfl) ?_
  refine G_aload_n dX8_canPay_13 rfl ?_
  refine gf_X8_285 dX8_canPay_14 (by decide) ?_
  refine G_iload_n dX8_canPay_17 rfl ?_
  refine G_iald dX8_canPay_18 ⟨by decide, by decide⟩ rfl rfl (show i < 30 by omega) (by decide) ?_
  rw [hd 3 (by decide), ev]
  refine G_istore_n dX8_canPay_19 (Nat.le_of_ble_eq_true rfl) ?_
  refine G_iload_n dX8_canPay_20 rfl ?_
  refine G_bipush (v := 20) dX8_canPay_21 (by decide) ?_
  refine G_icmp_gt (tgt := 59) dX8_canPay_23 (by decide) (fun c23 => ?_) (fun c23 => ?_)
  · rw [if_neg (fun q => absurd c23 (Int32.not_lt.mpr q.1))] at h
    refine G_iconst (v := 0) dX8_canPay_59 (by decide) ?_
    refine G_iret dX8_canPay_60 rfl rfl (Nat.le_of_ble_eq_true rfl) (Nat.le_of_ble_eq_true rfl) ?_
    exact h
  · refine G_aload_n dX8_canPay_26 rfl ?_
    refine gf_X8_26 dX8_canPay_27  ?_
    refine G_aload_n dX8_canPay_30 rfl ?_
    refine gf_X8_276 dX8_canPay_31 (by decide) ?_
    refine G_iload_n dX8_canPay_34 rfl ?_
    refine G_iald dX8_canPay_35 ⟨by decide, by decide⟩ rfl rfl (show i < 30 by omega) (by decide) ?_
    rw [hd 0 (by decide), ep]
    refine G_aload_n dX8_canPay_36 rfl ?_
    refine gf_X8_279 dX8_canPay_37 (by decide) ?_
    refine G_iload_n dX8_canPay_40 rfl ?_
    refine G_iald dX8_canPay_41 ⟨by decide, by decide⟩ rfl rfl (show i < 30 by omega) (by decide) ?_
    rw [hd 1 (by decide), eo]
    refine G_aload_n dX8_canPay_42 rfl ?_
    refine gf_X8_282 dX8_canPay_43 (by decide) ?_
    refine G_iload_n dX8_canPay_46 rfl ?_
    refine G_iald dX8_canPay_47 ⟨by decide, by decide⟩ rfl rfl (show i < 30 by omega) (by decide) ?_
    rw [hd 2 (by decide), es]
    refine G_iload_n dX8_canPay_48 rfl ?_
    refine cv_X8_344 (cs' := 0) (ss' := 0) dX8_canPay_49 (by decide) (Nat.le_of_ble_eq_true rfl) (Nat.le_of_ble_eq_true rfl) (Nat.le_of_ble_eq_true rfl) rfl rfl (Nat.le_of_ble_eq_true rfl) (Nat.le_of_ble_eq_true rfl) rfl ?_
    refine s_X3_reasonAgainstPaying (by decide) hA hp ho hs (hGo_i ?_)
    refine G_if_ne (tgt := 59) dX8_canPay_52 (by decide) (fun c52 => ?_) (fun c52 => ?_)
    · rw [if_neg (fun q => c52 q.2)] at h
      refine G_iconst (v := 0) dX8_canPay_59 (by decide) ?_
      refine G_iret dX8_canPay_60 rfl rfl (Nat.le_of_ble_eq_true rfl) (Nat.le_of_ble_eq_true rfl) ?_
      exact h
    · rw [if_pos ⟨Int32.not_lt.mp c23, c52⟩] at h
      refine G_iconst (v := 1) dX8_canPay_55 (by decide) ?_
      refine G_goto (tgt := 60) dX8_canPay_56 (by decide) ?_
      refine G_iret dX8_canPay_60 rfl rfl (Nat.le_of_ble_eq_true rfl) (Nat.le_of_ble_eq_true rfl) ?_
      exact h
def qRefusals (g : Gs) (x : Int32) : Qq := if inR x 1 10 then (0, g.R (tn x)) else (1, 0)
end CQRY
