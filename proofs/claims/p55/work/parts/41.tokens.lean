/-! ===== HomeworkBarter$Tokens ===== -/
section CTOK
theorem up_up {M : Mm} {k j p t : Nat} {v w : Int32} : (M.up k j p t v).up k j p t w = M.up k j p t w := by
  refine Prod.ext ?_ rfl
  show mU (mU M.1 k j p t v) k j p t w = mU M.1 k j p t w
  funext k' j' p' t'
  unfold mU
  split
  · rfl
  · rfl
theorem up_c {M : Mm} {k j p t t' : Nat} {v w : Int32} (h : t ≠ t') : (M.up k j p t v).up k j p t' w = (M.up k j p t' w).up k j p t v := by
  refine Prod.ext ?_ rfl
  show mU (mU M.1 k j p t v) k j p t' w = mU (mU M.1 k j p t' w) k j p t v
  funext k1 j1 p1 t1
  unfold mU
  by_cases h1 : k1 = k ∧ j1 = j ∧ p1 = p ∧ t1 = t'
  · rw [if_pos h1, if_neg (fun q => h (q.2.2.2.symm.trans h1.2.2.2)), if_pos h1]
  · rw [if_neg h1]
    by_cases h2 : k1 = k ∧ j1 = j ∧ p1 = p ∧ t1 = t
    · rw [if_pos h2, if_pos h2]
    · rw [if_neg h2, if_neg h2, if_neg h1]
theorem nI_subN {a b : Nat} (h : a ≤ b) : nI b - nI a = nI (b - a) := by
  have : nI b = nI (b - a) + nI a := by rw [nI_add, Nat.sub_add_cancel h]
  rw [this]
  simp
def pBl (c : Int32) : Bool := decide (c = 32 ∨ c = 10)
def pLe (c : Int32) : Bool := decide (97 ≤ c ∧ c ≤ 122)
def pDi (c : Int32) : Bool := decide (48 ≤ c ∧ c ≤ 57)
/-- the first place from i on that is not p -/
def sk (p : Int32 → Bool) (L : List Int32) (i : Nat) : Nat := i + ((L.drop i).takeWhile p).length
theorem sk_step {p : Int32 → Bool} {L : List Int32} {i : Nat} (hi : i < L.length) (h : p (L.getD i 0) = true) : sk p L i = sk p L (i + 1) := by
  unfold sk
  rw [List.drop_eq_getElem_cons hi]
  have e : L.getD i 0 = L[i] := by simp [List.getD_eq_getElem?_getD, hi]
  rw [e] at h
  rw [List.takeWhile_cons_of_pos h, List.length_cons]
  omega
theorem sk_stop {p : Int32 → Bool} {L : List Int32} {i : Nat} (h : i < L.length → p (L.getD i 0) = false) : sk p L i = i := by
  unfold sk
  by_cases hi : i < L.length
  · rw [List.drop_eq_getElem_cons hi]
    have e : L.getD i 0 = L[i] := by simp [List.getD_eq_getElem?_getD, hi]
    have := h hi
    rw [e] at this
    rw [List.takeWhile_cons_of_neg (by rw [this]; decide)]
    rfl
  · rw [List.drop_eq_nil_of_le (by omega)]
    rfl
theorem sk_ind {p : Int32 → Bool} {L : List Int32} {H : Nat → Prop} {i0 : Nat} (h0 : i0 ≤ L.length) (hend : sk p L i0 ≤ L.length → i0 ≤ sk p L i0 → (sk p L i0 < L.length → p (L.getD (sk p L i0) 0) = false) → H (sk p L i0))
    (hstep : ∀ i, i0 ≤ i → i < L.length → p (L.getD i 0) = true → H (i + 1) → H i) : H i0 := by
  have key : ∀ n i, L.length - i = n → i0 ≤ i → i ≤ L.length → sk p L i = sk p L i0 → H i := by
    intro n
    induction n with
    | zero =>
      intro i h1 h2 h3 h4
      have : i = L.length := by omega
      have h5 := sk_stop (p := p) (L := L) (i := i) (fun q => absurd q (by omega))
      have h6 := hend (by omega) (by omega) (fun q => absurd q (by omega))
      rw [← h4, h5] at h6
      exact h6
    | succ n ih =>
      intro i h1 h2 h3 h4
      by_cases hp : p (L.getD i 0) = true
      · exact hstep i h2 (by omega) hp (ih (i + 1) (by omega) (by omega) (by omega) ((sk_step (by omega) hp).symm.trans h4))
      · have h5 := sk_stop (p := p) (L := L) (i := i) (fun _ => by simpa using hp)
        have h6 := hend (by omega) (by omega) (fun q => by rw [← h4, h5]; simpa using hp)
        rw [← h4, h5] at h6
        exact h6
  exact key _ i0 rfl (Nat.le_refl _) h0 rfl
theorem sk_le {p : Int32 → Bool} {L : List Int32} {i : Nat} (h : i ≤ L.length) : i ≤ sk p L i ∧ sk p L i ≤ L.length ∧ (sk p L i < L.length → p (L.getD (sk p L i) 0) = false) := by
  refine sk_ind (p := p) (L := L) (H := fun k => k = k → i ≤ sk p L i ∧ sk p L i ≤ L.length ∧ (sk p L i < L.length → p (L.getD (sk p L i) 0) = false)) h (fun a b c _ => ⟨b, a, c⟩) (fun k _ _ _ hk _ => hk rfl) rfl
theorem sk_lt {p : Int32 → Bool} {L : List Int32} {i : Nat} (hi : i < L.length) (h : p (L.getD i 0) = true) : i < sk p L i := by
  rw [sk_step hi h]
  exact Nat.lt_of_lt_of_le (Nat.lt_succ_self i) (sk_le (p := p) (L := L) (i := i + 1) hi).1
/-- the number of the n digits from place i on, all above 1000 as 1000 -/
def nvC (L : List Int32) (i : Nat) : Nat → Int32
  | 0 => 0
  | n + 1 => imin (nvC L i n * 10 + L.getD (i + n) 0 - 48) 1000
/-- code, position, kind, start, stop, value -/
abbrev Tks : Type := Int32 × Int32 × Nat × Nat × Nat × Int32
abbrev Tks.code (T : Tks) : Int32 := T.1
abbrev Tks.pos (T : Tks) : Int32 := T.2.1
abbrev Tks.kind (T : Tks) : Nat := T.2.2.1
abbrev Tks.start (T : Tks) : Nat := T.2.2.2.1
abbrev Tks.stop (T : Tks) : Nat := T.2.2.2.2.1
abbrev Tks.val (T : Tks) : Int32 := T.2.2.2.2.2
def nxt (L : List Int32) (T : Tks) : Tks :=
  if sk pBl L T.stop < L.length then
    if pLe (L.getD (sk pBl L T.stop) 0) = true then (T.code, T.pos, 1, sk pBl L T.stop, sk pLe L (sk pBl L T.stop), T.val)
    else if pDi (L.getD (sk pBl L T.stop) 0) = true then (T.code, T.pos, 2, sk pBl L T.stop, sk pDi L (sk pBl L T.stop), nvC L (sk pBl L T.stop) (sk pDi L (sk pBl L T.stop) - sk pBl L T.stop))
    else (T.code, T.pos, (if L.getD (sk pBl L T.stop) 0 = 59 then 3 else 4), sk pBl L T.stop, sk pBl L T.stop + 1, T.val)
  else (T.code, T.pos, 0, sk pBl L T.stop, sk pBl L T.stop, T.val)
def adv (L : List Int32) (T : Tks) : Tks := if T.code = 0 then nxt L T else T
def fai (c : Int32) (T : Tks) : Tks := if T.code = 0 then (c, nI T.start, 4, T.start, T.stop, T.val) else T
def isWb (L : List Int32) (T : Tks) (w : List Int32) : Bool := decide (T.kind = 1 ∧ T.stop = T.start + w.length ∧ ∀ k, k < w.length → L.getD (T.start + k) 0 = w.getD k 0)
abbrev isW (L : List Int32) (T : Tks) (w : List Int32) : Prop := isWb L T w = true
theorem isW_iff {L : List Int32} {T : Tks} {w : List Int32} : isW L T w ↔ (T.kind = 1 ∧ T.stop = T.start + w.length ∧ ∀ k, k < w.length → L.getD (T.start + k) 0 = w.getD k 0) := decide_eq_true_iff
def tkW (L : List Int32) (w : List Int32) (T : Tks) : Tks := adv L (if isW L T w then T else fai 1 T)
def tkS (L : List Int32) (T : Tks) : Tks := adv L (if T.kind = 3 then T else fai 1 T)
def lkN (a b : Int32) (T : Tks) : Tks := if T.val < a ∨ b < T.val then fai 2 (if T.kind = 2 then T else fai 1 T) else if T.kind = 2 then T else fai 1 T
def tkN (L : List Int32) (a b : Int32) (T : Tks) : Tks := adv L (lkN a b T)
def sbV (L : List Int32) (T : Tks) : Int32 := if isW L T (hSb2 10) then 1 else 0
def tkB (L : List Int32) (T : Tks) : Tks := adv L (if isW L T (hSb2 10) ∨ isW L T (hSb2 11) then T else fai 1 T)
variable {E : Ed} {M : Mm} {P : Res → Mm → Prop} {L : List Int32} {T : Tks}
def TkM (M : Mm) (L : List Int32) (T : Tks) : Prop := Txt M 0 L ∧ M.1 1 0 0 1 = nI T.kind ∧ M.1 1 0 0 2 = nI T.start ∧ M.1 1 0 0 3 = nI T.stop ∧ M.1 1 0 0 4 = T.val ∧ M.1 1 0 0 5 = T.code ∧ M.1 1 0 0 6 = T.pos ∧ T.start ≤ T.stop ∧ T.stop ≤ L.length ∧ T.kind < 5
def dT : Nat → Nat → Nat → Prop := fun k _ _ => k = 1
theorem Txt.up {M : Mm} {j k j' p t : Nat} {v : Int32} (h : Txt M j L) (hk : k ≠ 2 ∧ k ≠ 3) : Txt (M.up k j' p t v) j L := h.keep (fun k2 hk2 t2 => up_nk (by omega))
theorem and255 (x : Int32) : ¬ (x &&& 255 = -1) := fun q => by
  have h := congrArg (fun z : Int32 => z.toBitVec.getLsbD 31) q
  rw [Int32.toBitVec_and] at h
  simp only [BitVec.getLsbD_and] at h
  revert h
  rw [show (255 : Int32).toBitVec.getLsbD 31 = false by decide, Bool.and_false]
  decide
theorem Txt.ne1 {j k : Nat} (h : Txt M j L) (hk : k < L.length) : L.getD k 0 ≠ -1 := by
  rw [← h.2.2 k hk]
  exact and255 _
theorem Txt.l5 (h : Txt M 0 L) : L.length ≤ 500 := h.2.1
theorem s_X6_isBlank {x : Int32} (h : P (.inl (some (.int (if pBl x = true then 1 else 0)))) M) : Sp E yX6_isBlank cX6_isBlank zX6_isBlank [.int x] M P := by
  unfold pBl at h
  refine Sp_of (own := RX6) (by decide) rfl rfl (Nat.le_of_ble_eq_true rfl) (fun C => ?_)
  refine G_iload_n dX6_isBlank_0 rfl ?_
  refine G_bipush (v := 32) dX6_isBlank_1 (by decide) ?_
  refine G_icmp_eq (tgt := 12) dX6_isBlank_3 (by decide) (fun c3 => ?_) (fun c3 => ?_)
  · rw [if_pos (decide_eq_true (Or.inl c3))] at h
    refine G_iconst (v := 1) dX6_isBlank_12 (by decide) ?_
    refine G_goto (tgt := 17) dX6_isBlank_13 (by decide) ?_
    refine G_iret dX6_isBlank_17 rfl rfl (Nat.le_of_ble_eq_true rfl) (Nat.le_of_ble_eq_true rfl) ?_
    exact h
  · refine G_iload_n dX6_isBlank_6 rfl ?_
    refine G_bipush (v := 10) dX6_isBlank_7 (by decide) ?_
    refine G_icmp_ne (tgt := 16) dX6_isBlank_9 (by decide) (fun c9 => ?_) (fun c9 => ?_)
    · rw [if_neg (by rw [decide_eq_true_eq]; exact fun q => q.elim c3 c9)] at h
      refine G_iconst (v := 0) dX6_isBlank_16 (by decide) ?_
      refine G_iret dX6_isBlank_17 rfl rfl (Nat.le_of_ble_eq_true rfl) (Nat.le_of_ble_eq_true rfl) ?_
      exact h
    · rw [if_pos (decide_eq_true (Or.inr c9))] at h
      refine G_iconst (v := 1) dX6_isBlank_12 (by decide) ?_
      refine G_goto (tgt := 17) dX6_isBlank_13 (by decide) ?_
      refine G_iret dX6_isBlank_17 rfl rfl (Nat.le_of_ble_eq_true rfl) (Nat.le_of_ble_eq_true rfl) ?_
      exact h
theorem s_X6_isLetter {x : Int32} (h : P (.inl (some (.int (if pLe x = true then 1 else 0)))) M) : Sp E yX6_isLetter cX6_isLetter zX6_isLetter [.int x] M P := by
  unfold pLe at h
  refine Sp_of (own := RX6) (by decide) rfl rfl (Nat.le_of_ble_eq_true rfl) (fun C => ?_)
  refine G_iload_n dX6_isLetter_0 rfl ?_
  refine G_bipush (v := 97) dX6_isLetter_1 (by decide) ?_
  refine G_icmp_lt (tgt := 16) dX6_isLetter_3 (by decide) (fun c3 => ?_) (fun c3 => ?_)
  · rw [if_neg (by rw [decide_eq_true_eq]; exact fun q => absurd q.1 (Int32.not_le.mpr c3))] at h
    refine G_iconst (v := 0) dX6_isLetter_16 (by decide) ?_
    refine G_iret dX6_isLetter_17 rfl rfl (Nat.le_of_ble_eq_true rfl) (Nat.le_of_ble_eq_true rfl) ?_
    exact h
  · refine G_iload_n dX6_isLetter_6 rfl ?_
    refine G_bipush (v := 122) dX6_isLetter_7 (by decide) ?_
    refine G_icmp_gt (tgt := 16) dX6_isLetter_9 (by decide) (fun c9 => ?_) (fun c9 => ?_)
    · rw [if_neg (by rw [decide_eq_true_eq]; exact fun q => absurd q.2 (Int32.not_le.mpr c9))] at h
      refine G_iconst (v := 0) dX6_isLetter_16 (by decide) ?_
      refine G_iret dX6_isLetter_17 rfl rfl (Nat.le_of_ble_eq_true rfl) (Nat.le_of_ble_eq_true rfl) ?_
      exact h
    · rw [if_pos (decide_eq_true ⟨Int32.not_lt.mp c3, Int32.not_lt.mp c9⟩)] at h
      refine G_iconst (v := 1) dX6_isLetter_12 (by decide) ?_
      refine G_goto (tgt := 17) dX6_isLetter_13 (by decide) ?_
      refine G_iret dX6_isLetter_17 rfl rfl (Nat.le_of_ble_eq_true rfl) (Nat.le_of_ble_eq_true rfl) ?_
      exact h
theorem s_X6_isDigit {x : Int32} (h : P (.inl (some (.int (if pDi x = true then 1 else 0)))) M) : Sp E yX6_isDigit cX6_isDigit zX6_isDigit [.int x] M P := by
  unfold pDi at h
  refine Sp_of (own := RX6) (by decide) rfl rfl (Nat.le_of_ble_eq_true rfl) (fun C => ?_)
  refine G_iload_n dX6_isDigit_0 rfl ?_
  refine G_bipush (v := 48) dX6_isDigit_1 (by decide) ?_
  refine G_icmp_lt (tgt := 16) dX6_isDigit_3 (by decide) (fun c3 => ?_) (fun c3 => ?_)
  · rw [if_neg (by rw [decide_eq_true_eq]; exact fun q => absurd q.1 (Int32.not_le.mpr c3))] at h
    refine G_iconst (v := 0) dX6_isDigit_16 (by decide) ?_
    refine G_iret dX6_isDigit_17 rfl rfl (Nat.le_of_ble_eq_true rfl) (Nat.le_of_ble_eq_true rfl) ?_
    exact h
  · refine G_iload_n dX6_isDigit_6 rfl ?_
    refine G_bipush (v := 57) dX6_isDigit_7 (by decide) ?_
    refine G_icmp_gt (tgt := 16) dX6_isDigit_9 (by decide) (fun c9 => ?_) (fun c9 => ?_)
    · rw [if_neg (by rw [decide_eq_true_eq]; exact fun q => absurd q.2 (Int32.not_le.mpr c9))] at h
      refine G_iconst (v := 0) dX6_isDigit_16 (by decide) ?_
      refine G_iret dX6_isDigit_17 rfl rfl (Nat.le_of_ble_eq_true rfl) (Nat.le_of_ble_eq_true rfl) ?_
      exact h
    · rw [if_pos (decide_eq_true ⟨Int32.not_lt.mp c3, Int32.not_lt.mp c9⟩)] at h
      refine G_iconst (v := 1) dX6_isDigit_12 (by decide) ?_
      refine G_goto (tgt := 17) dX6_isDigit_13 (by decide) ?_
      refine G_iret dX6_isDigit_17 rfl rfl (Nat.le_of_ble_eq_true rfl) (Nat.le_of_ble_eq_true rfl) ?_
      exact h
theorem s_X6_failed (hT : TkM M L T) (h : P (.inl (some (.int (if T.code = 0 then 0 else 1)))) M) : Sp E yX6_failed cX6_failed zX6_failed [.ref (ad E 1 0 0)] M P := by
  obtain ⟨t1, t2, t3, t4, t5, t6, t7, t8⟩ := id hT
  refine Sp_of (own := RX6) (by decide) rfl rfl (Nat.le_of_ble_eq_true rfl) (fun C => ?_)
  refine G_aload_n dX6_failed_0 rfl ?_
  refine gf_X6_24 dX6_failed_1  ?_
  refine G_if_eq (tgt := 11) dX6_failed_4 (by decide) (fun c4 => ?_) (fun c4 => ?_)
  · rw [t6] at c4
    rw [if_pos c4] at h
    refine G_iconst (v := 0) dX6_failed_11 (by decide) ?_
    refine G_iret dX6_failed_12 rfl rfl (Nat.le_of_ble_eq_true rfl) (Nat.le_of_ble_eq_true rfl) ?_
    exact h
  · rw [t6] at c4
    rw [if_neg c4] at h
    refine G_iconst (v := 1) dX6_failed_7 (by decide) ?_
    refine G_goto (tgt := 12) dX6_failed_8 (by decide) ?_
    refine G_iret dX6_failed_12 rfl rfl (Nat.le_of_ble_eq_true rfl) (Nat.le_of_ble_eq_true rfl) ?_
    exact h
theorem s_X6_isAtEnd (hT : TkM M L T) (h : P (.inl (some (.int (if T.kind = 0 then 1 else 0)))) M) : Sp E yX6_isAtEnd cX6_isAtEnd zX6_isAtEnd [.ref (ad E 1 0 0)] M P := by
  obtain ⟨t1, t2, t3, t4, t5, t6, t7, t8, t9, t10⟩ := id hT
  refine Sp_of (own := RX6) (by decide) rfl rfl (Nat.le_of_ble_eq_true rfl) (fun C => ?_)
  refine G_aload_n dX6_isAtEnd_0 rfl ?_
  refine gf_X6_33 dX6_isAtEnd_1  ?_
  refine G_if_ne (tgt := 11) dX6_isAtEnd_4 (by decide) (fun c4 => ?_) (fun c4 => ?_)
  · rw [t2] at c4
    rw [if_neg (fun q => c4 (by rw [q]; decide))] at h
    refine G_iconst (v := 0) dX6_isAtEnd_11 (by decide) ?_
    refine G_iret dX6_isAtEnd_12 rfl rfl (Nat.le_of_ble_eq_true rfl) (Nat.le_of_ble_eq_true rfl) ?_
    exact h
  · rw [t2] at c4
    have c5 := c4
    rw [if_pos (by
      have : nI T.kind = nI 0 := c5
      exact (nI_eq (by omega) (by decide)).mp this)] at h
    refine G_iconst (v := 1) dX6_isAtEnd_7 (by decide) ?_
    refine G_goto (tgt := 12) dX6_isAtEnd_8 (by decide) ?_
    refine G_iret dX6_isAtEnd_12 rfl rfl (Nat.le_of_ble_eq_true rfl) (Nat.le_of_ble_eq_true rfl) ?_
    exact h
theorem s_X6_fail {c : Int32} (hT : TkM M L T) (h : ∀ M', TkM M' L (fai c T) → Fr dT M M' → P (.inl none) M') : Sp E yX6_fail cX6_fail zX6_fail [.ref (ad E 1 0 0), .int c] M P := by
  obtain ⟨t1, t2, t3, t4, t5, t6, t7, t8, t9, t10⟩ := id hT
  unfold fai at h
  refine Sp_of (own := RX6) (by decide) rfl rfl (Nat.le_of_ble_eq_true rfl) (fun C => ?_)
  refine G_aload_n dX6_fail_0 rfl ?_
  refine gf_X6_24 dX6_fail_1  ?_
  refine G_if_eq (tgt := 8) dX6_fail_4 (by decide) (fun c4 => ?_) (fun c4 => ?_)
  · rw [t6] at c4
    rw [if_pos c4] at h
    refine G_aload_n dX6_fail_8 rfl ?_
    refine G_iload_n dX6_fail_9 rfl ?_
    refine pf_X6_24 dX6_fail_10  ?_
    refine G_aload_n dX6_fail_13 rfl ?_
    refine G_aload_n dX6_fail_14 rfl ?_
    refine gf_X6_36 dX6_fail_15  ?_
    rw [up_t (by decide), t3]
    refine pf_X6_20 dX6_fail_18  ?_
    refine G_aload_n dX6_fail_21 rfl ?_
    refine G_iconst (v := 4) dX6_fail_22 (by decide) ?_
    refine pf_X6_33 dX6_fail_23  ?_
    refine G_vret dX6_fail_26 rfl (Nat.le_of_ble_eq_true rfl) (Nat.le_of_ble_eq_true rfl) ?_
    refine h _ ⟨((t1.up (by decide)).up (by decide)).up (by decide), ?_, ?_, ?_, ?_, ?_, ?_, t8, t9, by show 4 < 5; decide⟩ (((Fr.rfl.up rfl).up rfl).up rfl)
    all_goals
      (repeat (first | exact up_at | assumption | refine (up_t (by decide)).trans ?_ | refine (up_nk (by decide)).trans ?_))
  · rw [t6] at c4
    rw [if_neg c4] at h
    refine G_vret dX6_fail_7 rfl (Nat.le_of_ble_eq_true rfl) (Nat.le_of_ble_eq_true rfl) ?_
    exact h M hT Fr.rfl
theorem s_X6_isWord {i : Nat} (hi : i < 16) (hT : TkM M L T) (h1 : isW L T (hSb2 i) → P (.inl (some (.int 1))) M) (h0 : ¬ isW L T (hSb2 i) → P (.inl (some (.int 0))) M) : Sp E yX6_isWord cX6_isWord zX6_isWord [.ref (ad E 1 0 0), .ref (sK E i)] M P := by
  obtain ⟨t1, t2, t3, t4, t5, t6, t7, t8, t9, t10⟩ := id hT
  have hl := (sch_all i hi).1
  have h5 := t1.l5
  refine Sp_of (own := RX6) (by decide) rfl rfl (Nat.le_of_ble_eq_true rfl) (fun C => ?_)
  refine G_aload_n dX6_isWord_0 rfl ?_
  refine gf_X6_33 dX6_isWord_1  ?_
  refine G_iconst (v := 1) dX6_isWord_4 (by decide) ?_
  refine G_icmp_ne (tgt := 24) dX6_isWord_5 (by decide) (fun c5 => ?_) (fun c5 => ?_)
  · rw [t2] at c5
    refine G_iconst (v := 0) dX6_isWord_24 (by decide) ?_
    refine G_iret dX6_isWord_25 rfl rfl (Nat.le_of_ble_eq_true rfl) (Nat.le_of_ble_eq_true rfl) ?_
    exact h0 (fun q => c5 (by rw [(isW_iff.mp q).1]; decide))
  · rw [t2] at c5
    have hk : T.kind = 1 := by
      have : nI T.kind = nI 1 := c5
      exact (nI_eq (by omega) (by decide)).mp this
    refine G_aload_n dX6_isWord_8 rfl ?_
    refine gf_X6_27 dX6_isWord_9  ?_
    refine G_aload_n dX6_isWord_12 rfl ?_
    refine gf_X6_36 dX6_isWord_13  ?_
    refine G_isub dX6_isWord_16 ?_
    refine G_aload_n dX6_isWord_17 rfl ?_
    refine cv_X6_65 dX6_isWord_18 hi (Nat.le_of_ble_eq_true rfl) (Nat.le_of_ble_eq_true rfl) (Nat.le_of_ble_eq_true rfl) (Nat.le_of_ble_eq_true rfl) (Nat.le_of_ble_eq_true rfl) rfl ?_
    rw [t3, t4, nI_subN t8]
    refine G_icmp_eq (tgt := 26) dX6_isWord_21 (by decide) (fun c21 => ?_) (fun c21 => ?_)
    · have hst : T.stop = T.start + (hSb2 i).length := by
        have := (nI_eq (by omega) (by omega)).mp c21
        omega
      refine G_iconst (v := 0) dX6_isWord_26 (by decide) ?_
      refine G_istore_n dX6_isWord_27 (Nat.le_of_ble_eq_true rfl) ?_
      refine G_lv (lv' := [(0, .ref (ad E 1 0 0)), (1, .ref (sK E i)), (2, .int (nI 0))]) ⟨rfl, rfl, rfl, trivial⟩ ?_
      refine up0 (c := (hSb2 i).length) (H := fun a => (∀ k, k < a → L.getD (T.start + k) 0 = (hSb2 i).getD k 0) → G E C RX6 cX6_isWord zX6_isWord P 0 0 M 28 [(0, .ref (ad E 1 0 0)), (1, .ref (sK E i)), (2, .int (nI a))] []) ?_ (fun a ha ih => ?_) (fun k hk => absurd hk (Nat.not_lt_zero k))
      · intro hall
        refine G_iload_n dX6_isWord_28 rfl ?_
        refine G_aload_n dX6_isWord_29 rfl ?_
        refine cv_X6_65 dX6_isWord_30 hi (Nat.le_of_ble_eq_true rfl) (Nat.le_of_ble_eq_true rfl) (Nat.le_of_ble_eq_true rfl) (Nat.le_of_ble_eq_true rfl) (Nat.le_of_ble_eq_true rfl) rfl ?_
        refine G_icmp_ge (tgt := 65) dX6_isWord_33 (by decide) (fun c33 => ?_) (fun c33 => ?_)
        · refine G_iconst (v := 1) dX6_isWord_65 (by decide) ?_
          refine G_iret dX6_isWord_66 rfl rfl (Nat.le_of_ble_eq_true rfl) (Nat.le_of_ble_eq_true rfl) ?_
          exact h1 (isW_iff.mpr ⟨hk, hst, hall⟩)
        · exact absurd (Int32.le_refl _) c33
      · intro hall
        refine G_iload_n dX6_isWord_28 rfl ?_
        refine G_aload_n dX6_isWord_29 rfl ?_
        refine cv_X6_65 dX6_isWord_30 hi (Nat.le_of_ble_eq_true rfl) (Nat.le_of_ble_eq_true rfl) (Nat.le_of_ble_eq_true rfl) (Nat.le_of_ble_eq_true rfl) (Nat.le_of_ble_eq_true rfl) rfl ?_
        refine G_icmp_ge (tgt := 65) dX6_isWord_33 (by decide) (fun c33 => ?_) (fun c33 => ?_)
        · exact absurd c33 (nI_ge ha (by omega))
        · refine G_aload_n dX6_isWord_36 rfl ?_
          refine gf_X6_14 dX6_isWord_37  ?_
          refine G_aload_n dX6_isWord_40 rfl ?_
          refine gf_X6_36 dX6_isWord_41  ?_
          refine G_iload_n dX6_isWord_44 rfl ?_
          refine G_iadd dX6_isWord_45 ?_
          refine cv_X6_42 (cs' := 0) (ss' := 0) dX6_isWord_46 (by decide) (Nat.le_of_ble_eq_true rfl) (Nat.le_of_ble_eq_true rfl) (Nat.le_of_ble_eq_true rfl) rfl rfl (Nat.le_of_ble_eq_true rfl) (Nat.le_of_ble_eq_true rfl) rfl ?_
          rw [t3, nI_add]
          refine s_X5_at (by decide) t1 (hGo_i ?_)
          rw [atL_in (show T.start + a < L.length by omega) (by omega)]
          refine G_aload_n dX6_isWord_49 rfl ?_
          refine G_iload_n dX6_isWord_50 rfl ?_
          refine cv_X6_70 dX6_isWord_51 hi ha rfl (Nat.le_of_ble_eq_true rfl) (Nat.le_of_ble_eq_true rfl) (Nat.le_of_ble_eq_true rfl) (Nat.le_of_ble_eq_true rfl) (Nat.le_of_ble_eq_true rfl) rfl ?_
          refine G_icmp_eq (tgt := 59) dX6_isWord_54 (by decide) (fun c54 => ?_) (fun c54 => ?_)
          · refine G_iinc (v := 1) dX6_isWord_59 rfl (Nat.le_of_ble_eq_true rfl) (by decide) ?_
            refine G_goto (tgt := 28) dX6_isWord_62 (by decide) ?_
            refine G_lv2 (ih (fun k hk2 => ?_)) ⟨rfl, rfl, lvi (nI_1 a), trivial⟩
            by_cases e : k = a
            · subst e
              exact c54
            · exact hall k (by omega)
          · refine G_iconst (v := 0) dX6_isWord_57 (by decide) ?_
            refine G_iret dX6_isWord_58 rfl rfl (Nat.le_of_ble_eq_true rfl) (Nat.le_of_ble_eq_true rfl) ?_
            exact h0 (fun q => c54 ((isW_iff.mp q).2.2 a ha))
    · refine G_iconst (v := 0) dX6_isWord_24 (by decide) ?_
      refine G_iret dX6_isWord_25 rfl rfl (Nat.le_of_ble_eq_true rfl) (Nat.le_of_ble_eq_true rfl) ?_
      exact h0 (fun q => c21 (by rw [(isW_iff.mp q).2.1]; exact congrArg nI (by omega)))
theorem s_X6_adv0 (t1 : Txt M 0 L) (t4 : M.1 1 0 0 3 = nI T.stop) (t5 : M.1 1 0 0 4 = T.val) (t6 : M.1 1 0 0 5 = T.code) (t7 : M.1 1 0 0 6 = T.pos) (t9 : T.stop ≤ L.length) (c0 : T.code = 0) (h : ∀ M', TkM M' L (nxt L T) → Fr dT M M' → P (.inl none) M') : Sp E yX6_advance cX6_advance zX6_advance [.ref (ad E 1 0 0)] M P := by
  have h5 := t1.l5
  refine Sp_of (own := RX6) (by decide) rfl rfl (Nat.le_of_ble_eq_true rfl) (fun C => ?_)
  refine G_aload_n dX6_advance_0 rfl ?_
  refine gf_X6_24 dX6_advance_1  ?_
  refine G_if_eq (tgt := 8) dX6_advance_4 (by decide) (fun c4 => ?_) (fun c4 => ?_)
  · rw [t6] at c4
    have g267 : ∀ (M' : Mm) (lv : List (Nat × Value)), TkM M' L (nxt L T) → Fr dT M M' → G E C RX6 cX6_advance zX6_advance P 0 0 M' 267 lv [] := fun M' lv hM hF => by
      refine G_vret dX6_advance_267 rfl (Nat.le_of_ble_eq_true rfl) (Nat.le_of_ble_eq_true rfl) ?_
      exact h M' hM hF
    obtain ⟨hs1, hs2, hs3⟩ := sk_le (p := pBl) (L := L) (i := T.stop) t9
    have g60 : G E C RX6 cX6_advance zX6_advance P 0 0 (M.up 1 0 0 2 (nI (sk pBl L T.stop))) 60 [(0, .ref (ad E 1 0 0))] [] := by
      obtain ⟨N, hN⟩ : ∃ N, nxt L T = N := ⟨_, rfl⟩
      have hnx := hN
      unfold nxt at hnx
      generalize sk pBl L T.stop = st at *
      refine G_aload_n dX6_advance_60 rfl ?_
      refine G_aload_n dX6_advance_61 rfl ?_
      refine gf_X6_36 dX6_advance_62  ?_
      rw [up_at]
      refine pf_X6_27 dX6_advance_65  ?_
      refine G_aload_n dX6_advance_68 rfl ?_
      refine gf_X6_14 dX6_advance_69  ?_
      refine G_aload_n dX6_advance_72 rfl ?_
      refine gf_X6_36 dX6_advance_73  ?_
      rw [up_t (by decide), up_at]
      refine cv_X6_42 (cs' := 0) (ss' := 0) dX6_advance_76 (by decide) (Nat.le_of_ble_eq_true rfl) (Nat.le_of_ble_eq_true rfl) (Nat.le_of_ble_eq_true rfl) rfl rfl (Nat.le_of_ble_eq_true rfl) (Nat.le_of_ble_eq_true rfl) rfl ?_
      refine s_X5_at (by decide) ((t1.up (by decide)).up (by decide)) (hGo_i ?_)
      by_cases hs : st < L.length
      · rw [if_pos hs] at hnx
        rw [atL_in hs (by omega)]
        refine G_istore_n dX6_advance_79 (Nat.le_of_ble_eq_true rfl) ?_
        refine G_iload_n dX6_advance_80 rfl ?_
        refine G_iconst (v := (-1)) dX6_advance_81 (by decide) ?_
        refine G_icmp_ne (tgt := 93) dX6_advance_82 (by decide) (fun c82 => ?_) (fun c82 => ?_)
        · refine G_iload_n dX6_advance_93 rfl ?_
          refine cv_X6_50 (cs' := 0) (ss' := 0) dX6_advance_94  (Nat.le_of_ble_eq_true rfl) (Nat.le_of_ble_eq_true rfl) (Nat.le_of_ble_eq_true rfl) rfl rfl (Nat.le_of_ble_eq_true rfl) (Nat.le_of_ble_eq_true rfl) rfl ?_
          refine s_X6_isLetter (hGo_i ?_)
          by_cases hle : pLe (L.getD st 0) = true
          · rw [if_pos hle] at hnx ⊢
            refine G_if_eq (tgt := 149) dX6_advance_97 (by decide) (fun c97 => ?_) (fun c97 => ?_)
            · exact absurd c97 (by decide)
            · refine G_aload_n dX6_advance_100 rfl ?_
              refine G_iconst (v := 1) dX6_advance_101 (by decide) ?_
              refine pf_X6_33 dX6_advance_102  ?_
              rw [up_c (t := 3) (t' := 1) (by decide)]
              have m1 : Txt ((M.up 1 0 0 2 (nI st)).up 1 0 0 1 1) 0 L := (t1.up (by decide)).up (by decide)
              refine G_lv (lv' := [(0, .ref (ad E 1 0 0))]) ⟨rfl, trivial⟩ ?_
              refine sk_ind (p := pLe) (L := L) (i0 := st) (H := fun i => G E C RX6 cX6_advance zX6_advance P 0 0 (((M.up 1 0 0 2 (nI st)).up 1 0 0 1 1).up 1 0 0 3 (nI i)) 105 [(0, .ref (ad E 1 0 0))] []) hs2 (fun e1 e2 e3 => ?_) (fun i hi0 hi hp ih => ?_)
              · have gE : ∀ lv, G E C RX6 cX6_advance zX6_advance P 0 0 (((M.up 1 0 0 2 (nI st)).up 1 0 0 1 1).up 1 0 0 3 (nI (sk pLe L st))) 267 lv [] := fun lv => by
                  refine g267 _ lv ?_ (((Fr.rfl.up rfl).up rfl).up rfl)
                  rw [hN, ← hnx]
                  refine ⟨m1.up (by decide), ?_, ?_, ?_, ?_, ?_, ?_, e2, e1, Nat.lt_of_sub_eq_succ rfl⟩
                  all_goals
                    (repeat (first | exact up_at | assumption | refine (up_t (by decide)).trans ?_ | refine (up_nk (by decide)).trans ?_))
                  all_goals rfl
                refine G_aload_n dX6_advance_105 rfl ?_
                refine gf_X6_27 dX6_advance_106  ?_
                rw [up_at]
                refine G_aload_n dX6_advance_109 rfl ?_
                refine gf_X6_14 dX6_advance_110  ?_
                refine gf_X6_39 dX6_advance_113 (by decide) ?_
                refine G_icmp_ge (tgt := 267) dX6_advance_116 (by decide) (fun c116 => ?_) (fun c116 => ?_)
                · exact gE _
                · rw [up_nk (by decide), m1.1] at c116
                  have e4 : sk pLe L st < L.length := by
                    rcases Nat.lt_or_ge (sk pLe L st) L.length with q | q
                    · exact q
                    · exact absurd (nI_le q (by omega)) c116
                  refine G_aload_n dX6_advance_119 rfl ?_
                  refine gf_X6_14 dX6_advance_120  ?_
                  refine G_aload_n dX6_advance_123 rfl ?_
                  refine gf_X6_27 dX6_advance_124  ?_
                  rw [up_at]
                  refine cv_X6_42 (cs' := 0) (ss' := 0) dX6_advance_127 (by decide) (Nat.le_of_ble_eq_true rfl) (Nat.le_of_ble_eq_true rfl) (Nat.le_of_ble_eq_true rfl) rfl rfl (Nat.le_of_ble_eq_true rfl) (Nat.le_of_ble_eq_true rfl) rfl ?_
                  refine s_X5_at (by decide) (m1.up (by decide)) (hGo_i ?_)
                  rw [atL_in e4 (by omega)]
                  refine cv_X6_50 (cs' := 0) (ss' := 0) dX6_advance_130  (Nat.le_of_ble_eq_true rfl) (Nat.le_of_ble_eq_true rfl) (Nat.le_of_ble_eq_true rfl) rfl rfl (Nat.le_of_ble_eq_true rfl) (Nat.le_of_ble_eq_true rfl) rfl ?_
                  refine s_X6_isLetter (hGo_i ?_)
                  rw [if_neg (by rw [e3 e4]; decide)]
                  refine G_if_eq (tgt := 267) dX6_advance_133 (by decide) (fun c133 => ?_) (fun c133 => ?_)
                  · exact gE _
                  · exact absurd rfl c133
              · refine G_aload_n dX6_advance_105 rfl ?_
                refine gf_X6_27 dX6_advance_106  ?_
                rw [up_at]
                refine G_aload_n dX6_advance_109 rfl ?_
                refine gf_X6_14 dX6_advance_110  ?_
                refine gf_X6_39 dX6_advance_113 (by decide) ?_
                refine G_icmp_ge (tgt := 267) dX6_advance_116 (by decide) (fun c116 => ?_) (fun c116 => ?_)
                · rw [up_nk (by decide), m1.1] at c116
                  exact absurd c116 (nI_ge hi (by omega))
                · refine G_aload_n dX6_advance_119 rfl ?_
                  refine gf_X6_14 dX6_advance_120  ?_
                  refine G_aload_n dX6_advance_123 rfl ?_
                  refine gf_X6_27 dX6_advance_124  ?_
                  rw [up_at]
                  refine cv_X6_42 (cs' := 0) (ss' := 0) dX6_advance_127 (by decide) (Nat.le_of_ble_eq_true rfl) (Nat.le_of_ble_eq_true rfl) (Nat.le_of_ble_eq_true rfl) rfl rfl (Nat.le_of_ble_eq_true rfl) (Nat.le_of_ble_eq_true rfl) rfl ?_
                  refine s_X5_at (by decide) (m1.up (by decide)) (hGo_i ?_)
                  rw [atL_in hi (by omega)]
                  refine cv_X6_50 (cs' := 0) (ss' := 0) dX6_advance_130  (Nat.le_of_ble_eq_true rfl) (Nat.le_of_ble_eq_true rfl) (Nat.le_of_ble_eq_true rfl) rfl rfl (Nat.le_of_ble_eq_true rfl) (Nat.le_of_ble_eq_true rfl) rfl ?_
                  refine s_X6_isLetter (hGo_i ?_)
                  rw [if_pos hp]
                  refine G_if_eq (tgt := 267) dX6_advance_133 (by decide) (fun c133 => ?_) (fun c133 => ?_)
                  · exact absurd c133 (by decide)
                  · refine G_aload_n dX6_advance_136 rfl ?_
                    refine G_dup dX6_advance_137 rfl ?_
                    refine gf_X6_27 dX6_advance_138  ?_
                    rw [up_at]
                    refine G_iconst (v := 1) dX6_advance_141 (by decide) ?_
                    refine G_iadd dX6_advance_142 ?_
                    refine pf_X6_27 dX6_advance_143  ?_
                    refine G_goto (tgt := 105) dX6_advance_146 (by decide) ?_
                    rw [up_up, nI_1]
                    exact ih
          · rw [if_neg hle] at hnx ⊢
            refine G_if_eq (tgt := 149) dX6_advance_97 (by decide) (fun c97 => ?_) (fun c97 => ?_)
            · refine G_iload_n dX6_advance_149 rfl ?_
              refine cv_X6_53 (cs' := 0) (ss' := 0) dX6_advance_150  (Nat.le_of_ble_eq_true rfl) (Nat.le_of_ble_eq_true rfl) (Nat.le_of_ble_eq_true rfl) rfl rfl (Nat.le_of_ble_eq_true rfl) (Nat.le_of_ble_eq_true rfl) rfl ?_
              refine s_X6_isDigit (hGo_i ?_)
              by_cases hdi : pDi (L.getD st 0) = true
              · rw [if_pos hdi] at hnx ⊢
                refine G_if_eq (tgt := 242) dX6_advance_153 (by decide) (fun c153 => ?_) (fun c153 => ?_)
                · exact absurd c153 (by decide)
                · refine G_aload_n dX6_advance_156 rfl ?_
                  refine G_iconst (v := 2) dX6_advance_157 (by decide) ?_
                  refine pf_X6_33 dX6_advance_158  ?_
                  refine G_aload_n dX6_advance_161 rfl ?_
                  refine G_iconst (v := 0) dX6_advance_162 (by decide) ?_
                  refine pf_X6_56 dX6_advance_163  ?_
                  rw [up_c (t := 3) (t' := 1) (by decide), up_c (t := 3) (t' := 4) (by decide)]
                  have m1 : Txt ((M.up 1 0 0 2 (nI st)).up 1 0 0 1 2) 0 L := (t1.up (by decide)).up (by decide)
                  refine G_lv (lv' := [(0, .ref (ad E 1 0 0))]) ⟨rfl, trivial⟩ ?_
                  rw [show (0 : Int32) = nvC L st (st - st) by rw [Nat.sub_self]; rfl]
                  refine sk_ind (p := pDi) (L := L) (i0 := st) (H := fun i => G E C RX6 cX6_advance zX6_advance P 0 0 ((((M.up 1 0 0 2 (nI st)).up 1 0 0 1 2).up 1 0 0 4 (nvC L st (i - st))).up 1 0 0 3 (nI i)) 166 [(0, .ref (ad E 1 0 0))] []) hs2 (fun e1 e2 e3 => ?_) (fun i hi0 hi hp ih => ?_)
                  · have gE : ∀ lv, G E C RX6 cX6_advance zX6_advance P 0 0 ((((M.up 1 0 0 2 (nI st)).up 1 0 0 1 2).up 1 0 0 4 (nvC L st (sk pDi L st - st))).up 1 0 0 3 (nI (sk pDi L st))) 267 lv [] := fun lv => by
                      refine g267 _ lv ?_ ((((Fr.rfl.up rfl).up rfl).up rfl).up rfl)
                      rw [hN, ← hnx]
                      refine ⟨(m1.up (by decide)).up (by decide), ?_, ?_, ?_, ?_, ?_, ?_, e2, e1, Nat.lt_of_sub_eq_succ rfl⟩
                      all_goals
                        (repeat (first | exact up_at | assumption | refine (up_t (by decide)).trans ?_ | refine (up_nk (by decide)).trans ?_))
                      all_goals rfl
                    refine G_aload_n dX6_advance_166 rfl ?_
                    refine gf_X6_27 dX6_advance_167  ?_
                    rw [up_at]
                    refine G_aload_n dX6_advance_170 rfl ?_
                    refine gf_X6_14 dX6_advance_171  ?_
                    refine gf_X6_39 dX6_advance_174 (by decide) ?_
                    refine G_icmp_ge (tgt := 267) dX6_advance_177 (by decide) (fun c177 => ?_) (fun c177 => ?_)
                    · exact gE _
                    · rw [up_nk (by decide), up_nk (by decide), m1.1] at c177
                      have e4 : sk pDi L st < L.length := by
                        rcases Nat.lt_or_ge (sk pDi L st) L.length with q | q
                        · exact q
                        · exact absurd (nI_le q (by omega)) c177
                      refine G_aload_n dX6_advance_180 rfl ?_
                      refine gf_X6_14 dX6_advance_181  ?_
                      refine G_aload_n dX6_advance_184 rfl ?_
                      refine gf_X6_27 dX6_advance_185  ?_
                      rw [up_at]
                      refine cv_X6_42 (cs' := 0) (ss' := 0) dX6_advance_188 (by decide) (Nat.le_of_ble_eq_true rfl) (Nat.le_of_ble_eq_true rfl) (Nat.le_of_ble_eq_true rfl) rfl rfl (Nat.le_of_ble_eq_true rfl) (Nat.le_of_ble_eq_true rfl) rfl ?_
                      refine s_X5_at (by decide) ((m1.up (by decide)).up (by decide)) (hGo_i ?_)
                      rw [atL_in e4 (by omega)]
                      refine cv_X6_53 (cs' := 0) (ss' := 0) dX6_advance_191  (Nat.le_of_ble_eq_true rfl) (Nat.le_of_ble_eq_true rfl) (Nat.le_of_ble_eq_true rfl) rfl rfl (Nat.le_of_ble_eq_true rfl) (Nat.le_of_ble_eq_true rfl) rfl ?_
                      refine s_X6_isDigit (hGo_i ?_)
                      rw [if_neg (by rw [e3 e4]; decide)]
                      refine G_if_eq (tgt := 267) dX6_advance_194 (by decide) (fun c194 => ?_) (fun c194 => ?_)
                      · exact gE _
                      · exact absurd rfl c194
                  · refine G_aload_n dX6_advance_166 rfl ?_
                    refine gf_X6_27 dX6_advance_167  ?_
                    rw [up_at]
                    refine G_aload_n dX6_advance_170 rfl ?_
                    refine gf_X6_14 dX6_advance_171  ?_
                    refine gf_X6_39 dX6_advance_174 (by decide) ?_
                    refine G_icmp_ge (tgt := 267) dX6_advance_177 (by decide) (fun c177 => ?_) (fun c177 => ?_)
                    · rw [up_nk (by decide), up_nk (by decide), m1.1] at c177
                      exact absurd c177 (nI_ge hi (by omega))
                    · refine G_aload_n dX6_advance_180 rfl ?_
                      refine gf_X6_14 dX6_advance_181  ?_
                      refine G_aload_n dX6_advance_184 rfl ?_
                      refine gf_X6_27 dX6_advance_185  ?_
                      rw [up_at]
                      refine cv_X6_42 (cs' := 0) (ss' := 0) dX6_advance_188 (by decide) (Nat.le_of_ble_eq_true rfl) (Nat.le_of_ble_eq_true rfl) (Nat.le_of_ble_eq_true rfl) rfl rfl (Nat.le_of_ble_eq_true rfl) (Nat.le_of_ble_eq_true rfl) rfl ?_
                      refine s_X5_at (by decide) ((m1.up (by decide)).up (by decide)) (hGo_i ?_)
                      rw [atL_in hi (by omega)]
                      refine cv_X6_53 (cs' := 0) (ss' := 0) dX6_advance_191  (Nat.le_of_ble_eq_true rfl) (Nat.le_of_ble_eq_true rfl) (Nat.le_of_ble_eq_true rfl) rfl rfl (Nat.le_of_ble_eq_true rfl) (Nat.le_of_ble_eq_true rfl) rfl ?_
                      refine s_X6_isDigit (hGo_i ?_)
                      rw [if_pos hp]
                      refine G_if_eq (tgt := 267) dX6_advance_194 (by decide) (fun c194 => ?_) (fun c194 => ?_)
                      · exact absurd c194 (by decide)
                      · refine G_aload_n dX6_advance_197 rfl ?_
                        refine G_aload_n dX6_advance_198 rfl ?_
                        refine gf_X6_56 dX6_advance_199  ?_
                        rw [up_t (by decide), up_at]
                        refine G_bipush (v := 10) dX6_advance_202 (by decide) ?_
                        refine G_imul dX6_advance_204 ?_
                        refine G_aload_n dX6_advance_205 rfl ?_
                        refine gf_X6_14 dX6_advance_206  ?_
                        refine G_aload_n dX6_advance_209 rfl ?_
                        refine gf_X6_27 dX6_advance_210  ?_
                        rw [up_at]
                        refine cv_X6_42 (cs' := 0) (ss' := 0) dX6_advance_213 (by decide) (Nat.le_of_ble_eq_true rfl) (Nat.le_of_ble_eq_true rfl) (Nat.le_of_ble_eq_true rfl) rfl rfl (Nat.le_of_ble_eq_true rfl) (Nat.le_of_ble_eq_true rfl) rfl ?_
                        refine s_X5_at (by decide) ((m1.up (by decide)).up (by decide)) (hGo_i ?_)
                        rw [atL_in hi (by omega)]
                        refine G_iadd dX6_advance_216 ?_
                        refine G_bipush (v := 48) dX6_advance_217 (by decide) ?_
                        refine G_isub dX6_advance_219 ?_
                        refine G_sipush (v := 1000) dX6_advance_220 (by decide) ?_
                        refine G_mmin dX6_advance_223 (hqx 357 (by decide +kernel) rfl) (hqx 358 (by decide +kernel) rfl) (hqx 15 (by decide +kernel) rfl) (hqx 359 (by decide +kernel) rfl) (Nat.le_of_ble_eq_true rfl) (Nat.le_of_ble_eq_true rfl) (Nat.le_of_ble_eq_true rfl) (Nat.le_of_ble_eq_true rfl) ?_
                        rw [show (if (1000 : Int32) < nvC L st (i - st) * 10 + L.getD i 0 - 48 then 1000 else nvC L st (i - st) * 10 + L.getD i 0 - 48) = nvC L st (i + 1 - st) by
                          rw [show i + 1 - st = (i - st) + 1 by omega]
                          show _ = imin (nvC L st (i - st) * 10 + L.getD (st + (i - st)) 0 - 48) 1000
                          rw [show st + (i - st) = i by omega]
                          rfl]
                        refine pf_X6_56 dX6_advance_226  ?_
                        refine G_aload_n dX6_advance_229 rfl ?_
                        refine G_dup dX6_advance_230 rfl ?_
                        refine gf_X6_27 dX6_advance_231  ?_
                        rw [up_t (by decide), up_at]
                        refine G_iconst (v := 1) dX6_advance_234 (by decide) ?_
                        refine G_iadd dX6_advance_235 ?_
                        refine pf_X6_27 dX6_advance_236  ?_
                        refine G_goto (tgt := 166) dX6_advance_239 (by decide) ?_
                        rw [up_c (t := 3) (t' := 4) (by decide), up_up, up_up, nI_1]
                        exact ih
              · rw [if_neg hdi] at hnx ⊢
                refine G_if_eq (tgt := 242) dX6_advance_153 (by decide) (fun c153 => ?_) (fun c153 => ?_)
                · have gF : ∀ (w : Int32) (lv : List (Nat × Value)), w = nI (if L.getD st 0 = 59 then 3 else 4) → lvf lv 0 = some (.ref (ad E 1 0 0)) → G E C RX6 cX6_advance zX6_advance P 0 0 (((M.up 1 0 0 2 (nI st)).up 1 0 0 3 (nI st)).up 1 0 0 1 w) 257 lv [] := fun w lv hw hlv => by
                    refine G_lv (lv' := [(0, .ref (ad E 1 0 0))]) ⟨hlv, trivial⟩ ?_
                    refine G_aload_n dX6_advance_257 rfl ?_
                    refine G_dup dX6_advance_258 rfl ?_
                    refine gf_X6_27 dX6_advance_259  ?_
                    rw [up_t (by decide), up_at]
                    refine G_iconst (v := 1) dX6_advance_262 (by decide) ?_
                    refine G_iadd dX6_advance_263 ?_
                    refine pf_X6_27 dX6_advance_264  ?_
                    refine g267 _ _ ?_ ((((Fr.rfl.up rfl).up rfl).up rfl).up rfl)
                    rw [hN, ← hnx]
                    refine ⟨(((t1.up (by decide)).up (by decide)).up (by decide)).up (by decide), ?_, ?_, ?_, ?_, ?_, ?_, Nat.le_succ _, hs, ?_⟩
                    · rw [up_t (by decide), up_at]
                      exact hw
                    · (repeat (first | exact up_at | assumption | refine (up_t (by decide)).trans ?_ | refine (up_nk (by decide)).trans ?_))
                    · rw [up_at]
                      exact nI_1 st
                    · (repeat (first | exact up_at | assumption | refine (up_t (by decide)).trans ?_ | refine (up_nk (by decide)).trans ?_))
                    · (repeat (first | exact up_at | assumption | refine (up_t (by decide)).trans ?_ | refine (up_nk (by decide)).trans ?_))
                    · (repeat (first | exact up_at | assumption | refine (up_t (by decide)).trans ?_ | refine (up_nk (by decide)).trans ?_))
                    · show (if L.getD st 0 = 59 then 3 else 4) < 5
                      split <;> decide
                  refine G_aload_n dX6_advance_242 rfl ?_
                  refine G_iload_n dX6_advance_243 rfl ?_
                  refine G_bipush (v := 59) dX6_advance_244 (by decide) ?_
                  refine G_icmp_ne (tgt := 253) dX6_advance_246 (by decide) (fun c246 => ?_) (fun c246 => ?_)
                  · refine G_iconst (v := 4) dX6_advance_253 (by decide) ?_
                    refine pf_X6_33 dX6_advance_254  ?_
                    exact gF _ _ (by rw [if_neg c246]; rfl) rfl
                  · refine G_iconst (v := 3) dX6_advance_249 (by decide) ?_
                    refine G_goto (tgt := 254) dX6_advance_250 (by decide) ?_
                    refine pf_X6_33 dX6_advance_254  ?_
                    exact gF _ _ (by rw [if_pos c246]; rfl) rfl
                · exact absurd rfl c153
            · exact absurd rfl c97
        · exact absurd c82 (t1.ne1 hs)
      · rw [if_neg hs] at hnx
        have e : st = L.length := by omega
        rw [show atL L (nI st) = -1 by unfold atL; rw [if_pos (Or.inr (by rw [e]; exact Int32.le_refl _))]]
        refine G_istore_n dX6_advance_79 (Nat.le_of_ble_eq_true rfl) ?_
        refine G_iload_n dX6_advance_80 rfl ?_
        refine G_iconst (v := (-1)) dX6_advance_81 (by decide) ?_
        refine G_icmp_ne (tgt := 93) dX6_advance_82 (by decide) (fun c82 => ?_) (fun c82 => ?_)
        · exact absurd rfl c82
        · refine G_aload_n dX6_advance_85 rfl ?_
          refine G_iconst (v := 0) dX6_advance_86 (by decide) ?_
          refine pf_X6_33 dX6_advance_87  ?_
          refine G_goto (tgt := 267) dX6_advance_90 (by decide) ?_
          refine g267 _ _ ?_ (((Fr.rfl.up rfl).up rfl).up rfl)
          rw [hN, ← hnx]
          refine ⟨((t1.up (by decide)).up (by decide)).up (by decide), ?_, ?_, ?_, ?_, ?_, ?_, Nat.le_refl _, hs2, Nat.lt_of_sub_eq_succ rfl⟩
          all_goals
            (repeat (first | exact up_at | assumption | refine (up_t (by decide)).trans ?_ | refine (up_nk (by decide)).trans ?_))
          all_goals rfl
    refine G_aload_n dX6_advance_8 rfl ?_
    refine G_aload_n dX6_advance_9 rfl ?_
    refine gf_X6_27 dX6_advance_10  ?_
    rw [t4]
    refine pf_X6_36 dX6_advance_13  ?_
    refine sk_ind (p := pBl) (L := L) (i0 := T.stop) (H := fun i => G E C RX6 cX6_advance zX6_advance P 0 0 (M.up 1 0 0 2 (nI i)) 16 [(0, .ref (ad E 1 0 0))] []) t9 (fun e1 e2 e3 => ?_) (fun i hi0 hi hp ih => ?_)
    · refine G_aload_n dX6_advance_16 rfl ?_
      refine gf_X6_36 dX6_advance_17  ?_
      rw [up_at]
      refine G_aload_n dX6_advance_20 rfl ?_
      refine gf_X6_14 dX6_advance_21  ?_
      refine gf_X6_39 dX6_advance_24 (by decide) ?_
      refine G_icmp_ge (tgt := 60) dX6_advance_27 (by decide) (fun c27 => ?_) (fun c27 => ?_)
      · exact g60
      · rw [up_nk (by decide), t1.1] at c27
        have e4 : sk pBl L T.stop < L.length := by
          rcases Nat.lt_or_ge (sk pBl L T.stop) L.length with q | q
          · exact q
          · exact absurd (nI_le q (by omega)) c27
        refine G_aload_n dX6_advance_30 rfl ?_
        refine gf_X6_14 dX6_advance_31  ?_
        refine G_aload_n dX6_advance_34 rfl ?_
        refine gf_X6_36 dX6_advance_35  ?_
        rw [up_at]
        refine cv_X6_42 (cs' := 0) (ss' := 0) dX6_advance_38 (by decide) (Nat.le_of_ble_eq_true rfl) (Nat.le_of_ble_eq_true rfl) (Nat.le_of_ble_eq_true rfl) rfl rfl (Nat.le_of_ble_eq_true rfl) (Nat.le_of_ble_eq_true rfl) rfl ?_
        refine s_X5_at (by decide) (t1.up (by decide)) (hGo_i ?_)
        rw [atL_in e4 (by omega)]
        refine cv_X6_46 (cs' := 0) (ss' := 0) dX6_advance_41  (Nat.le_of_ble_eq_true rfl) (Nat.le_of_ble_eq_true rfl) (Nat.le_of_ble_eq_true rfl) rfl rfl (Nat.le_of_ble_eq_true rfl) (Nat.le_of_ble_eq_true rfl) rfl ?_
        refine s_X6_isBlank (hGo_i ?_)
        rw [if_neg (by rw [e3 e4]; decide)]
        refine G_if_eq (tgt := 60) dX6_advance_44 (by decide) (fun c44 => ?_) (fun c44 => ?_)
        · exact g60
        · exact absurd rfl c44
    · refine G_aload_n dX6_advance_16 rfl ?_
      refine gf_X6_36 dX6_advance_17  ?_
      rw [up_at]
      refine G_aload_n dX6_advance_20 rfl ?_
      refine gf_X6_14 dX6_advance_21  ?_
      refine gf_X6_39 dX6_advance_24 (by decide) ?_
      refine G_icmp_ge (tgt := 60) dX6_advance_27 (by decide) (fun c27 => ?_) (fun c27 => ?_)
      · rw [up_nk (by decide), t1.1] at c27
        exact absurd c27 (nI_ge hi (by omega))
      · refine G_aload_n dX6_advance_30 rfl ?_
        refine gf_X6_14 dX6_advance_31  ?_
        refine G_aload_n dX6_advance_34 rfl ?_
        refine gf_X6_36 dX6_advance_35  ?_
        rw [up_at]
        refine cv_X6_42 (cs' := 0) (ss' := 0) dX6_advance_38 (by decide) (Nat.le_of_ble_eq_true rfl) (Nat.le_of_ble_eq_true rfl) (Nat.le_of_ble_eq_true rfl) rfl rfl (Nat.le_of_ble_eq_true rfl) (Nat.le_of_ble_eq_true rfl) rfl ?_
        refine s_X5_at (by decide) (t1.up (by decide)) (hGo_i ?_)
        rw [atL_in hi (by omega)]
        refine cv_X6_46 (cs' := 0) (ss' := 0) dX6_advance_41  (Nat.le_of_ble_eq_true rfl) (Nat.le_of_ble_eq_true rfl) (Nat.le_of_ble_eq_true rfl) rfl rfl (Nat.le_of_ble_eq_true rfl) (Nat.le_of_ble_eq_true rfl) rfl ?_
        refine s_X6_isBlank (hGo_i ?_)
        rw [if_pos hp]
        refine G_if_eq (tgt := 60) dX6_advance_44 (by decide) (fun c44 => ?_) (fun c44 => ?_)
        · exact absurd c44 (by decide)
        · refine G_aload_n dX6_advance_47 rfl ?_
          refine G_dup dX6_advance_48 rfl ?_
          refine gf_X6_36 dX6_advance_49  ?_
          rw [up_at]
          refine G_iconst (v := 1) dX6_advance_52 (by decide) ?_
          refine G_iadd dX6_advance_53 ?_
          refine pf_X6_36 dX6_advance_54  ?_
          refine G_goto (tgt := 16) dX6_advance_57 (by decide) ?_
          rw [up_up, nI_1]
          exact ih
  · rw [t6] at c4
    exact absurd c0 c4
theorem s_X6_advance (hT : TkM M L T) (h : ∀ M', TkM M' L (adv L T) → Fr dT M M' → P (.inl none) M') : Sp E yX6_advance cX6_advance zX6_advance [.ref (ad E 1 0 0)] M P := by
  obtain ⟨t1, t2, t3, t4, t5, t6, t7, t8, t9, t10⟩ := id hT
  unfold adv at h
  by_cases c0 : T.code = 0
  · rw [if_pos c0] at h
    exact s_X6_adv0 t1 t4 t5 t6 t7 t9 c0 h
  · rw [if_neg c0] at h
    refine Sp_of (own := RX6) (by decide) rfl rfl (Nat.le_of_ble_eq_true rfl) (fun C => ?_)
    refine G_aload_n dX6_advance_0 rfl ?_
    refine gf_X6_24 dX6_advance_1  ?_
    refine G_if_eq (tgt := 8) dX6_advance_4 (by decide) (fun c4 => ?_) (fun c4 => ?_)
    · rw [t6] at c4
      exact absurd c4 c0
    · refine G_vret dX6_advance_7 rfl (Nat.le_of_ble_eq_true rfl) (Nat.le_of_ble_eq_true rfl) ?_
      exact h M hT Fr.rfl
theorem s_X6_takeWord {i : Nat} (hi : i < 16) (hT : TkM M L T) (h : ∀ M', TkM M' L (tkW L (hSb2 i) T) → Fr dT M M' → P (.inl none) M') : Sp E yX6_takeWord cX6_takeWord zX6_takeWord [.ref (ad E 1 0 0), .ref (sK E i)] M P := by
  unfold tkW at h
  refine Sp_of (own := RX6) (by decide) rfl rfl (Nat.le_of_ble_eq_true rfl) (fun C => ?_)
  refine G_aload_n dX6_takeWord_0 rfl ?_
  refine G_aload_n dX6_takeWord_1 rfl ?_
  refine cv_X6_74 (cs' := 0) (ss' := 0) dX6_takeWord_2  (Nat.le_of_ble_eq_true rfl) (Nat.le_of_ble_eq_true rfl) (Nat.le_of_ble_eq_true rfl) rfl rfl (Nat.le_of_ble_eq_true rfl) (Nat.le_of_ble_eq_true rfl) rfl ?_
  refine s_X6_isWord hi hT (fun hw => hGo_i ?_) (fun hw => hGo_i ?_)
  · rw [if_pos hw] at h
    refine G_if_ne (tgt := 13) dX6_takeWord_5 (by decide) (fun c5 => ?_) (fun c5 => ?_)
    · refine G_aload_n dX6_takeWord_13 rfl ?_
      refine cv_X6_30 (cs' := 0) (ss' := 0) dX6_takeWord_14  (Nat.le_of_ble_eq_true rfl) (Nat.le_of_ble_eq_true rfl) (Nat.le_of_ble_eq_true rfl) rfl rfl (Nat.le_of_ble_eq_true rfl) (Nat.le_of_ble_eq_true rfl) rfl ?_
      refine s_X6_advance hT (fun M2 h2 hf2 => hGo_v ?_)
      refine G_vret dX6_takeWord_17 rfl (Nat.le_of_ble_eq_true rfl) (Nat.le_of_ble_eq_true rfl) ?_
      exact h M2 h2 hf2
    · exact absurd c5 (by decide)
  · rw [if_neg hw] at h
    refine G_if_ne (tgt := 13) dX6_takeWord_5 (by decide) (fun c5 => ?_) (fun c5 => ?_)
    · exact absurd rfl c5
    · refine G_aload_n dX6_takeWord_8 rfl ?_
      refine G_iconst (v := 1) dX6_takeWord_9 (by decide) ?_
      refine cv_X6_78 (cs' := 0) (ss' := 0) dX6_takeWord_10  (Nat.le_of_ble_eq_true rfl) (Nat.le_of_ble_eq_true rfl) (Nat.le_of_ble_eq_true rfl) rfl rfl (Nat.le_of_ble_eq_true rfl) (Nat.le_of_ble_eq_true rfl) rfl ?_
      refine s_X6_fail hT (fun M1 h1 hf1 => hGo_v ?_)
      refine G_aload_n dX6_takeWord_13 rfl ?_
      refine cv_X6_30 (cs' := 0) (ss' := 0) dX6_takeWord_14  (Nat.le_of_ble_eq_true rfl) (Nat.le_of_ble_eq_true rfl) (Nat.le_of_ble_eq_true rfl) rfl rfl (Nat.le_of_ble_eq_true rfl) (Nat.le_of_ble_eq_true rfl) rfl ?_
      refine s_X6_advance h1 (fun M2 h2 hf2 => hGo_v ?_)
      refine G_vret dX6_takeWord_17 rfl (Nat.le_of_ble_eq_true rfl) (Nat.le_of_ble_eq_true rfl) ?_
      exact h M2 h2 (hf1.trans hf2)
theorem s_X6_takeSemicolon (hT : TkM M L T) (h : ∀ M', TkM M' L (tkS L T) → Fr dT M M' → P (.inl none) M') : Sp E yX6_takeSemicolon cX6_takeSemicolon zX6_takeSemicolon [.ref (ad E 1 0 0)] M P := by
  unfold tkS at h
  obtain ⟨t1, t2, t3, t4, t5, t6, t7, t8, t9, t10⟩ := id hT
  refine Sp_of (own := RX6) (by decide) rfl rfl (Nat.le_of_ble_eq_true rfl) (fun C => ?_)
  refine G_aload_n dX6_takeSemicolon_0 rfl ?_
  refine gf_X6_33 dX6_takeSemicolon_1  ?_
  refine G_iconst (v := 3) dX6_takeSemicolon_4 (by decide) ?_
  refine G_icmp_eq (tgt := 13) dX6_takeSemicolon_5 (by decide) (fun c5 => ?_) (fun c5 => ?_)
  · rw [t2] at c5
    rw [if_pos ((nI_eq (by omega) (by decide)).mp (show nI T.kind = nI 3 from c5))] at h
    refine G_aload_n dX6_takeSemicolon_13 rfl ?_
    refine cv_X6_30 (cs' := 0) (ss' := 0) dX6_takeSemicolon_14  (Nat.le_of_ble_eq_true rfl) (Nat.le_of_ble_eq_true rfl) (Nat.le_of_ble_eq_true rfl) rfl rfl (Nat.le_of_ble_eq_true rfl) (Nat.le_of_ble_eq_true rfl) rfl ?_
    refine s_X6_advance hT (fun M2 h2 hf2 => hGo_v ?_)
    refine G_vret dX6_takeSemicolon_17 rfl (Nat.le_of_ble_eq_true rfl) (Nat.le_of_ble_eq_true rfl) ?_
    exact h M2 h2 hf2
  · rw [t2] at c5
    rw [if_neg (fun q => c5 (by rw [q]; rfl))] at h
    refine G_aload_n dX6_takeSemicolon_8 rfl ?_
    refine G_iconst (v := 1) dX6_takeSemicolon_9 (by decide) ?_
    refine cv_X6_78 (cs' := 0) (ss' := 0) dX6_takeSemicolon_10  (Nat.le_of_ble_eq_true rfl) (Nat.le_of_ble_eq_true rfl) (Nat.le_of_ble_eq_true rfl) rfl rfl (Nat.le_of_ble_eq_true rfl) (Nat.le_of_ble_eq_true rfl) rfl ?_
    refine s_X6_fail hT (fun M1 h1 hf1 => hGo_v ?_)
    refine G_aload_n dX6_takeSemicolon_13 rfl ?_
    refine cv_X6_30 (cs' := 0) (ss' := 0) dX6_takeSemicolon_14  (Nat.le_of_ble_eq_true rfl) (Nat.le_of_ble_eq_true rfl) (Nat.le_of_ble_eq_true rfl) rfl rfl (Nat.le_of_ble_eq_true rfl) (Nat.le_of_ble_eq_true rfl) rfl ?_
    refine s_X6_advance h1 (fun M2 h2 hf2 => hGo_v ?_)
    refine G_vret dX6_takeSemicolon_17 rfl (Nat.le_of_ble_eq_true rfl) (Nat.le_of_ble_eq_true rfl) ?_
    exact h M2 h2 (hf1.trans hf2)
theorem fai_val {c : Int32} : (fai c T).val = T.val := by
  unfold fai
  split <;> rfl
theorem lkN_val {a b : Int32} : (lkN a b T).val = T.val := by
  unfold lkN
  split <;> split <;> simp only [fai_val]
theorem s_X6_lookAtNumber {a b : Int32} (hT : TkM M L T) (h : ∀ M', TkM M' L (lkN a b T) → Fr dT M M' → P (.inl (some (.int T.val))) M') : Sp E yX6_lookAtNumber cX6_lookAtNumber zX6_lookAtNumber [.ref (ad E 1 0 0), .int a, .int b] M P := by
  unfold lkN at h
  obtain ⟨t1, t2, t3, t4, t5, t6, t7, t8, t9, t10⟩ := id hT
  refine Sp_of (own := RX6) (by decide) rfl rfl (Nat.le_of_ble_eq_true rfl) (fun C => ?_)
  have g13 : ∀ M1 T1, T1 = (if T.kind = 2 then T else fai 1 T) → T1.val = T.val → TkM M1 L T1 → Fr dT M M1 → G E C RX6 cX6_lookAtNumber zX6_lookAtNumber P 0 0 M1 13 [(0, .ref (ad E 1 0 0)), (1, .int a), (2, .int b)] [] := fun M1 T1 e1 ev h1 hf1 => by
    rw [← e1, ← ev] at h
    have g34 : ∀ M2 T2, TkM M2 L T2 → T2.val = T1.val → Fr dT M M2 → T2 = (if T1.val < a ∨ b < T1.val then fai 2 T1 else T1) → G E C RX6 cX6_lookAtNumber zX6_lookAtNumber P 0 0 M2 34 [(0, .ref (ad E 1 0 0)), (1, .int a), (2, .int b)] [] := fun M2 T2 h2 ev2 hf2 e2 => by
      refine G_aload_n dX6_lookAtNumber_34 rfl ?_
      refine gf_X6_56 dX6_lookAtNumber_35  ?_
      rw [h2.2.2.2.2.1, ev2]
      refine G_iret dX6_lookAtNumber_38 rfl rfl (Nat.le_of_ble_eq_true rfl) (Nat.le_of_ble_eq_true rfl) ?_
      rw [← e2] at h
      exact h M2 h2 hf2
    have g29 : T1.val < a ∨ b < T1.val → G E C RX6 cX6_lookAtNumber zX6_lookAtNumber P 0 0 M1 29 [(0, .ref (ad E 1 0 0)), (1, .int a), (2, .int b)] [] := fun q => by
      refine G_aload_n dX6_lookAtNumber_29 rfl ?_
      refine G_iconst (v := 2) dX6_lookAtNumber_30 (by decide) ?_
      refine cv_X6_78 (cs' := 0) (ss' := 0) dX6_lookAtNumber_31  (Nat.le_of_ble_eq_true rfl) (Nat.le_of_ble_eq_true rfl) (Nat.le_of_ble_eq_true rfl) rfl rfl (Nat.le_of_ble_eq_true rfl) (Nat.le_of_ble_eq_true rfl) rfl ?_
      refine s_X6_fail h1 (fun M2 h2 hf2 => hGo_v ?_)
      exact g34 M2 _ h2 fai_val (hf1.trans hf2) (by rw [if_pos q])
    refine G_aload_n dX6_lookAtNumber_13 rfl ?_
    refine gf_X6_56 dX6_lookAtNumber_14  ?_
    rw [h1.2.2.2.2.1]
    refine G_iload_n dX6_lookAtNumber_17 rfl ?_
    refine G_icmp_lt (tgt := 29) dX6_lookAtNumber_18 (by decide) (fun c18 => ?_) (fun c18 => ?_)
    · exact g29 (Or.inl c18)
    · refine G_aload_n dX6_lookAtNumber_21 rfl ?_
      refine gf_X6_56 dX6_lookAtNumber_22  ?_
      rw [h1.2.2.2.2.1]
      refine G_iload_n dX6_lookAtNumber_25 rfl ?_
      refine G_icmp_le (tgt := 34) dX6_lookAtNumber_26 (by decide) (fun c26 => ?_) (fun c26 => ?_)
      · exact g34 M1 T1 h1 rfl hf1 (by rw [if_neg (fun q => q.elim c18 (Int32.not_lt.mpr c26))])
      · exact g29 (Or.inr (Int32.not_le.mp c26))
  refine G_aload_n dX6_lookAtNumber_0 rfl ?_
  refine gf_X6_33 dX6_lookAtNumber_1  ?_
  refine G_iconst (v := 2) dX6_lookAtNumber_4 (by decide) ?_
  refine G_icmp_eq (tgt := 13) dX6_lookAtNumber_5 (by decide) (fun c5 => ?_) (fun c5 => ?_)
  · rw [t2] at c5
    have e := (nI_eq (by omega) (by decide)).mp (show nI T.kind = nI 2 from c5)
    exact g13 M T (by rw [if_pos e]) rfl hT Fr.rfl
  · rw [t2] at c5
    refine G_aload_n dX6_lookAtNumber_8 rfl ?_
    refine G_iconst (v := 1) dX6_lookAtNumber_9 (by decide) ?_
    refine cv_X6_78 (cs' := 0) (ss' := 0) dX6_lookAtNumber_10  (Nat.le_of_ble_eq_true rfl) (Nat.le_of_ble_eq_true rfl) (Nat.le_of_ble_eq_true rfl) rfl rfl (Nat.le_of_ble_eq_true rfl) (Nat.le_of_ble_eq_true rfl) rfl ?_
    refine s_X6_fail hT (fun M1 h1 hf1 => hGo_v ?_)
    exact g13 M1 _ (by rw [if_neg (fun q => c5 (by rw [q]; rfl))]) fai_val h1 hf1
theorem s_X6_takeNumber {a b : Int32} (hT : TkM M L T) (h : ∀ M', TkM M' L (tkN L a b T) → Fr dT M M' → P (.inl (some (.int T.val))) M') : Sp E yX6_takeNumber cX6_takeNumber zX6_takeNumber [.ref (ad E 1 0 0), .int a, .int b] M P := by
  unfold tkN at h
  refine Sp_of (own := RX6) (by decide) rfl rfl (Nat.le_of_ble_eq_true rfl) (fun C => ?_)
  refine G_aload_n dX6_takeNumber_0 rfl ?_
  refine G_iload_n dX6_takeNumber_1 rfl ?_
  refine G_iload_n dX6_takeNumber_2 rfl ?_
  refine cv_X6_81 (cs' := 0) (ss' := 0) dX6_takeNumber_3  (Nat.le_of_ble_eq_true rfl) (Nat.le_of_ble_eq_true rfl) (Nat.le_of_ble_eq_true rfl) rfl rfl (Nat.le_of_ble_eq_true rfl) (Nat.le_of_ble_eq_true rfl) rfl ?_
  refine s_X6_lookAtNumber hT (fun M1 h1 hf1 => hGo_i ?_)
  refine G_istore_n dX6_takeNumber_6 (Nat.le_of_ble_eq_true rfl) ?_
  refine G_aload_n dX6_takeNumber_7 rfl ?_
  refine cv_X6_30 (cs' := 0) (ss' := 0) dX6_takeNumber_8  (Nat.le_of_ble_eq_true rfl) (Nat.le_of_ble_eq_true rfl) (Nat.le_of_ble_eq_true rfl) rfl rfl (Nat.le_of_ble_eq_true rfl) (Nat.le_of_ble_eq_true rfl) rfl ?_
  refine s_X6_advance h1 (fun M2 h2 hf2 => hGo_v ?_)
  refine G_iload_n dX6_takeNumber_11 rfl ?_
  refine G_iret dX6_takeNumber_12 rfl rfl (Nat.le_of_ble_eq_true rfl) (Nat.le_of_ble_eq_true rfl) ?_
  exact h M2 h2 (hf1.trans hf2)
/-- the tokens may stand anyhow as a reading begins -/
theorem s_X6_begin (hX : Txt M 0 L) (h : ∀ M', TkM M' L (nxt L ⟨0, -1, 0, 0, 0, M.1 1 0 0 4⟩) → Fr dT M M' → P (.inl none) M') : Sp E yX6_begin cX6_begin zX6_begin [.ref (ad E 1 0 0)] M P := by
  refine Sp_of (own := RX6) (by decide) rfl rfl (Nat.le_of_ble_eq_true rfl) (fun C => ?_)
  refine G_aload_n dX6_begin_0 rfl ?_
  refine G_iconst (v := 0) dX6_begin_1 (by decide) ?_
  refine pf_X6_24 dX6_begin_2  ?_
  refine G_aload_n dX6_begin_5 rfl ?_
  refine G_iconst (v := (-1)) dX6_begin_6 (by decide) ?_
  refine pf_X6_20 dX6_begin_7  ?_
  refine G_aload_n dX6_begin_10 rfl ?_
  refine G_iconst (v := 0) dX6_begin_11 (by decide) ?_
  refine pf_X6_27 dX6_begin_12  ?_
  refine G_aload_n dX6_begin_15 rfl ?_
  refine cv_X6_30 (cs' := 0) (ss' := 0) dX6_begin_16  (Nat.le_of_ble_eq_true rfl) (Nat.le_of_ble_eq_true rfl) (Nat.le_of_ble_eq_true rfl) rfl rfl (Nat.le_of_ble_eq_true rfl) (Nat.le_of_ble_eq_true rfl) rfl ?_
  refine s_X6_adv0 (T := ⟨0, -1, 0, 0, 0, M.1 1 0 0 4⟩) (((hX.up (by decide)).up (by decide)).up (by decide)) ?_ ?_ ?_ ?_ (Nat.zero_le _) rfl (fun M2 h2 hf2 => hGo_v ?_)
  · exact up_at
  · (repeat (first | exact up_at | assumption | refine (up_t (by decide)).trans ?_ | refine (up_nk (by decide)).trans ?_))
    all_goals rfl
  · (repeat (first | exact up_at | assumption | refine (up_t (by decide)).trans ?_ | refine (up_nk (by decide)).trans ?_))
  · (repeat (first | exact up_at | assumption | refine (up_t (by decide)).trans ?_ | refine (up_nk (by decide)).trans ?_))
  · refine G_vret dX6_begin_19 rfl (Nat.le_of_ble_eq_true rfl) (Nat.le_of_ble_eq_true rfl) ?_
    exact h M2 h2 ((((Fr.rfl.up rfl).up rfl).up rfl).trans hf2)
end CTOK
