/-! ===== HomeworkBarter$Script ===== -/
section CSCR
variable {E : Ed} {M : Mm} {P : Res → Mm → Prop} {L : List Int32} {T : Tks}
abbrev Cmd : Type := Nat × List Int32
def vb (L : List Int32) (T : Tks) : Nat := if isW L T (hSb2 3) then 0 else if isW L T (hSb2 4) then 1 else if isW L T (hSb2 5) then 2 else if isW L T (hSb2 6) then 3 else if isW L T (hSb2 7) then 4 else if isW L T (hSb2 8) then 5 else if isW L T (hSb2 9) then 6 else 7
/-- what a command's arguments are: a number in a range, or a subject -/
def vK : Nat → List (Option (Int32 × Int32))
  | 0 => [some (0, 11), none, some (1, 20)]
  | 1 => [some (0, 11), some (0, 11), some (0, 20), some (0, 20)]
  | 2 => [some (0, 11), some (0, 11), none, some (1, 20)]
  | 3 => [some (0, 11), some (0, 11), none, some (1, 20)]
  | 4 => [some (0, 11), some (0, 5), some (0, 5)]
  | 5 => [some (0, 11)]
  | _ => [some (1, 10)]
def rA (L : List Int32) : List (Option (Int32 × Int32)) → Tks → Tks × List Int32
  | [], T => (T, [])
  | some (a, b) :: r, T => ((rA L r (tkN L a b T)).1, T.val :: (rA L r (tkN L a b T)).2)
  | none :: r, T => ((rA L r (tkB L T)).1, sbV L T :: (rA L r (tkB L T)).2)
theorem rA_len {ks : List (Option (Int32 × Int32))} : ∀ {T : Tks}, (rA L ks T).2.length = ks.length := by
  induction ks with
  | nil => intro T; rfl
  | cons k r ih =>
    intro T
    cases k with
    | none => exact congrArg (· + 1) ih
    | some x => exact congrArg (· + 1) ih
def cg (Cs : List Cmd) (i : Nat) : Cmd := Cs.getD i (0, [])
def Scr (M : Mm) (Cs : List Cmd) : Prop := M.1 4 0 0 2 = nI Cs.length ∧ Cs.length ≤ 25 ∧ ∀ i, i < Cs.length → (M.1 5 0 0 i = nI (cg Cs i).1 ∧ (cg Cs i).1 < 7 ∧ (cg Cs i).2.length = (vK (cg Cs i).1).length) ∧ ∀ t, t < (cg Cs i).2.length → M.1 6 0 0 (4 * i + t) = (cg Cs i).2.getD t 0
theorem Scr.keep {M' : Mm} {Cs : List Cmd} (h : Scr M Cs) (e : ∀ k, 4 ≤ k → k ≤ 6 → ∀ t, M'.1 k 0 0 t = M.1 k 0 0 t) : Scr M' Cs :=
  ⟨(e 4 (by decide) (by decide) 2).trans h.1, h.2.1, fun i hi => ⟨⟨(e 5 (by decide) (by decide) i).trans (h.2.2 i hi).1.1, (h.2.2 i hi).1.2⟩, fun t ht => (e 6 (by decide) (by decide) _).trans ((h.2.2 i hi).2 t ht)⟩⟩
theorem vK_len {v : Nat} : (vK v).length ≤ 4 := by
  unfold vK
  split <;> decide
theorem s_X4_verb {Cs : List Cmd} {i : Nat} (hS : Scr M Cs) (hi : i < Cs.length) (h : P (.inl (some (.int (nI (cg Cs i).1)))) M) : Sp E yX4_verb cX4_verb zX4_verb [.ref (ad E 4 0 0), .int (nI i)] M P := by
  have h25 := hS.2.1
  refine Sp_of (own := RX4) (by decide) rfl rfl (Nat.le_of_ble_eq_true rfl) (fun C => ?_)
  refine G_iload_n dX4_verb_0 rfl ?_
  refine G_if_lt (tgt := 21) dX4_verb_1 (by decide) (fun c1 => ?_) (fun c1 => ?_)
  · exact absurd c1 (nI_pos (by omega))
  · refine G_iload_n dX4_verb_4 rfl ?_
    refine G_aload_n dX4_verb_5 rfl ?_
    refine gf_X4_18 dX4_verb_6  ?_
    refine G_icmp_ge (tgt := 21) dX4_verb_9 (by decide) (fun c9 => ?_) (fun c9 => ?_)
    · rw [hS.1] at c9
      exact absurd c9 (nI_ge hi (by omega))
    · refine G_aload_n dX4_verb_12 rfl ?_
      refine gf_X4_9 dX4_verb_13  ?_
      refine G_iload_n dX4_verb_16 rfl ?_
      refine G_iald dX4_verb_17 ⟨by decide, rfl, rfl⟩ rfl rfl (show i < 25 by omega) (by decide) ?_
      refine G_goto (tgt := 22) dX4_verb_18 (by decide) ?_
      refine G_iret dX4_verb_22 rfl rfl (Nat.le_of_ble_eq_true rfl) (Nat.le_of_ble_eq_true rfl) ?_
      rw [(hS.2.2 i hi).1.1]
      exact h
/-- what is read of an argument: the command's own, or anything -/
theorem s_X4_argument {Cs : List Cmd} {i t : Nat} (hS : Scr M Cs) (hi : i < Cs.length) (ht : t < 4) (h : P (.inl (some (.int (M.1 6 0 0 (4 * i + t))))) M) : Sp E yX4_argument cX4_argument zX4_argument [.ref (ad E 4 0 0), .int (nI i), .int (nI t)] M P := by
  have h25 := hS.2.1
  refine Sp_of (own := RX4) (by decide) rfl rfl (Nat.le_of_ble_eq_true rfl) (fun C => ?_)
  refine G_iload_n dX4_argument_0 rfl ?_
  refine G_if_lt (tgt := 21) dX4_argument_1 (by decide) (fun c1 => ?_) (fun c1 => ?_)
  · exact absurd c1 (nI_pos (by omega))
  · refine G_iload_n dX4_argument_4 rfl ?_
    refine G_aload_n dX4_argument_5 rfl ?_
    refine gf_X4_18 dX4_argument_6  ?_
    refine G_icmp_ge (tgt := 21) dX4_argument_9 (by decide) (fun c9 => ?_) (fun c9 => ?_)
    · rw [hS.1] at c9
      exact absurd c9 (nI_ge hi (by omega))
    · refine G_iload_n dX4_argument_12 rfl ?_
      refine G_if_lt (tgt := 21) dX4_argument_13 (by decide) (fun c13 => ?_) (fun c13 => ?_)
      · exact absurd c13 (nI_pos (by omega))
      · refine G_iload_n dX4_argument_16 rfl ?_
        refine G_iconst (v := 4) dX4_argument_17 (by decide) ?_
        refine G_icmp_lt (tgt := 23) dX4_argument_18 (by decide) (fun c18 => ?_) (fun c18 => ?_)
        · refine G_aload_n dX4_argument_23 rfl ?_
          refine gf_X4_15 dX4_argument_24  ?_
          refine G_iload_n dX4_argument_27 rfl ?_
          refine G_iconst (v := 4) dX4_argument_28 (by decide) ?_
          refine G_imul dX4_argument_29 ?_
          refine G_iload_n dX4_argument_30 rfl ?_
          refine G_iadd dX4_argument_31 ?_
          refine G_iald dX4_argument_32 ⟨by decide, rfl, rfl⟩ rfl (show nI i * 4 + nI t = nI (4 * i + t) by rw [show (4 : Int32) = nI 4 from rfl, pk_mul, nI_add, Nat.mul_comm]) (show 4 * i + t < 100 by omega) (by decide) ?_
          refine G_iret dX4_argument_33 rfl rfl (Nat.le_of_ble_eq_true rfl) (Nat.le_of_ble_eq_true rfl) ?_
          exact h
        · exact absurd (nI_lt (b := 4) ht (by decide)) c18
theorem s_X4_verbHere (hT : TkM M L T) (h : P (.inl (some (.int (if vb L T = 7 then -1 else nI (vb L T))))) M) : Sp E yX4_verbHere cX4_verbHere zX4_verbHere [.ref (ad E 1 0 0)] M P := by
  unfold vb at h
  refine Sp_of (own := RX4) (by decide) rfl rfl (Nat.le_of_ble_eq_true rfl) (fun C => ?_)
  refine G_aload_n dX4_verbHere_0 rfl ?_
  refine G_ldcS 3 dX4_verbHere_1 (by decide) rfl rfl ?_
  refine cv_X4_58 (cs' := 0) (ss' := 0) dX4_verbHere_3  (Nat.le_of_ble_eq_true rfl) (Nat.le_of_ble_eq_true rfl) (Nat.le_of_ble_eq_true rfl) rfl rfl (Nat.le_of_ble_eq_true rfl) (Nat.le_of_ble_eq_true rfl) rfl ?_
  refine s_X6_isWord (i := 3) (by decide) hT (fun w0 => hGo_i ?_) (fun w0 => hGo_i ?_)
  · refine G_if_eq (tgt := 11) dX4_verbHere_6 (by decide) (fun c6 => ?_) (fun c6 => ?_)
    · exact absurd c6 (by decide)
    · refine G_iconst (v := 0) dX4_verbHere_9 (by decide) ?_
      refine G_iret dX4_verbHere_10 rfl rfl (Nat.le_of_ble_eq_true rfl) (Nat.le_of_ble_eq_true rfl) ?_
      rw [if_pos w0] at h
      exact h
  · refine G_if_eq (tgt := 11) dX4_verbHere_6 (by decide) (fun c6 => ?_) (fun c6 => ?_)
    rotate_left
    · exact absurd rfl c6
    refine G_aload_n dX4_verbHere_11 rfl ?_
    refine G_ldcS 4 dX4_verbHere_12 (by decide) rfl rfl ?_
    refine cv_X4_58 (cs' := 0) (ss' := 0) dX4_verbHere_14  (Nat.le_of_ble_eq_true rfl) (Nat.le_of_ble_eq_true rfl) (Nat.le_of_ble_eq_true rfl) rfl rfl (Nat.le_of_ble_eq_true rfl) (Nat.le_of_ble_eq_true rfl) rfl ?_
    refine s_X6_isWord (i := 4) (by decide) hT (fun w1 => hGo_i ?_) (fun w1 => hGo_i ?_)
    · refine G_if_eq (tgt := 22) dX4_verbHere_17 (by decide) (fun c17 => ?_) (fun c17 => ?_)
      · exact absurd c17 (by decide)
      · refine G_iconst (v := 1) dX4_verbHere_20 (by decide) ?_
        refine G_iret dX4_verbHere_21 rfl rfl (Nat.le_of_ble_eq_true rfl) (Nat.le_of_ble_eq_true rfl) ?_
        rw [if_neg w0] at h
        rw [if_pos w1] at h
        exact h
    · refine G_if_eq (tgt := 22) dX4_verbHere_17 (by decide) (fun c17 => ?_) (fun c17 => ?_)
      rotate_left
      · exact absurd rfl c17
      refine G_aload_n dX4_verbHere_22 rfl ?_
      refine G_ldcS 5 dX4_verbHere_23 (by decide) rfl rfl ?_
      refine cv_X4_58 (cs' := 0) (ss' := 0) dX4_verbHere_25  (Nat.le_of_ble_eq_true rfl) (Nat.le_of_ble_eq_true rfl) (Nat.le_of_ble_eq_true rfl) rfl rfl (Nat.le_of_ble_eq_true rfl) (Nat.le_of_ble_eq_true rfl) rfl ?_
      refine s_X6_isWord (i := 5) (by decide) hT (fun w2 => hGo_i ?_) (fun w2 => hGo_i ?_)
      · refine G_if_eq (tgt := 33) dX4_verbHere_28 (by decide) (fun c28 => ?_) (fun c28 => ?_)
        · exact absurd c28 (by decide)
        · refine G_iconst (v := 2) dX4_verbHere_31 (by decide) ?_
          refine G_iret dX4_verbHere_32 rfl rfl (Nat.le_of_ble_eq_true rfl) (Nat.le_of_ble_eq_true rfl) ?_
          rw [if_neg w0] at h
          rw [if_neg w1] at h
          rw [if_pos w2] at h
          exact h
      · refine G_if_eq (tgt := 33) dX4_verbHere_28 (by decide) (fun c28 => ?_) (fun c28 => ?_)
        rotate_left
        · exact absurd rfl c28
        refine G_aload_n dX4_verbHere_33 rfl ?_
        refine G_ldcS 6 dX4_verbHere_34 (by decide) rfl rfl ?_
        refine cv_X4_58 (cs' := 0) (ss' := 0) dX4_verbHere_36  (Nat.le_of_ble_eq_true rfl) (Nat.le_of_ble_eq_true rfl) (Nat.le_of_ble_eq_true rfl) rfl rfl (Nat.le_of_ble_eq_true rfl) (Nat.le_of_ble_eq_true rfl) rfl ?_
        refine s_X6_isWord (i := 6) (by decide) hT (fun w3 => hGo_i ?_) (fun w3 => hGo_i ?_)
        · refine G_if_eq (tgt := 44) dX4_verbHere_39 (by decide) (fun c39 => ?_) (fun c39 => ?_)
          · exact absurd c39 (by decide)
          · refine G_iconst (v := 3) dX4_verbHere_42 (by decide) ?_
            refine G_iret dX4_verbHere_43 rfl rfl (Nat.le_of_ble_eq_true rfl) (Nat.le_of_ble_eq_true rfl) ?_
            rw [if_neg w0] at h
            rw [if_neg w1] at h
            rw [if_neg w2] at h
            rw [if_pos w3] at h
            exact h
        · refine G_if_eq (tgt := 44) dX4_verbHere_39 (by decide) (fun c39 => ?_) (fun c39 => ?_)
          rotate_left
          · exact absurd rfl c39
          refine G_aload_n dX4_verbHere_44 rfl ?_
          refine G_ldcS 7 dX4_verbHere_45 (by decide) rfl rfl ?_
          refine cv_X4_58 (cs' := 0) (ss' := 0) dX4_verbHere_47  (Nat.le_of_ble_eq_true rfl) (Nat.le_of_ble_eq_true rfl) (Nat.le_of_ble_eq_true rfl) rfl rfl (Nat.le_of_ble_eq_true rfl) (Nat.le_of_ble_eq_true rfl) rfl ?_
          refine s_X6_isWord (i := 7) (by decide) hT (fun w4 => hGo_i ?_) (fun w4 => hGo_i ?_)
          · refine G_if_eq (tgt := 55) dX4_verbHere_50 (by decide) (fun c50 => ?_) (fun c50 => ?_)
            · exact absurd c50 (by decide)
            · refine G_iconst (v := 4) dX4_verbHere_53 (by decide) ?_
              refine G_iret dX4_verbHere_54 rfl rfl (Nat.le_of_ble_eq_true rfl) (Nat.le_of_ble_eq_true rfl) ?_
              rw [if_neg w0] at h
              rw [if_neg w1] at h
              rw [if_neg w2] at h
              rw [if_neg w3] at h
              rw [if_pos w4] at h
              exact h
          · refine G_if_eq (tgt := 55) dX4_verbHere_50 (by decide) (fun c50 => ?_) (fun c50 => ?_)
            rotate_left
            · exact absurd rfl c50
            refine G_aload_n dX4_verbHere_55 rfl ?_
            refine G_ldcS 8 dX4_verbHere_56 (by decide) rfl rfl ?_
            refine cv_X4_58 (cs' := 0) (ss' := 0) dX4_verbHere_58  (Nat.le_of_ble_eq_true rfl) (Nat.le_of_ble_eq_true rfl) (Nat.le_of_ble_eq_true rfl) rfl rfl (Nat.le_of_ble_eq_true rfl) (Nat.le_of_ble_eq_true rfl) rfl ?_
            refine s_X6_isWord (i := 8) (by decide) hT (fun w5 => hGo_i ?_) (fun w5 => hGo_i ?_)
            · refine G_if_eq (tgt := 66) dX4_verbHere_61 (by decide) (fun c61 => ?_) (fun c61 => ?_)
              · exact absurd c61 (by decide)
              · refine G_iconst (v := 5) dX4_verbHere_64 (by decide) ?_
                refine G_iret dX4_verbHere_65 rfl rfl (Nat.le_of_ble_eq_true rfl) (Nat.le_of_ble_eq_true rfl) ?_
                rw [if_neg w0] at h
                rw [if_neg w1] at h
                rw [if_neg w2] at h
                rw [if_neg w3] at h
                rw [if_neg w4] at h
                rw [if_pos w5] at h
                exact h
            · refine G_if_eq (tgt := 66) dX4_verbHere_61 (by decide) (fun c61 => ?_) (fun c61 => ?_)
              rotate_left
              · exact absurd rfl c61
              refine G_aload_n dX4_verbHere_66 rfl ?_
              refine G_ldcS 9 dX4_verbHere_67 (by decide) rfl rfl ?_
              refine cv_X4_58 (cs' := 0) (ss' := 0) dX4_verbHere_69  (Nat.le_of_ble_eq_true rfl) (Nat.le_of_ble_eq_true rfl) (Nat.le_of_ble_eq_true rfl) rfl rfl (Nat.le_of_ble_eq_true rfl) (Nat.le_of_ble_eq_true rfl) rfl ?_
              refine s_X6_isWord (i := 9) (by decide) hT (fun w6 => hGo_i ?_) (fun w6 => hGo_i ?_)
              · refine G_if_eq (tgt := 78) dX4_verbHere_72 (by decide) (fun c72 => ?_) (fun c72 => ?_)
                · exact absurd c72 (by decide)
                · refine G_bipush (v := 6) dX4_verbHere_75 (by decide) ?_
                  refine G_iret dX4_verbHere_77 rfl rfl (Nat.le_of_ble_eq_true rfl) (Nat.le_of_ble_eq_true rfl) ?_
                  rw [if_neg w0] at h
                  rw [if_neg w1] at h
                  rw [if_neg w2] at h
                  rw [if_neg w3] at h
                  rw [if_neg w4] at h
                  rw [if_neg w5] at h
                  rw [if_pos w6] at h
                  exact h
              · refine G_if_eq (tgt := 78) dX4_verbHere_72 (by decide) (fun c72 => ?_) (fun c72 => ?_)
                rotate_left
                · exact absurd rfl c72
                refine G_iconst (v := (-1)) dX4_verbHere_78 (by decide) ?_
                refine G_iret dX4_verbHere_79 rfl rfl (Nat.le_of_ble_eq_true rfl) (Nat.le_of_ble_eq_true rfl) ?_
                rw [if_neg w0] at h
                rw [if_neg w1] at h
                rw [if_neg w2] at h
                rw [if_neg w3] at h
                rw [if_neg w4] at h
                rw [if_neg w5] at h
                rw [if_neg w6] at h
                exact h
def dTA : Nat → Nat → Nat → Prop := fun k _ _ => k = 1 ∨ k = 6
/-- an argument laid -/
def Args (M : Mm) (n : Nat) (as : List Int32) : Prop := ∀ t, t < as.length → M.1 6 0 0 (n + t) = as.getD t 0
theorem TkM.up6 {M : Mm} {n : Nat} {v : Int32} (h : TkM M L T) : TkM (M.up 6 0 0 n v) L T := h.keep (fun k hk t => up_nk (by omega))
theorem Args1 {n : Nat} {a : Int32} (e0 : M.1 6 0 0 (n + 0) = a) : Args M n [a] := fun t ht => by
  have e : t = 0 := by have : t < 1 := ht; omega
  subst e
  exact e0
theorem Args3 {n : Nat} {a b c : Int32} (e0 : M.1 6 0 0 (n + 0) = a) (e1 : M.1 6 0 0 (n + 1) = b) (e2 : M.1 6 0 0 (n + 2) = c) : Args M n [a, b, c] := fun t ht => by
  have ht : t < 3 := ht
  rcases (show t = 0 ∨ t = 1 ∨ t = 2 by omega) with rfl | rfl | rfl
  · exact e0
  · exact e1
  · exact e2
theorem Args4 {n : Nat} {a b c d : Int32} (e0 : M.1 6 0 0 (n + 0) = a) (e1 : M.1 6 0 0 (n + 1) = b) (e2 : M.1 6 0 0 (n + 2) = c) (e3 : M.1 6 0 0 (n + 3) = d) : Args M n [a, b, c, d] := fun t ht => by
  have ht : t < 4 := ht
  rcases (show t = 0 ∨ t = 1 ∨ t = 2 ∨ t = 3 by omega) with rfl | rfl | rfl | rfl
  · exact e0
  · exact e1
  · exact e2
  · exact e3
theorem s_X4_rA0 {n : Nat} (hn : n + 4 ≤ 100) (hT : TkM M L T) (h : ∀ M', TkM M' L (tkN L 1 20 (tkB L (tkN L 0 11 (T)))) → Args M' n [(T : Tks).val, sbV L (tkN L 0 11 (T)), (tkB L (tkN L 0 11 (T)) : Tks).val] → (∀ k, k < n → M'.1 6 0 0 k = M.1 6 0 0 k) → Fr dTA M M' → P (.inl none) M') : Sp E yX4_readArguments cX4_readArguments zX4_readArguments [.ref (ad E 4 0 0), .ref (ad E 1 0 0), .int (nI 0), .int (nI n)] M P := by
  refine Sp_of (own := RX4) (by decide) rfl rfl (Nat.le_of_ble_eq_true rfl) (fun C => ?_)
  have hm : ∀ k j' p, dT k j' p → dTA k j' p := fun _ _ _ q => Or.inl q
  have e6 : ∀ {M1 M2 : Mm}, Fr dT M1 M2 → ∀ k, M2.1 6 0 0 k = M1.1 6 0 0 k := fun hf k => hf.at (fun q => by have : 6 = 1 := q; omega) k
  refine G_iload_n dX4_readArguments_0 rfl ?_
  refine G_if_lt (tgt := 15) dX4_readArguments_1 (by decide) (fun c1 => ?_) (fun c1 => ?_)
  · exact absurd c1 (nI_pos (by omega))
  · refine G_iload_n dX4_readArguments_4 rfl ?_
    refine G_iconst (v := 4) dX4_readArguments_5 (by decide) ?_
    refine G_iadd dX4_readArguments_6 ?_
    refine G_aload_n dX4_readArguments_7 rfl ?_
    refine gf_X4_15 dX4_readArguments_8  ?_
    refine G_alen (t := 0) (ty := .int) (k := 6) (j := 0) (p := 0) (x := (100, .inl (M.1 6 0 0))) dX4_readArguments_11 ⟨by decide, rfl, rfl⟩ rfl rfl rfl ?_
    refine G_icmp_le (tgt := 16) dX4_readArguments_12 (by decide) (fun c12 => ?_) (fun c12 => ?_)
    rotate_left
    · exact absurd (show nI n + nI 4 ≤ nI 100 by rw [nI_add]; exact nI_le hn (by decide)) c12
    refine G_iload_n dX4_readArguments_16 rfl ?_
    refine G_bipush (v := 6) dX4_readArguments_17 (by decide) ?_
    refine G_icmp_ne (tgt := 36) dX4_readArguments_19 (by decide) (fun c19 => ?_) (fun c19 => ?_)
    rotate_left
    · exact absurd c19 (by decide)
    refine G_aload_n dX4_readArguments_36 rfl ?_
    refine gf_X4_15 dX4_readArguments_37  ?_
    refine G_iload_n dX4_readArguments_40 rfl ?_
    refine G_aload_n dX4_readArguments_41 rfl ?_
    refine G_iconst (v := 0) dX4_readArguments_42 (by decide) ?_
    refine G_bipush (v := 11) dX4_readArguments_43 (by decide) ?_
    refine cv_X4_74 (cs' := 0) (ss' := 0) dX4_readArguments_45  (Nat.le_of_ble_eq_true rfl) (Nat.le_of_ble_eq_true rfl) (Nat.le_of_ble_eq_true rfl) rfl rfl (Nat.le_of_ble_eq_true rfl) (Nat.le_of_ble_eq_true rfl) rfl ?_
    refine s_X6_takeNumber hT (fun N0 t0 f0 => hGo_i ?_)
    refine G_iast dX4_readArguments_48 ⟨by decide, rfl, rfl⟩ (fun _ => rfl) rfl (show n + 0 < 100 by omega) (by decide) ?_
    refine G_iload_n dX4_readArguments_49 rfl ?_
    refine G_if_ne (tgt := 83) dX4_readArguments_50 (by decide) (fun c50 => ?_) (fun c50 => ?_)
    · exact absurd rfl c50
    refine G_aload_n dX4_readArguments_53 rfl ?_
    refine gf_X4_15 dX4_readArguments_54  ?_
    refine G_iload_n dX4_readArguments_57 rfl ?_
    refine G_iconst (v := 1) dX4_readArguments_58 (by decide) ?_
    refine G_iadd dX4_readArguments_59 ?_
    refine G_aload_n dX4_readArguments_60 rfl ?_
    refine cv_X4_78 (cs' := 0) (ss' := 0) dX4_readArguments_61  (Nat.le_of_ble_eq_true rfl) (Nat.le_of_ble_eq_true rfl) (Nat.le_of_ble_eq_true rfl) rfl rfl (Nat.le_of_ble_eq_true rfl) (Nat.le_of_ble_eq_true rfl) rfl ?_
    refine s_X6_takeSubject t0.up6 (fun N1 t1 f1 => hGo_i ?_)
    refine G_iast dX4_readArguments_64 ⟨by decide, rfl, rfl⟩ (fun _ => rfl) (show nI n + 1 = nI (n + 1) from nI_add n 1) (show n + 1 < 100 by omega) (by decide) ?_
    refine G_aload_n dX4_readArguments_65 rfl ?_
    refine gf_X4_15 dX4_readArguments_66  ?_
    refine G_iload_n dX4_readArguments_69 rfl ?_
    refine G_iconst (v := 2) dX4_readArguments_70 (by decide) ?_
    refine G_iadd dX4_readArguments_71 ?_
    refine G_aload_n dX4_readArguments_72 rfl ?_
    refine G_iconst (v := 1) dX4_readArguments_73 (by decide) ?_
    refine G_bipush (v := 20) dX4_readArguments_74 (by decide) ?_
    refine cv_X4_74 (cs' := 0) (ss' := 0) dX4_readArguments_76  (Nat.le_of_ble_eq_true rfl) (Nat.le_of_ble_eq_true rfl) (Nat.le_of_ble_eq_true rfl) rfl rfl (Nat.le_of_ble_eq_true rfl) (Nat.le_of_ble_eq_true rfl) rfl ?_
    refine s_X6_takeNumber t1.up6 (fun N2 t2 f2 => hGo_i ?_)
    refine G_iast dX4_readArguments_79 ⟨by decide, rfl, rfl⟩ (fun _ => rfl) (show nI n + 2 = nI (n + 2) from nI_add n 2) (show n + 2 < 100 by omega) (by decide) ?_
    refine G_goto (tgt := 224) dX4_readArguments_80 (by decide) ?_
    refine G_vret dX4_readArguments_224 rfl (Nat.le_of_ble_eq_true rfl) (Nat.le_of_ble_eq_true rfl) ?_
    refine h _ t2.up6 (Args3 ?_ ?_ ?_) (fun k hk => ?_) ?_
    · refine (up_t (by omega)).trans ((e6 f2 _).trans ?_)
      refine (up_t (by omega)).trans ((e6 f1 _).trans ?_)
      exact up_at
    · refine (up_t (by omega)).trans ((e6 f2 _).trans ?_)
      exact up_at
    · exact up_at
    · refine (up_t (by omega)).trans ((e6 f2 _).trans ?_)
      refine (up_t (by omega)).trans ((e6 f1 _).trans ?_)
      refine (up_t (by omega)).trans ((e6 f0 _).trans ?_)
      rfl
    · exact ((((((Fr.rfl).trans (f0.mono hm)).up (Or.inr rfl)).trans (f1.mono hm)).up (Or.inr rfl)).trans (f2.mono hm)).up (Or.inr rfl)
theorem s_X4_rA1 {n : Nat} (hn : n + 4 ≤ 100) (hT : TkM M L T) (h : ∀ M', TkM M' L (tkN L 0 20 (tkN L 0 20 (tkN L 0 11 (tkN L 0 11 (T))))) → Args M' n [(T : Tks).val, (tkN L 0 11 (T) : Tks).val, (tkN L 0 11 (tkN L 0 11 (T)) : Tks).val, (tkN L 0 20 (tkN L 0 11 (tkN L 0 11 (T))) : Tks).val] → (∀ k, k < n → M'.1 6 0 0 k = M.1 6 0 0 k) → Fr dTA M M' → P (.inl none) M') : Sp E yX4_readArguments cX4_readArguments zX4_readArguments [.ref (ad E 4 0 0), .ref (ad E 1 0 0), .int (nI 1), .int (nI n)] M P := by
  refine Sp_of (own := RX4) (by decide) rfl rfl (Nat.le_of_ble_eq_true rfl) (fun C => ?_)
  have hm : ∀ k j' p, dT k j' p → dTA k j' p := fun _ _ _ q => Or.inl q
  have e6 : ∀ {M1 M2 : Mm}, Fr dT M1 M2 → ∀ k, M2.1 6 0 0 k = M1.1 6 0 0 k := fun hf k => hf.at (fun q => by have : 6 = 1 := q; omega) k
  refine G_iload_n dX4_readArguments_0 rfl ?_
  refine G_if_lt (tgt := 15) dX4_readArguments_1 (by decide) (fun c1 => ?_) (fun c1 => ?_)
  · exact absurd c1 (nI_pos (by omega))
  · refine G_iload_n dX4_readArguments_4 rfl ?_
    refine G_iconst (v := 4) dX4_readArguments_5 (by decide) ?_
    refine G_iadd dX4_readArguments_6 ?_
    refine G_aload_n dX4_readArguments_7 rfl ?_
    refine gf_X4_15 dX4_readArguments_8  ?_
    refine G_alen (t := 0) (ty := .int) (k := 6) (j := 0) (p := 0) (x := (100, .inl (M.1 6 0 0))) dX4_readArguments_11 ⟨by decide, rfl, rfl⟩ rfl rfl rfl ?_
    refine G_icmp_le (tgt := 16) dX4_readArguments_12 (by decide) (fun c12 => ?_) (fun c12 => ?_)
    rotate_left
    · exact absurd (show nI n + nI 4 ≤ nI 100 by rw [nI_add]; exact nI_le hn (by decide)) c12
    refine G_iload_n dX4_readArguments_16 rfl ?_
    refine G_bipush (v := 6) dX4_readArguments_17 (by decide) ?_
    refine G_icmp_ne (tgt := 36) dX4_readArguments_19 (by decide) (fun c19 => ?_) (fun c19 => ?_)
    rotate_left
    · exact absurd c19 (by decide)
    refine G_aload_n dX4_readArguments_36 rfl ?_
    refine gf_X4_15 dX4_readArguments_37  ?_
    refine G_iload_n dX4_readArguments_40 rfl ?_
    refine G_aload_n dX4_readArguments_41 rfl ?_
    refine G_iconst (v := 0) dX4_readArguments_42 (by decide) ?_
    refine G_bipush (v := 11) dX4_readArguments_43 (by decide) ?_
    refine cv_X4_74 (cs' := 0) (ss' := 0) dX4_readArguments_45  (Nat.le_of_ble_eq_true rfl) (Nat.le_of_ble_eq_true rfl) (Nat.le_of_ble_eq_true rfl) rfl rfl (Nat.le_of_ble_eq_true rfl) (Nat.le_of_ble_eq_true rfl) rfl ?_
    refine s_X6_takeNumber hT (fun N0 t0 f0 => hGo_i ?_)
    refine G_iast dX4_readArguments_48 ⟨by decide, rfl, rfl⟩ (fun _ => rfl) rfl (show n + 0 < 100 by omega) (by decide) ?_
    refine G_iload_n dX4_readArguments_49 rfl ?_
    refine G_if_ne (tgt := 83) dX4_readArguments_50 (by decide) (fun c50 => ?_) (fun c50 => ?_)
    rotate_left
    · exact absurd c50 (by decide)
    refine G_iload_n dX4_readArguments_83 rfl ?_
    refine G_iconst (v := 4) dX4_readArguments_84 (by decide) ?_
    refine G_icmp_ne (tgt := 119) dX4_readArguments_85 (by decide) (fun c85 => ?_) (fun c85 => ?_)
    rotate_left
    · exact absurd c85 (by decide)
    refine G_iload_n dX4_readArguments_119 rfl ?_
    refine G_iconst (v := 1) dX4_readArguments_120 (by decide) ?_
    refine G_icmp_ne (tgt := 172) dX4_readArguments_121 (by decide) (fun c121 => ?_) (fun c121 => ?_)
    · exact absurd rfl c121
    refine G_aload_n dX4_readArguments_124 rfl ?_
    refine gf_X4_15 dX4_readArguments_125  ?_
    refine G_iload_n dX4_readArguments_128 rfl ?_
    refine G_iconst (v := 1) dX4_readArguments_129 (by decide) ?_
    refine G_iadd dX4_readArguments_130 ?_
    refine G_aload_n dX4_readArguments_131 rfl ?_
    refine G_iconst (v := 0) dX4_readArguments_132 (by decide) ?_
    refine G_bipush (v := 11) dX4_readArguments_133 (by decide) ?_
    refine cv_X4_74 (cs' := 0) (ss' := 0) dX4_readArguments_135  (Nat.le_of_ble_eq_true rfl) (Nat.le_of_ble_eq_true rfl) (Nat.le_of_ble_eq_true rfl) rfl rfl (Nat.le_of_ble_eq_true rfl) (Nat.le_of_ble_eq_true rfl) rfl ?_
    refine s_X6_takeNumber t0.up6 (fun N1 t1 f1 => hGo_i ?_)
    refine G_iast dX4_readArguments_138 ⟨by decide, rfl, rfl⟩ (fun _ => rfl) (show nI n + 1 = nI (n + 1) from nI_add n 1) (show n + 1 < 100 by omega) (by decide) ?_
    refine G_aload_n dX4_readArguments_139 rfl ?_
    refine gf_X4_15 dX4_readArguments_140  ?_
    refine G_iload_n dX4_readArguments_143 rfl ?_
    refine G_iconst (v := 2) dX4_readArguments_144 (by decide) ?_
    refine G_iadd dX4_readArguments_145 ?_
    refine G_aload_n dX4_readArguments_146 rfl ?_
    refine G_iconst (v := 0) dX4_readArguments_147 (by decide) ?_
    refine G_bipush (v := 20) dX4_readArguments_148 (by decide) ?_
    refine cv_X4_74 (cs' := 0) (ss' := 0) dX4_readArguments_150  (Nat.le_of_ble_eq_true rfl) (Nat.le_of_ble_eq_true rfl) (Nat.le_of_ble_eq_true rfl) rfl rfl (Nat.le_of_ble_eq_true rfl) (Nat.le_of_ble_eq_true rfl) rfl ?_
    refine s_X6_takeNumber t1.up6 (fun N2 t2 f2 => hGo_i ?_)
    refine G_iast dX4_readArguments_153 ⟨by decide, rfl, rfl⟩ (fun _ => rfl) (show nI n + 2 = nI (n + 2) from nI_add n 2) (show n + 2 < 100 by omega) (by decide) ?_
    refine G_aload_n dX4_readArguments_154 rfl ?_
    refine gf_X4_15 dX4_readArguments_155  ?_
    refine G_iload_n dX4_readArguments_158 rfl ?_
    refine G_iconst (v := 3) dX4_readArguments_159 (by decide) ?_
    refine G_iadd dX4_readArguments_160 ?_
    refine G_aload_n dX4_readArguments_161 rfl ?_
    refine G_iconst (v := 0) dX4_readArguments_162 (by decide) ?_
    refine G_bipush (v := 20) dX4_readArguments_163 (by decide) ?_
    refine cv_X4_74 (cs' := 0) (ss' := 0) dX4_readArguments_165  (Nat.le_of_ble_eq_true rfl) (Nat.le_of_ble_eq_true rfl) (Nat.le_of_ble_eq_true rfl) rfl rfl (Nat.le_of_ble_eq_true rfl) (Nat.le_of_ble_eq_true rfl) rfl ?_
    refine s_X6_takeNumber t2.up6 (fun N3 t3 f3 => hGo_i ?_)
    refine G_iast dX4_readArguments_168 ⟨by decide, rfl, rfl⟩ (fun _ => rfl) (show nI n + 3 = nI (n + 3) from nI_add n 3) (show n + 3 < 100 by omega) (by decide) ?_
    refine G_goto (tgt := 224) dX4_readArguments_169 (by decide) ?_
    refine G_vret dX4_readArguments_224 rfl (Nat.le_of_ble_eq_true rfl) (Nat.le_of_ble_eq_true rfl) ?_
    refine h _ t3.up6 (Args4 ?_ ?_ ?_ ?_) (fun k hk => ?_) ?_
    · refine (up_t (by omega)).trans ((e6 f3 _).trans ?_)
      refine (up_t (by omega)).trans ((e6 f2 _).trans ?_)
      refine (up_t (by omega)).trans ((e6 f1 _).trans ?_)
      exact up_at
    · refine (up_t (by omega)).trans ((e6 f3 _).trans ?_)
      refine (up_t (by omega)).trans ((e6 f2 _).trans ?_)
      exact up_at
    · refine (up_t (by omega)).trans ((e6 f3 _).trans ?_)
      exact up_at
    · exact up_at
    · refine (up_t (by omega)).trans ((e6 f3 _).trans ?_)
      refine (up_t (by omega)).trans ((e6 f2 _).trans ?_)
      refine (up_t (by omega)).trans ((e6 f1 _).trans ?_)
      refine (up_t (by omega)).trans ((e6 f0 _).trans ?_)
      rfl
    · exact ((((((((Fr.rfl).trans (f0.mono hm)).up (Or.inr rfl)).trans (f1.mono hm)).up (Or.inr rfl)).trans (f2.mono hm)).up (Or.inr rfl)).trans (f3.mono hm)).up (Or.inr rfl)
theorem s_X4_rA2 {n : Nat} (hn : n + 4 ≤ 100) (hT : TkM M L T) (h : ∀ M', TkM M' L (tkN L 1 20 (tkB L (tkN L 0 11 (tkN L 0 11 (T))))) → Args M' n [(T : Tks).val, (tkN L 0 11 (T) : Tks).val, sbV L (tkN L 0 11 (tkN L 0 11 (T))), (tkB L (tkN L 0 11 (tkN L 0 11 (T))) : Tks).val] → (∀ k, k < n → M'.1 6 0 0 k = M.1 6 0 0 k) → Fr dTA M M' → P (.inl none) M') : Sp E yX4_readArguments cX4_readArguments zX4_readArguments [.ref (ad E 4 0 0), .ref (ad E 1 0 0), .int (nI 2), .int (nI n)] M P := by
  refine Sp_of (own := RX4) (by decide) rfl rfl (Nat.le_of_ble_eq_true rfl) (fun C => ?_)
  have hm : ∀ k j' p, dT k j' p → dTA k j' p := fun _ _ _ q => Or.inl q
  have e6 : ∀ {M1 M2 : Mm}, Fr dT M1 M2 → ∀ k, M2.1 6 0 0 k = M1.1 6 0 0 k := fun hf k => hf.at (fun q => by have : 6 = 1 := q; omega) k
  refine G_iload_n dX4_readArguments_0 rfl ?_
  refine G_if_lt (tgt := 15) dX4_readArguments_1 (by decide) (fun c1 => ?_) (fun c1 => ?_)
  · exact absurd c1 (nI_pos (by omega))
  · refine G_iload_n dX4_readArguments_4 rfl ?_
    refine G_iconst (v := 4) dX4_readArguments_5 (by decide) ?_
    refine G_iadd dX4_readArguments_6 ?_
    refine G_aload_n dX4_readArguments_7 rfl ?_
    refine gf_X4_15 dX4_readArguments_8  ?_
    refine G_alen (t := 0) (ty := .int) (k := 6) (j := 0) (p := 0) (x := (100, .inl (M.1 6 0 0))) dX4_readArguments_11 ⟨by decide, rfl, rfl⟩ rfl rfl rfl ?_
    refine G_icmp_le (tgt := 16) dX4_readArguments_12 (by decide) (fun c12 => ?_) (fun c12 => ?_)
    rotate_left
    · exact absurd (show nI n + nI 4 ≤ nI 100 by rw [nI_add]; exact nI_le hn (by decide)) c12
    refine G_iload_n dX4_readArguments_16 rfl ?_
    refine G_bipush (v := 6) dX4_readArguments_17 (by decide) ?_
    refine G_icmp_ne (tgt := 36) dX4_readArguments_19 (by decide) (fun c19 => ?_) (fun c19 => ?_)
    rotate_left
    · exact absurd c19 (by decide)
    refine G_aload_n dX4_readArguments_36 rfl ?_
    refine gf_X4_15 dX4_readArguments_37  ?_
    refine G_iload_n dX4_readArguments_40 rfl ?_
    refine G_aload_n dX4_readArguments_41 rfl ?_
    refine G_iconst (v := 0) dX4_readArguments_42 (by decide) ?_
    refine G_bipush (v := 11) dX4_readArguments_43 (by decide) ?_
    refine cv_X4_74 (cs' := 0) (ss' := 0) dX4_readArguments_45  (Nat.le_of_ble_eq_true rfl) (Nat.le_of_ble_eq_true rfl) (Nat.le_of_ble_eq_true rfl) rfl rfl (Nat.le_of_ble_eq_true rfl) (Nat.le_of_ble_eq_true rfl) rfl ?_
    refine s_X6_takeNumber hT (fun N0 t0 f0 => hGo_i ?_)
    refine G_iast dX4_readArguments_48 ⟨by decide, rfl, rfl⟩ (fun _ => rfl) rfl (show n + 0 < 100 by omega) (by decide) ?_
    refine G_iload_n dX4_readArguments_49 rfl ?_
    refine G_if_ne (tgt := 83) dX4_readArguments_50 (by decide) (fun c50 => ?_) (fun c50 => ?_)
    rotate_left
    · exact absurd c50 (by decide)
    refine G_iload_n dX4_readArguments_83 rfl ?_
    refine G_iconst (v := 4) dX4_readArguments_84 (by decide) ?_
    refine G_icmp_ne (tgt := 119) dX4_readArguments_85 (by decide) (fun c85 => ?_) (fun c85 => ?_)
    rotate_left
    · exact absurd c85 (by decide)
    refine G_iload_n dX4_readArguments_119 rfl ?_
    refine G_iconst (v := 1) dX4_readArguments_120 (by decide) ?_
    refine G_icmp_ne (tgt := 172) dX4_readArguments_121 (by decide) (fun c121 => ?_) (fun c121 => ?_)
    rotate_left
    · exact absurd c121 (by decide)
    refine G_iload_n dX4_readArguments_172 rfl ?_
    refine G_iconst (v := 2) dX4_readArguments_173 (by decide) ?_
    refine G_icmp_eq (tgt := 182) dX4_readArguments_174 (by decide) (fun c174 => ?_) (fun c174 => ?_)
    rotate_left
    · exact absurd rfl c174
    refine G_aload_n dX4_readArguments_182 rfl ?_
    refine gf_X4_15 dX4_readArguments_183  ?_
    refine G_iload_n dX4_readArguments_186 rfl ?_
    refine G_iconst (v := 1) dX4_readArguments_187 (by decide) ?_
    refine G_iadd dX4_readArguments_188 ?_
    refine G_aload_n dX4_readArguments_189 rfl ?_
    refine G_iconst (v := 0) dX4_readArguments_190 (by decide) ?_
    refine G_bipush (v := 11) dX4_readArguments_191 (by decide) ?_
    refine cv_X4_74 (cs' := 0) (ss' := 0) dX4_readArguments_193  (Nat.le_of_ble_eq_true rfl) (Nat.le_of_ble_eq_true rfl) (Nat.le_of_ble_eq_true rfl) rfl rfl (Nat.le_of_ble_eq_true rfl) (Nat.le_of_ble_eq_true rfl) rfl ?_
    refine s_X6_takeNumber t0.up6 (fun N1 t1 f1 => hGo_i ?_)
    refine G_iast dX4_readArguments_196 ⟨by decide, rfl, rfl⟩ (fun _ => rfl) (show nI n + 1 = nI (n + 1) from nI_add n 1) (show n + 1 < 100 by omega) (by decide) ?_
    refine G_aload_n dX4_readArguments_197 rfl ?_
    refine gf_X4_15 dX4_readArguments_198  ?_
    refine G_iload_n dX4_readArguments_201 rfl ?_
    refine G_iconst (v := 2) dX4_readArguments_202 (by decide) ?_
    refine G_iadd dX4_readArguments_203 ?_
    refine G_aload_n dX4_readArguments_204 rfl ?_
    refine cv_X4_78 (cs' := 0) (ss' := 0) dX4_readArguments_205  (Nat.le_of_ble_eq_true rfl) (Nat.le_of_ble_eq_true rfl) (Nat.le_of_ble_eq_true rfl) rfl rfl (Nat.le_of_ble_eq_true rfl) (Nat.le_of_ble_eq_true rfl) rfl ?_
    refine s_X6_takeSubject t1.up6 (fun N2 t2 f2 => hGo_i ?_)
    refine G_iast dX4_readArguments_208 ⟨by decide, rfl, rfl⟩ (fun _ => rfl) (show nI n + 2 = nI (n + 2) from nI_add n 2) (show n + 2 < 100 by omega) (by decide) ?_
    refine G_aload_n dX4_readArguments_209 rfl ?_
    refine gf_X4_15 dX4_readArguments_210  ?_
    refine G_iload_n dX4_readArguments_213 rfl ?_
    refine G_iconst (v := 3) dX4_readArguments_214 (by decide) ?_
    refine G_iadd dX4_readArguments_215 ?_
    refine G_aload_n dX4_readArguments_216 rfl ?_
    refine G_iconst (v := 1) dX4_readArguments_217 (by decide) ?_
    refine G_bipush (v := 20) dX4_readArguments_218 (by decide) ?_
    refine cv_X4_74 (cs' := 0) (ss' := 0) dX4_readArguments_220  (Nat.le_of_ble_eq_true rfl) (Nat.le_of_ble_eq_true rfl) (Nat.le_of_ble_eq_true rfl) rfl rfl (Nat.le_of_ble_eq_true rfl) (Nat.le_of_ble_eq_true rfl) rfl ?_
    refine s_X6_takeNumber t2.up6 (fun N3 t3 f3 => hGo_i ?_)
    refine G_iast dX4_readArguments_223 ⟨by decide, rfl, rfl⟩ (fun _ => rfl) (show nI n + 3 = nI (n + 3) from nI_add n 3) (show n + 3 < 100 by omega) (by decide) ?_
    refine G_vret dX4_readArguments_224 rfl (Nat.le_of_ble_eq_true rfl) (Nat.le_of_ble_eq_true rfl) ?_
    refine h _ t3.up6 (Args4 ?_ ?_ ?_ ?_) (fun k hk => ?_) ?_
    · refine (up_t (by omega)).trans ((e6 f3 _).trans ?_)
      refine (up_t (by omega)).trans ((e6 f2 _).trans ?_)
      refine (up_t (by omega)).trans ((e6 f1 _).trans ?_)
      exact up_at
    · refine (up_t (by omega)).trans ((e6 f3 _).trans ?_)
      refine (up_t (by omega)).trans ((e6 f2 _).trans ?_)
      exact up_at
    · refine (up_t (by omega)).trans ((e6 f3 _).trans ?_)
      exact up_at
    · exact up_at
    · refine (up_t (by omega)).trans ((e6 f3 _).trans ?_)
      refine (up_t (by omega)).trans ((e6 f2 _).trans ?_)
      refine (up_t (by omega)).trans ((e6 f1 _).trans ?_)
      refine (up_t (by omega)).trans ((e6 f0 _).trans ?_)
      rfl
    · exact ((((((((Fr.rfl).trans (f0.mono hm)).up (Or.inr rfl)).trans (f1.mono hm)).up (Or.inr rfl)).trans (f2.mono hm)).up (Or.inr rfl)).trans (f3.mono hm)).up (Or.inr rfl)
theorem s_X4_rA3 {n : Nat} (hn : n + 4 ≤ 100) (hT : TkM M L T) (h : ∀ M', TkM M' L (tkN L 1 20 (tkB L (tkN L 0 11 (tkN L 0 11 (T))))) → Args M' n [(T : Tks).val, (tkN L 0 11 (T) : Tks).val, sbV L (tkN L 0 11 (tkN L 0 11 (T))), (tkB L (tkN L 0 11 (tkN L 0 11 (T))) : Tks).val] → (∀ k, k < n → M'.1 6 0 0 k = M.1 6 0 0 k) → Fr dTA M M' → P (.inl none) M') : Sp E yX4_readArguments cX4_readArguments zX4_readArguments [.ref (ad E 4 0 0), .ref (ad E 1 0 0), .int (nI 3), .int (nI n)] M P := by
  refine Sp_of (own := RX4) (by decide) rfl rfl (Nat.le_of_ble_eq_true rfl) (fun C => ?_)
  have hm : ∀ k j' p, dT k j' p → dTA k j' p := fun _ _ _ q => Or.inl q
  have e6 : ∀ {M1 M2 : Mm}, Fr dT M1 M2 → ∀ k, M2.1 6 0 0 k = M1.1 6 0 0 k := fun hf k => hf.at (fun q => by have : 6 = 1 := q; omega) k
  refine G_iload_n dX4_readArguments_0 rfl ?_
  refine G_if_lt (tgt := 15) dX4_readArguments_1 (by decide) (fun c1 => ?_) (fun c1 => ?_)
  · exact absurd c1 (nI_pos (by omega))
  · refine G_iload_n dX4_readArguments_4 rfl ?_
    refine G_iconst (v := 4) dX4_readArguments_5 (by decide) ?_
    refine G_iadd dX4_readArguments_6 ?_
    refine G_aload_n dX4_readArguments_7 rfl ?_
    refine gf_X4_15 dX4_readArguments_8  ?_
    refine G_alen (t := 0) (ty := .int) (k := 6) (j := 0) (p := 0) (x := (100, .inl (M.1 6 0 0))) dX4_readArguments_11 ⟨by decide, rfl, rfl⟩ rfl rfl rfl ?_
    refine G_icmp_le (tgt := 16) dX4_readArguments_12 (by decide) (fun c12 => ?_) (fun c12 => ?_)
    rotate_left
    · exact absurd (show nI n + nI 4 ≤ nI 100 by rw [nI_add]; exact nI_le hn (by decide)) c12
    refine G_iload_n dX4_readArguments_16 rfl ?_
    refine G_bipush (v := 6) dX4_readArguments_17 (by decide) ?_
    refine G_icmp_ne (tgt := 36) dX4_readArguments_19 (by decide) (fun c19 => ?_) (fun c19 => ?_)
    rotate_left
    · exact absurd c19 (by decide)
    refine G_aload_n dX4_readArguments_36 rfl ?_
    refine gf_X4_15 dX4_readArguments_37  ?_
    refine G_iload_n dX4_readArguments_40 rfl ?_
    refine G_aload_n dX4_readArguments_41 rfl ?_
    refine G_iconst (v := 0) dX4_readArguments_42 (by decide) ?_
    refine G_bipush (v := 11) dX4_readArguments_43 (by decide) ?_
    refine cv_X4_74 (cs' := 0) (ss' := 0) dX4_readArguments_45  (Nat.le_of_ble_eq_true rfl) (Nat.le_of_ble_eq_true rfl) (Nat.le_of_ble_eq_true rfl) rfl rfl (Nat.le_of_ble_eq_true rfl) (Nat.le_of_ble_eq_true rfl) rfl ?_
    refine s_X6_takeNumber hT (fun N0 t0 f0 => hGo_i ?_)
    refine G_iast dX4_readArguments_48 ⟨by decide, rfl, rfl⟩ (fun _ => rfl) rfl (show n + 0 < 100 by omega) (by decide) ?_
    refine G_iload_n dX4_readArguments_49 rfl ?_
    refine G_if_ne (tgt := 83) dX4_readArguments_50 (by decide) (fun c50 => ?_) (fun c50 => ?_)
    rotate_left
    · exact absurd c50 (by decide)
    refine G_iload_n dX4_readArguments_83 rfl ?_
    refine G_iconst (v := 4) dX4_readArguments_84 (by decide) ?_
    refine G_icmp_ne (tgt := 119) dX4_readArguments_85 (by decide) (fun c85 => ?_) (fun c85 => ?_)
    rotate_left
    · exact absurd c85 (by decide)
    refine G_iload_n dX4_readArguments_119 rfl ?_
    refine G_iconst (v := 1) dX4_readArguments_120 (by decide) ?_
    refine G_icmp_ne (tgt := 172) dX4_readArguments_121 (by decide) (fun c121 => ?_) (fun c121 => ?_)
    rotate_left
    · exact absurd c121 (by decide)
    refine G_iload_n dX4_readArguments_172 rfl ?_
    refine G_iconst (v := 2) dX4_readArguments_173 (by decide) ?_
    refine G_icmp_eq (tgt := 182) dX4_readArguments_174 (by decide) (fun c174 => ?_) (fun c174 => ?_)
    · exact absurd c174 (by decide)
    refine G_iload_n dX4_readArguments_177 rfl ?_
    refine G_iconst (v := 3) dX4_readArguments_178 (by decide) ?_
    refine G_icmp_ne (tgt := 224) dX4_readArguments_179 (by decide) (fun c179 => ?_) (fun c179 => ?_)
    · exact absurd rfl c179
    refine G_aload_n dX4_readArguments_182 rfl ?_
    refine gf_X4_15 dX4_readArguments_183  ?_
    refine G_iload_n dX4_readArguments_186 rfl ?_
    refine G_iconst (v := 1) dX4_readArguments_187 (by decide) ?_
    refine G_iadd dX4_readArguments_188 ?_
    refine G_aload_n dX4_readArguments_189 rfl ?_
    refine G_iconst (v := 0) dX4_readArguments_190 (by decide) ?_
    refine G_bipush (v := 11) dX4_readArguments_191 (by decide) ?_
    refine cv_X4_74 (cs' := 0) (ss' := 0) dX4_readArguments_193  (Nat.le_of_ble_eq_true rfl) (Nat.le_of_ble_eq_true rfl) (Nat.le_of_ble_eq_true rfl) rfl rfl (Nat.le_of_ble_eq_true rfl) (Nat.le_of_ble_eq_true rfl) rfl ?_
    refine s_X6_takeNumber t0.up6 (fun N1 t1 f1 => hGo_i ?_)
    refine G_iast dX4_readArguments_196 ⟨by decide, rfl, rfl⟩ (fun _ => rfl) (show nI n + 1 = nI (n + 1) from nI_add n 1) (show n + 1 < 100 by omega) (by decide) ?_
    refine G_aload_n dX4_readArguments_197 rfl ?_
    refine gf_X4_15 dX4_readArguments_198  ?_
    refine G_iload_n dX4_readArguments_201 rfl ?_
    refine G_iconst (v := 2) dX4_readArguments_202 (by decide) ?_
    refine G_iadd dX4_readArguments_203 ?_
    refine G_aload_n dX4_readArguments_204 rfl ?_
    refine cv_X4_78 (cs' := 0) (ss' := 0) dX4_readArguments_205  (Nat.le_of_ble_eq_true rfl) (Nat.le_of_ble_eq_true rfl) (Nat.le_of_ble_eq_true rfl) rfl rfl (Nat.le_of_ble_eq_true rfl) (Nat.le_of_ble_eq_true rfl) rfl ?_
    refine s_X6_takeSubject t1.up6 (fun N2 t2 f2 => hGo_i ?_)
    refine G_iast dX4_readArguments_208 ⟨by decide, rfl, rfl⟩ (fun _ => rfl) (show nI n + 2 = nI (n + 2) from nI_add n 2) (show n + 2 < 100 by omega) (by decide) ?_
    refine G_aload_n dX4_readArguments_209 rfl ?_
    refine gf_X4_15 dX4_readArguments_210  ?_
    refine G_iload_n dX4_readArguments_213 rfl ?_
    refine G_iconst (v := 3) dX4_readArguments_214 (by decide) ?_
    refine G_iadd dX4_readArguments_215 ?_
    refine G_aload_n dX4_readArguments_216 rfl ?_
    refine G_iconst (v := 1) dX4_readArguments_217 (by decide) ?_
    refine G_bipush (v := 20) dX4_readArguments_218 (by decide) ?_
    refine cv_X4_74 (cs' := 0) (ss' := 0) dX4_readArguments_220  (Nat.le_of_ble_eq_true rfl) (Nat.le_of_ble_eq_true rfl) (Nat.le_of_ble_eq_true rfl) rfl rfl (Nat.le_of_ble_eq_true rfl) (Nat.le_of_ble_eq_true rfl) rfl ?_
    refine s_X6_takeNumber t2.up6 (fun N3 t3 f3 => hGo_i ?_)
    refine G_iast dX4_readArguments_223 ⟨by decide, rfl, rfl⟩ (fun _ => rfl) (show nI n + 3 = nI (n + 3) from nI_add n 3) (show n + 3 < 100 by omega) (by decide) ?_
    refine G_vret dX4_readArguments_224 rfl (Nat.le_of_ble_eq_true rfl) (Nat.le_of_ble_eq_true rfl) ?_
    refine h _ t3.up6 (Args4 ?_ ?_ ?_ ?_) (fun k hk => ?_) ?_
    · refine (up_t (by omega)).trans ((e6 f3 _).trans ?_)
      refine (up_t (by omega)).trans ((e6 f2 _).trans ?_)
      refine (up_t (by omega)).trans ((e6 f1 _).trans ?_)
      exact up_at
    · refine (up_t (by omega)).trans ((e6 f3 _).trans ?_)
      refine (up_t (by omega)).trans ((e6 f2 _).trans ?_)
      exact up_at
    · refine (up_t (by omega)).trans ((e6 f3 _).trans ?_)
      exact up_at
    · exact up_at
    · refine (up_t (by omega)).trans ((e6 f3 _).trans ?_)
      refine (up_t (by omega)).trans ((e6 f2 _).trans ?_)
      refine (up_t (by omega)).trans ((e6 f1 _).trans ?_)
      refine (up_t (by omega)).trans ((e6 f0 _).trans ?_)
      rfl
    · exact ((((((((Fr.rfl).trans (f0.mono hm)).up (Or.inr rfl)).trans (f1.mono hm)).up (Or.inr rfl)).trans (f2.mono hm)).up (Or.inr rfl)).trans (f3.mono hm)).up (Or.inr rfl)
theorem s_X4_rA4 {n : Nat} (hn : n + 4 ≤ 100) (hT : TkM M L T) (h : ∀ M', TkM M' L (tkN L 0 5 (tkN L 0 5 (tkN L 0 11 (T)))) → Args M' n [(T : Tks).val, (tkN L 0 11 (T) : Tks).val, (tkN L 0 5 (tkN L 0 11 (T)) : Tks).val] → (∀ k, k < n → M'.1 6 0 0 k = M.1 6 0 0 k) → Fr dTA M M' → P (.inl none) M') : Sp E yX4_readArguments cX4_readArguments zX4_readArguments [.ref (ad E 4 0 0), .ref (ad E 1 0 0), .int (nI 4), .int (nI n)] M P := by
  refine Sp_of (own := RX4) (by decide) rfl rfl (Nat.le_of_ble_eq_true rfl) (fun C => ?_)
  have hm : ∀ k j' p, dT k j' p → dTA k j' p := fun _ _ _ q => Or.inl q
  have e6 : ∀ {M1 M2 : Mm}, Fr dT M1 M2 → ∀ k, M2.1 6 0 0 k = M1.1 6 0 0 k := fun hf k => hf.at (fun q => by have : 6 = 1 := q; omega) k
  refine G_iload_n dX4_readArguments_0 rfl ?_
  refine G_if_lt (tgt := 15) dX4_readArguments_1 (by decide) (fun c1 => ?_) (fun c1 => ?_)
  · exact absurd c1 (nI_pos (by omega))
  · refine G_iload_n dX4_readArguments_4 rfl ?_
    refine G_iconst (v := 4) dX4_readArguments_5 (by decide) ?_
    refine G_iadd dX4_readArguments_6 ?_
    refine G_aload_n dX4_readArguments_7 rfl ?_
    refine gf_X4_15 dX4_readArguments_8  ?_
    refine G_alen (t := 0) (ty := .int) (k := 6) (j := 0) (p := 0) (x := (100, .inl (M.1 6 0 0))) dX4_readArguments_11 ⟨by decide, rfl, rfl⟩ rfl rfl rfl ?_
    refine G_icmp_le (tgt := 16) dX4_readArguments_12 (by decide) (fun c12 => ?_) (fun c12 => ?_)
    rotate_left
    · exact absurd (show nI n + nI 4 ≤ nI 100 by rw [nI_add]; exact nI_le hn (by decide)) c12
    refine G_iload_n dX4_readArguments_16 rfl ?_
    refine G_bipush (v := 6) dX4_readArguments_17 (by decide) ?_
    refine G_icmp_ne (tgt := 36) dX4_readArguments_19 (by decide) (fun c19 => ?_) (fun c19 => ?_)
    rotate_left
    · exact absurd c19 (by decide)
    refine G_aload_n dX4_readArguments_36 rfl ?_
    refine gf_X4_15 dX4_readArguments_37  ?_
    refine G_iload_n dX4_readArguments_40 rfl ?_
    refine G_aload_n dX4_readArguments_41 rfl ?_
    refine G_iconst (v := 0) dX4_readArguments_42 (by decide) ?_
    refine G_bipush (v := 11) dX4_readArguments_43 (by decide) ?_
    refine cv_X4_74 (cs' := 0) (ss' := 0) dX4_readArguments_45  (Nat.le_of_ble_eq_true rfl) (Nat.le_of_ble_eq_true rfl) (Nat.le_of_ble_eq_true rfl) rfl rfl (Nat.le_of_ble_eq_true rfl) (Nat.le_of_ble_eq_true rfl) rfl ?_
    refine s_X6_takeNumber hT (fun N0 t0 f0 => hGo_i ?_)
    refine G_iast dX4_readArguments_48 ⟨by decide, rfl, rfl⟩ (fun _ => rfl) rfl (show n + 0 < 100 by omega) (by decide) ?_
    refine G_iload_n dX4_readArguments_49 rfl ?_
    refine G_if_ne (tgt := 83) dX4_readArguments_50 (by decide) (fun c50 => ?_) (fun c50 => ?_)
    rotate_left
    · exact absurd c50 (by decide)
    refine G_iload_n dX4_readArguments_83 rfl ?_
    refine G_iconst (v := 4) dX4_readArguments_84 (by decide) ?_
    refine G_icmp_ne (tgt := 119) dX4_readArguments_85 (by decide) (fun c85 => ?_) (fun c85 => ?_)
    · exact absurd rfl c85
    refine G_aload_n dX4_readArguments_88 rfl ?_
    refine gf_X4_15 dX4_readArguments_89  ?_
    refine G_iload_n dX4_readArguments_92 rfl ?_
    refine G_iconst (v := 1) dX4_readArguments_93 (by decide) ?_
    refine G_iadd dX4_readArguments_94 ?_
    refine G_aload_n dX4_readArguments_95 rfl ?_
    refine G_iconst (v := 0) dX4_readArguments_96 (by decide) ?_
    refine G_iconst (v := 5) dX4_readArguments_97 (by decide) ?_
    refine cv_X4_74 (cs' := 0) (ss' := 0) dX4_readArguments_98  (Nat.le_of_ble_eq_true rfl) (Nat.le_of_ble_eq_true rfl) (Nat.le_of_ble_eq_true rfl) rfl rfl (Nat.le_of_ble_eq_true rfl) (Nat.le_of_ble_eq_true rfl) rfl ?_
    refine s_X6_takeNumber t0.up6 (fun N1 t1 f1 => hGo_i ?_)
    refine G_iast dX4_readArguments_101 ⟨by decide, rfl, rfl⟩ (fun _ => rfl) (show nI n + 1 = nI (n + 1) from nI_add n 1) (show n + 1 < 100 by omega) (by decide) ?_
    refine G_aload_n dX4_readArguments_102 rfl ?_
    refine gf_X4_15 dX4_readArguments_103  ?_
    refine G_iload_n dX4_readArguments_106 rfl ?_
    refine G_iconst (v := 2) dX4_readArguments_107 (by decide) ?_
    refine G_iadd dX4_readArguments_108 ?_
    refine G_aload_n dX4_readArguments_109 rfl ?_
    refine G_iconst (v := 0) dX4_readArguments_110 (by decide) ?_
    refine G_iconst (v := 5) dX4_readArguments_111 (by decide) ?_
    refine cv_X4_74 (cs' := 0) (ss' := 0) dX4_readArguments_112  (Nat.le_of_ble_eq_true rfl) (Nat.le_of_ble_eq_true rfl) (Nat.le_of_ble_eq_true rfl) rfl rfl (Nat.le_of_ble_eq_true rfl) (Nat.le_of_ble_eq_true rfl) rfl ?_
    refine s_X6_takeNumber t1.up6 (fun N2 t2 f2 => hGo_i ?_)
    refine G_iast dX4_readArguments_115 ⟨by decide, rfl, rfl⟩ (fun _ => rfl) (show nI n + 2 = nI (n + 2) from nI_add n 2) (show n + 2 < 100 by omega) (by decide) ?_
    refine G_goto (tgt := 224) dX4_readArguments_116 (by decide) ?_
    refine G_vret dX4_readArguments_224 rfl (Nat.le_of_ble_eq_true rfl) (Nat.le_of_ble_eq_true rfl) ?_
    refine h _ t2.up6 (Args3 ?_ ?_ ?_) (fun k hk => ?_) ?_
    · refine (up_t (by omega)).trans ((e6 f2 _).trans ?_)
      refine (up_t (by omega)).trans ((e6 f1 _).trans ?_)
      exact up_at
    · refine (up_t (by omega)).trans ((e6 f2 _).trans ?_)
      exact up_at
    · exact up_at
    · refine (up_t (by omega)).trans ((e6 f2 _).trans ?_)
      refine (up_t (by omega)).trans ((e6 f1 _).trans ?_)
      refine (up_t (by omega)).trans ((e6 f0 _).trans ?_)
      rfl
    · exact ((((((Fr.rfl).trans (f0.mono hm)).up (Or.inr rfl)).trans (f1.mono hm)).up (Or.inr rfl)).trans (f2.mono hm)).up (Or.inr rfl)
theorem s_X4_rA5 {n : Nat} (hn : n + 4 ≤ 100) (hT : TkM M L T) (h : ∀ M', TkM M' L (tkN L 0 11 (T)) → Args M' n [(T : Tks).val] → (∀ k, k < n → M'.1 6 0 0 k = M.1 6 0 0 k) → Fr dTA M M' → P (.inl none) M') : Sp E yX4_readArguments cX4_readArguments zX4_readArguments [.ref (ad E 4 0 0), .ref (ad E 1 0 0), .int (nI 5), .int (nI n)] M P := by
  refine Sp_of (own := RX4) (by decide) rfl rfl (Nat.le_of_ble_eq_true rfl) (fun C => ?_)
  have hm : ∀ k j' p, dT k j' p → dTA k j' p := fun _ _ _ q => Or.inl q
  have e6 : ∀ {M1 M2 : Mm}, Fr dT M1 M2 → ∀ k, M2.1 6 0 0 k = M1.1 6 0 0 k := fun hf k => hf.at (fun q => by have : 6 = 1 := q; omega) k
  refine G_iload_n dX4_readArguments_0 rfl ?_
  refine G_if_lt (tgt := 15) dX4_readArguments_1 (by decide) (fun c1 => ?_) (fun c1 => ?_)
  · exact absurd c1 (nI_pos (by omega))
  · refine G_iload_n dX4_readArguments_4 rfl ?_
    refine G_iconst (v := 4) dX4_readArguments_5 (by decide) ?_
    refine G_iadd dX4_readArguments_6 ?_
    refine G_aload_n dX4_readArguments_7 rfl ?_
    refine gf_X4_15 dX4_readArguments_8  ?_
    refine G_alen (t := 0) (ty := .int) (k := 6) (j := 0) (p := 0) (x := (100, .inl (M.1 6 0 0))) dX4_readArguments_11 ⟨by decide, rfl, rfl⟩ rfl rfl rfl ?_
    refine G_icmp_le (tgt := 16) dX4_readArguments_12 (by decide) (fun c12 => ?_) (fun c12 => ?_)
    rotate_left
    · exact absurd (show nI n + nI 4 ≤ nI 100 by rw [nI_add]; exact nI_le hn (by decide)) c12
    refine G_iload_n dX4_readArguments_16 rfl ?_
    refine G_bipush (v := 6) dX4_readArguments_17 (by decide) ?_
    refine G_icmp_ne (tgt := 36) dX4_readArguments_19 (by decide) (fun c19 => ?_) (fun c19 => ?_)
    rotate_left
    · exact absurd c19 (by decide)
    refine G_aload_n dX4_readArguments_36 rfl ?_
    refine gf_X4_15 dX4_readArguments_37  ?_
    refine G_iload_n dX4_readArguments_40 rfl ?_
    refine G_aload_n dX4_readArguments_41 rfl ?_
    refine G_iconst (v := 0) dX4_readArguments_42 (by decide) ?_
    refine G_bipush (v := 11) dX4_readArguments_43 (by decide) ?_
    refine cv_X4_74 (cs' := 0) (ss' := 0) dX4_readArguments_45  (Nat.le_of_ble_eq_true rfl) (Nat.le_of_ble_eq_true rfl) (Nat.le_of_ble_eq_true rfl) rfl rfl (Nat.le_of_ble_eq_true rfl) (Nat.le_of_ble_eq_true rfl) rfl ?_
    refine s_X6_takeNumber hT (fun N0 t0 f0 => hGo_i ?_)
    refine G_iast dX4_readArguments_48 ⟨by decide, rfl, rfl⟩ (fun _ => rfl) rfl (show n + 0 < 100 by omega) (by decide) ?_
    refine G_iload_n dX4_readArguments_49 rfl ?_
    refine G_if_ne (tgt := 83) dX4_readArguments_50 (by decide) (fun c50 => ?_) (fun c50 => ?_)
    rotate_left
    · exact absurd c50 (by decide)
    refine G_iload_n dX4_readArguments_83 rfl ?_
    refine G_iconst (v := 4) dX4_readArguments_84 (by decide) ?_
    refine G_icmp_ne (tgt := 119) dX4_readArguments_85 (by decide) (fun c85 => ?_) (fun c85 => ?_)
    rotate_left
    · exact absurd c85 (by decide)
    refine G_iload_n dX4_readArguments_119 rfl ?_
    refine G_iconst (v := 1) dX4_readArguments_120 (by decide) ?_
    refine G_icmp_ne (tgt := 172) dX4_readArguments_121 (by decide) (fun c121 => ?_) (fun c121 => ?_)
    rotate_left
    · exact absurd c121 (by decide)
    refine G_iload_n dX4_readArguments_172 rfl ?_
    refine G_iconst (v := 2) dX4_readArguments_173 (by decide) ?_
    refine G_icmp_eq (tgt := 182) dX4_readArguments_174 (by decide) (fun c174 => ?_) (fun c174 => ?_)
    · exact absurd c174 (by decide)
    refine G_iload_n dX4_readArguments_177 rfl ?_
    refine G_iconst (v := 3) dX4_readArguments_178 (by decide) ?_
    refine G_icmp_ne (tgt := 224) dX4_readArguments_179 (by decide) (fun c179 => ?_) (fun c179 => ?_)
    rotate_left
    · exact absurd c179 (by decide)
    refine G_vret dX4_readArguments_224 rfl (Nat.le_of_ble_eq_true rfl) (Nat.le_of_ble_eq_true rfl) ?_
    refine h _ t0.up6 (Args1 ?_) (fun k hk => ?_) ?_
    · exact up_at
    · refine (up_t (by omega)).trans ((e6 f0 _).trans ?_)
      rfl
    · exact ((Fr.rfl).trans (f0.mono hm)).up (Or.inr rfl)
theorem s_X4_rA6 {n : Nat} (hn : n + 4 ≤ 100) (hT : TkM M L T) (h : ∀ M', TkM M' L (tkN L 1 10 (T)) → Args M' n [(T : Tks).val] → (∀ k, k < n → M'.1 6 0 0 k = M.1 6 0 0 k) → Fr dTA M M' → P (.inl none) M') : Sp E yX4_readArguments cX4_readArguments zX4_readArguments [.ref (ad E 4 0 0), .ref (ad E 1 0 0), .int (nI 6), .int (nI n)] M P := by
  refine Sp_of (own := RX4) (by decide) rfl rfl (Nat.le_of_ble_eq_true rfl) (fun C => ?_)
  have hm : ∀ k j' p, dT k j' p → dTA k j' p := fun _ _ _ q => Or.inl q
  have e6 : ∀ {M1 M2 : Mm}, Fr dT M1 M2 → ∀ k, M2.1 6 0 0 k = M1.1 6 0 0 k := fun hf k => hf.at (fun q => by have : 6 = 1 := q; omega) k
  refine G_iload_n dX4_readArguments_0 rfl ?_
  refine G_if_lt (tgt := 15) dX4_readArguments_1 (by decide) (fun c1 => ?_) (fun c1 => ?_)
  · exact absurd c1 (nI_pos (by omega))
  · refine G_iload_n dX4_readArguments_4 rfl ?_
    refine G_iconst (v := 4) dX4_readArguments_5 (by decide) ?_
    refine G_iadd dX4_readArguments_6 ?_
    refine G_aload_n dX4_readArguments_7 rfl ?_
    refine gf_X4_15 dX4_readArguments_8  ?_
    refine G_alen (t := 0) (ty := .int) (k := 6) (j := 0) (p := 0) (x := (100, .inl (M.1 6 0 0))) dX4_readArguments_11 ⟨by decide, rfl, rfl⟩ rfl rfl rfl ?_
    refine G_icmp_le (tgt := 16) dX4_readArguments_12 (by decide) (fun c12 => ?_) (fun c12 => ?_)
    rotate_left
    · exact absurd (show nI n + nI 4 ≤ nI 100 by rw [nI_add]; exact nI_le hn (by decide)) c12
    refine G_iload_n dX4_readArguments_16 rfl ?_
    refine G_bipush (v := 6) dX4_readArguments_17 (by decide) ?_
    refine G_icmp_ne (tgt := 36) dX4_readArguments_19 (by decide) (fun c19 => ?_) (fun c19 => ?_)
    · exact absurd rfl c19
    refine G_aload_n dX4_readArguments_22 rfl ?_
    refine gf_X4_15 dX4_readArguments_23  ?_
    refine G_iload_n dX4_readArguments_26 rfl ?_
    refine G_aload_n dX4_readArguments_27 rfl ?_
    refine G_iconst (v := 1) dX4_readArguments_28 (by decide) ?_
    refine G_bipush (v := 10) dX4_readArguments_29 (by decide) ?_
    refine cv_X4_74 (cs' := 0) (ss' := 0) dX4_readArguments_31  (Nat.le_of_ble_eq_true rfl) (Nat.le_of_ble_eq_true rfl) (Nat.le_of_ble_eq_true rfl) rfl rfl (Nat.le_of_ble_eq_true rfl) (Nat.le_of_ble_eq_true rfl) rfl ?_
    refine s_X6_takeNumber hT (fun N0 t0 f0 => hGo_i ?_)
    refine G_iast dX4_readArguments_34 ⟨by decide, rfl, rfl⟩ (fun _ => rfl) rfl (show n + 0 < 100 by omega) (by decide) ?_
    refine G_vret dX4_readArguments_35 rfl (Nat.le_of_ble_eq_true rfl) (Nat.le_of_ble_eq_true rfl) ?_
    refine h _ t0.up6 (Args1 ?_) (fun k hk => ?_) ?_
    · exact up_at
    · refine (up_t (by omega)).trans ((e6 f0 _).trans ?_)
      rfl
    · exact ((Fr.rfl).trans (f0.mono hm)).up (Or.inr rfl)
theorem rA_0 : rA L (vK 0) T = (tkN L 1 20 (tkB L (tkN L 0 11 (T))), [(T : Tks).val, sbV L (tkN L 0 11 (T)), (tkB L (tkN L 0 11 (T)) : Tks).val]) := by simp only [vK, rA]
theorem rA_1 : rA L (vK 1) T = (tkN L 0 20 (tkN L 0 20 (tkN L 0 11 (tkN L 0 11 (T)))), [(T : Tks).val, (tkN L 0 11 (T) : Tks).val, (tkN L 0 11 (tkN L 0 11 (T)) : Tks).val, (tkN L 0 20 (tkN L 0 11 (tkN L 0 11 (T))) : Tks).val]) := by simp only [vK, rA]
theorem rA_2 : rA L (vK 2) T = (tkN L 1 20 (tkB L (tkN L 0 11 (tkN L 0 11 (T)))), [(T : Tks).val, (tkN L 0 11 (T) : Tks).val, sbV L (tkN L 0 11 (tkN L 0 11 (T))), (tkB L (tkN L 0 11 (tkN L 0 11 (T))) : Tks).val]) := by simp only [vK, rA]
theorem rA_3 : rA L (vK 3) T = (tkN L 1 20 (tkB L (tkN L 0 11 (tkN L 0 11 (T)))), [(T : Tks).val, (tkN L 0 11 (T) : Tks).val, sbV L (tkN L 0 11 (tkN L 0 11 (T))), (tkB L (tkN L 0 11 (tkN L 0 11 (T))) : Tks).val]) := by simp only [vK, rA]
theorem rA_4 : rA L (vK 4) T = (tkN L 0 5 (tkN L 0 5 (tkN L 0 11 (T))), [(T : Tks).val, (tkN L 0 11 (T) : Tks).val, (tkN L 0 5 (tkN L 0 11 (T)) : Tks).val]) := by simp only [vK, rA]
theorem rA_5 : rA L (vK 5) T = (tkN L 0 11 (T), [(T : Tks).val]) := by simp only [vK, rA]
theorem rA_6 : rA L (vK 6) T = (tkN L 1 10 (T), [(T : Tks).val]) := by simp only [vK, rA]
theorem s_X4_readArguments {v n : Nat} (hv : v < 7) (hn : n + 4 ≤ 100) (hT : TkM M L T) (h : ∀ M', TkM M' L (rA L (vK v) T).1 → Args M' n (rA L (vK v) T).2 → (∀ k, k < n → M'.1 6 0 0 k = M.1 6 0 0 k) → Fr dTA M M' → P (.inl none) M') : Sp E yX4_readArguments cX4_readArguments zX4_readArguments [.ref (ad E 4 0 0), .ref (ad E 1 0 0), .int (nI v), .int (nI n)] M P := by
  rcases (show v = 0 ∨ v = 1 ∨ v = 2 ∨ v = 3 ∨ v = 4 ∨ v = 5 ∨ v = 6 by omega) with rfl | rfl | rfl | rfl | rfl | rfl | rfl
  · rw [rA_0] at h
    dsimp only at h
    exact s_X4_rA0 hn hT h
  · rw [rA_1] at h
    dsimp only at h
    exact s_X4_rA1 hn hT h
  · rw [rA_2] at h
    dsimp only at h
    exact s_X4_rA2 hn hT h
  · rw [rA_3] at h
    dsimp only at h
    exact s_X4_rA3 hn hT h
  · rw [rA_4] at h
    dsimp only at h
    exact s_X4_rA4 hn hT h
  · rw [rA_5] at h
    dsimp only at h
    exact s_X4_rA5 hn hT h
  · rw [rA_6] at h
    dsimp only at h
    exact s_X4_rA6 hn hT h
def c2 (L : List Int32) (T : Tks) (n : Nat) : Tks := if n < 25 then (if vb L T = 7 then fai 1 T else T) else fai 4 (if vb L T = 7 then fai 1 T else T)
def c3 (L : List Int32) (T : Tks) (n : Nat) : Tks := adv L (c2 L T n)
def rcT (L : List Int32) (T : Tks) (Cs : List Cmd) : Tks := if (c3 L T Cs.length).code = 0 then tkS L (rA L (vK (vb L T)) (c3 L T Cs.length)).1 else c3 L T Cs.length
def rcC (L : List Int32) (T : Tks) (Cs : List Cmd) : List Cmd := if (c3 L T Cs.length).code = 0 then Cs ++ [(vb L T, (rA L (vK (vb L T)) (c3 L T Cs.length)).2)] else Cs
theorem c3_good {n : Nat} (h : (c3 L T n).code = 0) : n < 25 ∧ vb L T ≠ 7 ∧ T.code = 0 := by
  unfold c3 at h
  rw [adv_code] at h
  unfold c2 at h
  by_cases hn : n < 25
  · rw [if_pos hn] at h
    by_cases hv : vb L T = 7
    · rw [if_pos hv] at h
      exact absurd h (fai_is (by decide))
    · rw [if_neg hv] at h
      exact ⟨hn, hv, h⟩
  · rw [if_neg hn] at h
    exact absurd h (fai_is (by decide))
theorem vb_lt (h : vb L T ≠ 7) : vb L T < 7 := by
  have : vb L T ≤ 7 := by
    unfold vb
    repeat (first | (split <;> try omega))
  omega
def dSc : Nat → Nat → Nat → Prop := fun k _ _ => k = 1 ∨ 4 ≤ k ∧ k ≤ 6
theorem cg_old {Cs : List Cmd} {c : Cmd} {i : Nat} (h : i < Cs.length) : cg (Cs ++ [c]) i = cg Cs i := by
  unfold cg
  simp [List.getD_eq_getElem?_getD, List.getElem?_append_left h]
theorem cg_new {Cs : List Cmd} {c : Cmd} : cg (Cs ++ [c]) Cs.length = c := by
  unfold cg
  simp [List.getD_eq_getElem?_getD]
theorem s_X4_readCommand {Cs : List Cmd} (hT : TkM M L T) (hS : Scr M Cs) (h : ∀ M', TkM M' L (rcT L T Cs) → Scr M' (rcC L T Cs) → Fr dSc M M' → P (.inl none) M') : Sp E yX4_readCommand cX4_readCommand zX4_readCommand [.ref (ad E 4 0 0), .ref (ad E 1 0 0)] M P := by
  refine Sp_of (own := RX4) (by decide) rfl rfl (Nat.le_of_ble_eq_true rfl) (fun C => ?_)
  have h25 := hS.2.1
  have hm : ∀ k j' p, dT k j' p → dSc k j' p := fun _ _ _ q => Or.inl q
  have sk1 : ∀ {M1 M2 : Mm}, Fr dT M1 M2 → Scr M1 Cs → Scr M2 Cs := fun hf hs => hs.keep (fun k _ _ t => hf.at (fun q => by have : k = 1 := q; omega) t)
  generalize hvv : (if vb L T = 7 then (-1 : Int32) else nI (vb L T)) = vv at *
  have g29 : ∀ M1, TkM M1 L (c2 L T Cs.length) → Scr M1 Cs → Fr dT M M1 → G E C RX4 cX4_readCommand zX4_readCommand P 0 0 M1 29 [(0, .ref (ad E 4 0 0)), (1, .ref (ad E 1 0 0)), (2, .int vv)] [] := fun M1 t1 s1 f1 => by
    refine G_aload_n dX4_readCommand_29 rfl ?_
    refine cv_X4_46 (cs' := 0) (ss' := 0) dX4_readCommand_30  (Nat.le_of_ble_eq_true rfl) (Nat.le_of_ble_eq_true rfl) (Nat.le_of_ble_eq_true rfl) rfl rfl (Nat.le_of_ble_eq_true rfl) (Nat.le_of_ble_eq_true rfl) rfl ?_
    refine s_X6_advance t1 (fun M2 t2 hf2 => hGo_v ?_)
    have s2 := sk1 hf2 s1
    have f2 := f1.trans hf2
    have t2' : TkM M2 L (c3 L T Cs.length) := t2
    refine G_aload_n dX4_readCommand_33 rfl ?_
    refine cv_X4_27 (cs' := 0) (ss' := 0) dX4_readCommand_34  (Nat.le_of_ble_eq_true rfl) (Nat.le_of_ble_eq_true rfl) (Nat.le_of_ble_eq_true rfl) rfl rfl (Nat.le_of_ble_eq_true rfl) (Nat.le_of_ble_eq_true rfl) rfl ?_
    refine s_X6_failed t2' (hGo_i ?_)
    unfold rcT rcC at h
    by_cases hc : (c3 L T Cs.length).code = 0
    · rw [if_pos hc] at h ⊢
      rw [if_pos hc] at h
      obtain ⟨hn, hv, -⟩ := c3_good hc
      rw [if_neg hv] at hvv
      have hv7 := vb_lt hv
      subst hvv
      refine G_if_eq (tgt := 41) dX4_readCommand_37 (by decide) (fun c37 => ?_) (fun c37 => ?_)
      · refine G_aload_n dX4_readCommand_41 rfl ?_
        refine gf_X4_9 dX4_readCommand_42  ?_
        refine G_aload_n dX4_readCommand_45 rfl ?_
        refine gf_X4_18 dX4_readCommand_46  ?_
        refine G_iload_n dX4_readCommand_49 rfl ?_
        refine G_iast dX4_readCommand_50 ⟨by decide, rfl, rfl⟩ (fun _ => rfl) s2.1 hn (by decide) ?_
        have t3 : TkM (M2.up 5 0 0 Cs.length (nI (vb L T))) L (c3 L T Cs.length) := t2'.keep (fun k hk t => up_nk (by omega))
        refine G_aload_n dX4_readCommand_51 rfl ?_
        refine G_aload_n dX4_readCommand_52 rfl ?_
        refine G_iload_n dX4_readCommand_53 rfl ?_
        refine G_aload_n dX4_readCommand_54 rfl ?_
        refine gf_X4_18 dX4_readCommand_55  ?_
        refine G_iconst (v := 4) dX4_readCommand_58 (by decide) ?_
        refine G_imul dX4_readCommand_59 ?_
        rw [up_nk (k' := 4) (by decide), s2.1, show (4 : Int32) = nI 4 from rfl, pk_mul]
        refine cv_X4_49 (cs' := 0) (ss' := 0) dX4_readCommand_60  (Nat.le_of_ble_eq_true rfl) (Nat.le_of_ble_eq_true rfl) (Nat.le_of_ble_eq_true rfl) rfl rfl (Nat.le_of_ble_eq_true rfl) (Nat.le_of_ble_eq_true rfl) rfl ?_
        refine s_X4_readArguments (n := Cs.length * 4) hv7 (by omega) t3 (fun M4 t4 a4 o4 hf4 => hGo_v ?_)
        refine G_aload_n dX4_readCommand_63 rfl ?_
        refine cv_X4_53 (cs' := 0) (ss' := 0) dX4_readCommand_64  (Nat.le_of_ble_eq_true rfl) (Nat.le_of_ble_eq_true rfl) (Nat.le_of_ble_eq_true rfl) rfl rfl (Nat.le_of_ble_eq_true rfl) (Nat.le_of_ble_eq_true rfl) rfl ?_
        refine s_X6_takeSemicolon t4 (fun M5 t5 hf5 => hGo_v ?_)
        have q4 : M5.1 4 0 0 2 = nI Cs.length := (hf5.at (fun q => by have : 4 = 1 := q; omega) 2).trans ((hf4.at (fun q => by rcases q with q | q <;> omega) 2).trans ((up_nk (by decide)).trans s2.1))
        have q5 : ∀ i, M5.1 5 0 0 i = (M2.up 5 0 0 Cs.length (nI (vb L T))).1 5 0 0 i := fun i => (hf5.at (fun q => by have : 5 = 1 := q; omega) i).trans (hf4.at (fun q => by rcases q with q | q <;> omega) i)
        have q6 : ∀ i, M5.1 6 0 0 i = M4.1 6 0 0 i := fun i => hf5.at (fun q => by have : 6 = 1 := q; omega) i
        refine G_aload_n dX4_readCommand_67 rfl ?_
        refine G_dup dX4_readCommand_68 rfl ?_
        refine gf_X4_18 dX4_readCommand_69  ?_
        rw [q4]
        refine G_iconst (v := 1) dX4_readCommand_72 (by decide) ?_
        refine G_iadd dX4_readCommand_73 ?_
        refine pf_X4_18 dX4_readCommand_74  ?_
        refine G_vret dX4_readCommand_77 rfl (Nat.le_of_ble_eq_true rfl) (Nat.le_of_ble_eq_true rfl) ?_
        refine h _ (t5.keep (fun k hk t => up_nk (by omega))) ⟨?_, ?_, fun i hi => ?_⟩ ?_
        · rw [up_at, nI_1, List.length_append]
          rfl
        · rw [List.length_append]
          exact hn
        · rw [List.length_append] at hi
          have hi' : i < Cs.length + 1 := hi
          by_cases e : i = Cs.length
          · subst e
            rw [cg_new]
            refine ⟨⟨(up_nk (by decide)).trans ((q5 _).trans up_at), hv7, rA_len⟩, fun t ht => ?_⟩
            refine (up_nk (by decide)).trans ((q6 _).trans ?_)
            rw [Nat.mul_comm]
            exact a4 t ht
          · have hi2 : i < Cs.length := by omega
            rw [cg_old hi2]
            obtain ⟨b1, b2⟩ := s2.2.2 i hi2
            refine ⟨⟨(up_nk (by decide)).trans ((q5 _).trans ((up_t e).trans b1.1)), b1.2⟩, fun t ht => ?_⟩
            have h4 : (cg Cs i).2.length ≤ 4 := b1.2.2 ▸ vK_len
            refine (up_nk (by decide)).trans ((q6 _).trans ((o4 _ (by omega)).trans ((up_nk (by decide)).trans (b2 t ht))))
        · exact ((((f2.mono hm).up (Or.inr ⟨by decide, by decide⟩)).trans (hf4.mono (fun k _ _ q => by rcases q with q | q <;> (unfold dSc; omega)))).trans (hf5.mono hm)).up (Or.inr ⟨by decide, by decide⟩)
      · exact absurd rfl c37
    · rw [if_neg hc] at h ⊢
      rw [if_neg hc] at h
      refine G_if_eq (tgt := 41) dX4_readCommand_37 (by decide) (fun c37 => ?_) (fun c37 => ?_)
      · exact absurd c37 (by decide)
      · refine G_vret dX4_readCommand_40 rfl (Nat.le_of_ble_eq_true rfl) (Nat.le_of_ble_eq_true rfl) ?_
        exact h M2 t2' s2 (f2.mono hm)
  have g15 : ∀ M1, TkM M1 L (if vb L T = 7 then fai 1 T else T) → Scr M1 Cs → Fr dT M M1 → G E C RX4 cX4_readCommand zX4_readCommand P 0 0 M1 15 [(0, .ref (ad E 4 0 0)), (1, .ref (ad E 1 0 0)), (2, .int vv)] [] := fun M1 t1 s1 f1 => by
    refine G_aload_n dX4_readCommand_15 rfl ?_
    refine gf_X4_18 dX4_readCommand_16  ?_
    rw [s1.1]
    refine G_bipush (v := 25) dX4_readCommand_19 (by decide) ?_
    refine G_icmp_lt (tgt := 29) dX4_readCommand_21 (by decide) (fun c21 => ?_) (fun c21 => ?_)
    · have hn : Cs.length < 25 := (nI_ltI (b := 25) (by omega) (by decide)).mp c21
      exact g29 M1 (by unfold c2; rw [if_pos hn]; exact t1) s1 f1
    · have hn : ¬ Cs.length < 25 := fun q => c21 (nI_lt (b := 25) q (by decide))
      refine G_aload_n dX4_readCommand_24 rfl ?_
      refine G_iconst (v := 4) dX4_readCommand_25 (by decide) ?_
      refine cv_X4_42 (cs' := 0) (ss' := 0) dX4_readCommand_26  (Nat.le_of_ble_eq_true rfl) (Nat.le_of_ble_eq_true rfl) (Nat.le_of_ble_eq_true rfl) rfl rfl (Nat.le_of_ble_eq_true rfl) (Nat.le_of_ble_eq_true rfl) rfl ?_
      refine s_X6_fail t1 (fun M2 t2 hf2 => hGo_v ?_)
      exact g29 M2 (by unfold c2; rw [if_neg hn]; exact t2) (sk1 hf2 s1) (f1.trans hf2)
  refine G_aload_n dX4_readCommand_0 rfl ?_
  refine cv_X4_38 (cs' := 0) (ss' := 0) dX4_readCommand_1  (Nat.le_of_ble_eq_true rfl) (Nat.le_of_ble_eq_true rfl) (Nat.le_of_ble_eq_true rfl) rfl rfl (Nat.le_of_ble_eq_true rfl) (Nat.le_of_ble_eq_true rfl) rfl ?_
  refine s_X4_verbHere hT (hGo_i ?_)
  rw [hvv]
  refine G_istore_n dX4_readCommand_4 (Nat.le_of_ble_eq_true rfl) ?_
  refine G_iload_n dX4_readCommand_5 rfl ?_
  refine G_iconst (v := (-1)) dX4_readCommand_6 (by decide) ?_
  refine G_icmp_ne (tgt := 15) dX4_readCommand_7 (by decide) (fun c7 => ?_) (fun c7 => ?_)
  · have hv : vb L T ≠ 7 := fun q => c7 (by rw [← hvv, if_pos q])
    exact G_lv2 (g15 M (by rw [if_neg hv]; exact hT) hS Fr.rfl) ⟨rfl, rfl, rfl, trivial⟩
  · have hv : vb L T = 7 := by
      by_cases q : vb L T = 7
      · exact q
      · rw [if_neg q] at hvv
        rw [← hvv] at c7
        exact absurd c7 (nI_nm1 (by have := vb_lt q; omega))
    refine G_aload_n dX4_readCommand_10 rfl ?_
    refine G_iconst (v := 1) dX4_readCommand_11 (by decide) ?_
    refine cv_X4_42 (cs' := 0) (ss' := 0) dX4_readCommand_12  (Nat.le_of_ble_eq_true rfl) (Nat.le_of_ble_eq_true rfl) (Nat.le_of_ble_eq_true rfl) rfl rfl (Nat.le_of_ble_eq_true rfl) (Nat.le_of_ble_eq_true rfl) rfl ?_
    refine s_X6_fail hT (fun M1 t1 hf1 => hGo_v ?_)
    exact G_lv2 (g15 M1 (by rw [if_pos hv]; exact t1) (sk1 hf1 hS) hf1) ⟨rfl, rfl, rfl, trivial⟩
/-- commands read, at most k of them -/
def rcL (L : List Int32) : Nat → Tks → List Cmd → Tks × List Cmd
  | 0, T, Cs => (T, Cs)
  | k + 1, T, Cs => if T.code = 0 then (if T.kind = 0 then (T, Cs) else rcL L k (rcT L T Cs) (rcC L T Cs)) else (T, Cs)
theorem rcL_bad {k : Nat} {Cs : List Cmd} (h : T.code ≠ 0) : rcL L k T Cs = (T, Cs) := by
  cases k with
  | zero => rfl
  | succ k => exact if_neg h
theorem rcC_n {Cs : List Cmd} (h : (rcT L T Cs).code = 0) : (rcC L T Cs).length = Cs.length + 1 := by
  unfold rcT at h
  unfold rcC
  by_cases hc : (c3 L T Cs.length).code = 0
  · rw [if_pos hc, List.length_append]
    rfl
  · rw [if_neg hc] at h
    exact absurd h hc
def scrV (L : List Int32) (v : Int32) : Tks × List Cmd := rcL L 26 (sT0 L v) []
theorem s_X4_read (hX : Txt M 0 L) (h : ∀ M', TkM M' L (scrV L (M.1 1 0 0 4)).1 → Scr M' (scrV L (M.1 1 0 0 4)).2 → Fr dSc M M' → P (.inl none) M') : Sp E yX4_read cX4_read zX4_read [.ref (ad E 4 0 0), .ref (ad E 1 0 0)] M P := by
  refine Sp_of (own := RX4) (by decide) rfl rfl (Nat.le_of_ble_eq_true rfl) (fun C => ?_)
  generalize hv : M.1 1 0 0 4 = v at h
  have hm : ∀ k j' p, dT k j' p → dSc k j' p := fun _ _ _ q => Or.inl q
  refine G_aload_n dX4_read_0 rfl ?_
  refine G_iconst (v := 0) dX4_read_1 (by decide) ?_
  refine pf_X4_18 dX4_read_2  ?_
  refine G_aload_n dX4_read_5 rfl ?_
  refine cv_X4_22 (cs' := 0) (ss' := 0) dX4_read_6  (Nat.le_of_ble_eq_true rfl) (Nat.le_of_ble_eq_true rfl) (Nat.le_of_ble_eq_true rfl) rfl rfl (Nat.le_of_ble_eq_true rfl) (Nat.le_of_ble_eq_true rfl) rfl ?_
  refine s_X6_begin (hX.up (by decide)) (fun M0 t0 hf0 => hGo_v ?_)
  rw [up_nk (k' := 1) (by decide), hv] at t0
  have s0 : Scr M0 [] := ⟨(hf0.at (fun q => by have : 4 = 1 := q; omega) 2).trans up_at, by decide, fun i hi => absurd hi (Nat.not_lt_zero i)⟩
  have f0 : Fr dSc M M0 := (Fr.rfl.up (Or.inr ⟨by decide, by decide⟩)).trans (hf0.mono hm)
  refine G_iconst (v := 0) dX4_read_9 (by decide) ?_
  refine G_istore_n dX4_read_10 (Nat.le_of_ble_eq_true rfl) ?_
  have g42 : ∀ M8 lv, TkM M8 L (scrV L v).1 → Scr M8 (scrV L v).2 → Fr dSc M M8 → G E C RX4 cX4_read zX4_read P 0 0 M8 42 lv [] := fun M8 lv t8 a8 f8 => by
    refine G_vret dX4_read_42 rfl (Nat.le_of_ble_eq_true rfl) (Nat.le_of_ble_eq_true rfl) ?_
    exact h M8 t8 a8 f8
  have key : ∀ k i M8 T8 Cs, k + i = 26 → rcL L k T8 Cs = scrV L v → (T8.code = 0 → Cs.length = i) → TkM M8 L T8 → Scr M8 Cs → Fr dSc M M8 → G E C RX4 cX4_read zX4_read P 0 0 M8 11 [(0, .ref (ad E 4 0 0)), (1, .ref (ad E 1 0 0)), (2, .int (nI i))] [] := by
    intro k
    induction k with
    | zero =>
      intro i M8 T8 Cs hi hr hn t8 a8 f8
      have e : scrV L v = (T8, Cs) := hr.symm
      refine G_iload_n dX4_read_11 rfl ?_
      refine G_bipush (v := 25) dX4_read_12 (by decide) ?_
      refine G_icmp_gt (tgt := 42) dX4_read_14 (by decide) (fun c14 => ?_) (fun c14 => ?_)
      · exact g42 M8 _ (by rw [e]; exact t8) (by rw [e]; exact a8) f8
      · exact absurd (nI_lt (a := 25) (b := i) (by omega) (by omega)) c14
    | succ k ih =>
      intro i M8 T8 Cs hi hr hn t8 a8 f8
      refine G_iload_n dX4_read_11 rfl ?_
      refine G_bipush (v := 25) dX4_read_12 (by decide) ?_
      refine G_icmp_gt (tgt := 42) dX4_read_14 (by decide) (fun c14 => ?_) (fun c14 => ?_)
      · exact absurd (show nI 25 < nI i from c14) (nI_nlt (by omega) (by decide))
      · refine G_aload_n dX4_read_17 rfl ?_
        refine cv_X4_27 (cs' := 0) (ss' := 0) dX4_read_18  (Nat.le_of_ble_eq_true rfl) (Nat.le_of_ble_eq_true rfl) (Nat.le_of_ble_eq_true rfl) rfl rfl (Nat.le_of_ble_eq_true rfl) (Nat.le_of_ble_eq_true rfl) rfl ?_
        refine s_X6_failed t8 (hGo_i ?_)
        by_cases hc : T8.code = 0
        · rw [if_pos hc]
          have hr2 : (if T8.kind = 0 then (T8, Cs) else rcL L k (rcT L T8 Cs) (rcC L T8 Cs)) = scrV L v := by
            rw [← hr]
            exact (if_pos hc).symm
          refine G_if_ne (tgt := 42) dX4_read_21 (by decide) (fun c21 => ?_) (fun c21 => ?_)
          · exact absurd rfl c21
          · refine G_aload_n dX4_read_24 rfl ?_
            refine cv_X4_31 (cs' := 0) (ss' := 0) dX4_read_25  (Nat.le_of_ble_eq_true rfl) (Nat.le_of_ble_eq_true rfl) (Nat.le_of_ble_eq_true rfl) rfl rfl (Nat.le_of_ble_eq_true rfl) (Nat.le_of_ble_eq_true rfl) rfl ?_
            refine s_X6_isAtEnd t8 (hGo_i ?_)
            by_cases hk : T8.kind = 0
            · rw [if_pos hk] at hr2 ⊢
              refine G_if_ne (tgt := 42) dX4_read_28 (by decide) (fun c28 => ?_) (fun c28 => ?_)
              · exact g42 M8 _ (by rw [← hr2]; exact t8) (by rw [← hr2]; exact a8) f8
              · exact absurd c28 (by decide)
            · rw [if_neg hk] at hr2 ⊢
              refine G_if_ne (tgt := 42) dX4_read_28 (by decide) (fun c28 => ?_) (fun c28 => ?_)
              · exact absurd rfl c28
              · refine G_aload_n dX4_read_31 rfl ?_
                refine G_aload_n dX4_read_32 rfl ?_
                refine cv_X4_34 (cs' := 0) (ss' := 0) dX4_read_33  (Nat.le_of_ble_eq_true rfl) (Nat.le_of_ble_eq_true rfl) (Nat.le_of_ble_eq_true rfl) rfl rfl (Nat.le_of_ble_eq_true rfl) (Nat.le_of_ble_eq_true rfl) rfl ?_
                refine s_X4_readCommand t8 a8 (fun M9 t9 a9 hf9 => hGo_v ?_)
                refine G_iinc (v := 1) dX4_read_36 rfl (Nat.le_of_ble_eq_true rfl) (by decide) ?_
                refine G_goto (tgt := 11) dX4_read_39 (by decide) ?_
                exact G_lv2 (ih (i + 1) M9 _ _ (by omega) hr2 (fun q2 => by rw [rcC_n q2, hn hc]) t9 a9 (f8.trans hf9)) ⟨rfl, rfl, lvi (nI_1 i), trivial⟩
        · rw [if_neg hc]
          refine G_if_ne (tgt := 42) dX4_read_21 (by decide) (fun c21 => ?_) (fun c21 => ?_)
          · have e : scrV L v = (T8, Cs) := by rw [← hr]; exact if_neg hc
            exact g42 M8 _ (by rw [e]; exact t8) (by rw [e]; exact a8) f8
          · exact absurd c21 (by decide)
  refine G_lv2 (key 26 0 M0 (sT0 L v) [] rfl rfl (fun _ => rfl) t0 s0 f0) ⟨rfl, rfl, rfl, trivial⟩
end CSCR
