/-! ===== HomeworkBarterModel: tokens ===== -/
section MTOK
variable {E : Ed} {M M' M1 : Mm} {P : Res → Mm → Prop} {L : List Int32} {T : Tks} {c p : Int32} {i : Nat}
/-- changed: the reader's fields -/
def Fx (M M' : Mm) : Prop := M'.2 = M.2 ∧ ∀ k j p t, ¬ (k = 20 ∧ 8 ≤ t ∧ t ≤ 13) → M'.1 k j p t = M.1 k j p t
theorem Fx.rfl : Fx M M := ⟨Eq.refl _, fun _ _ _ _ _ => Eq.refl _⟩
theorem Fx.trans {M'' : Mm} (h : Fx M M') (h2 : Fx M' M'') : Fx M M'' := ⟨h2.1.trans h.1, fun k j p t q => (h2.2 k j p t q).trans (h.2 k j p t q)⟩
theorem Fx.up {v : Int32} {t : Nat} (h : Fx M M') (ht : 8 ≤ t ∧ t ≤ 13) : Fx M (M'.up 20 0 0 t v) := ⟨h.1, fun k j p u q => by
  rw [← h.2 k j p u q]
  by_cases e : k = 20
  · subst e
    exact up_ft (fun z => q ⟨Eq.refl _, by omega⟩)
  · exact up_nk e⟩
theorem MT.fx (h : MT M L) (f : Fx M M') : MT M' L := ⟨(f.2 20 0 0 7 (fun q => absurd q.2.1 (by decide))).trans h.1, h.2.1, fun k hk => (f.2 24 0 0 k (fun q => absurd q.1 (by decide))).trans (h.2.2 k hk)⟩
def TX (M : Mm) (L : List Int32) (T : Tks) : Prop := M.1 20 0 0 8 = T.code ∧ M.1 20 0 0 9 = T.pos ∧ (T.start ≤ T.stop ∧ T.stop ≤ L.length ∧ T.kind < 5) ∧ (T.code ≠ 0 → T.kind = 4) ∧ (T.code = 0 → M.1 20 0 0 12 = nI T.kind ∧ M.1 20 0 0 11 = nI T.start ∧ M.1 20 0 0 10 = nI T.stop ∧ (T.kind = 2 → ∃ n : Nat, n < 10000000 ∧ M.1 20 0 0 13 = nI n ∧ T.val = nI (min n 1000)))
theorem inR1 {x a : Int32} : inR x a a ↔ x = a := ⟨fun q => Int32.le_antisymm q.2 q.1, fun q => by rw [q]; exact ⟨Int32.le_refl _, Int32.le_refl _⟩⟩
theorem s_X9_isByte {a b' : Int32} (hT : MT M L) (hi : M.1 20 0 0 10 = nI i) (hl : i ≤ L.length) (h : P (.inl (some (.int (if i < L.length ∧ inR (L.getD i 0) a b' then 1 else 0)))) M) : Sp E yX9_isByte cX9_isByte zX9_isByte [.ref (ad E 20 0 0), .int a, .int b'] M P := by
  have l5 := hT.2.1
  refine Sp_of (own := RX9) (by decide) rfl rfl (Nat.le_of_ble_eq_true rfl) (fun C => ?_)
  refine G_aload_n dX9_isByte_0 rfl ?_
  refine gf_X9_165 dX9_isByte_1  ?_
  rw [hi]
  refine G_aload_n dX9_isByte_4 rfl ?_
  refine gf_X9_155 dX9_isByte_5  ?_
  rw [hT.1]
  refine G_icmp_ge (tgt := 32) dX9_isByte_8 (by decide) (fun c8 => ?_) (fun c8 => ?_)
  · have q : ¬ i < L.length := fun z => absurd c8 (nI_ge z (by omega))
    rw [if_neg (fun z => q z.1)] at h
    refine G_iconst (v := 0) dX9_isByte_32 (by decide) ?_
    refine G_iret dX9_isByte_33 rfl rfl (Nat.le_of_ble_eq_true rfl) (Nat.le_of_ble_eq_true rfl) ?_
    exact h
  · have q : i < L.length := by
      rcases Nat.lt_or_ge i L.length with z | z
      · exact z
      · exact absurd (nI_le z (by omega)) c8
    refine G_aload_n dX9_isByte_11 rfl ?_
    refine gf_X9_20 dX9_isByte_12  ?_
    refine G_aload_n dX9_isByte_15 rfl ?_
    refine gf_X9_165 dX9_isByte_16  ?_
    refine G_iald dX9_isByte_19 ⟨by decide, rfl, rfl⟩ rfl hi (show i < 500 by omega) (by decide) ?_
    rw [hT.2.2 i q]
    refine G_iload_n dX9_isByte_20 rfl ?_
    refine G_iload_n dX9_isByte_21 rfl ?_
    refine cv_X9_162 (cs' := 0) (ss' := 0) dX9_isByte_22  (Nat.le_of_ble_eq_true rfl) (Nat.le_of_ble_eq_true rfl) (Nat.le_of_ble_eq_true rfl) rfl rfl (Nat.le_of_ble_eq_true rfl) (Nat.le_of_ble_eq_true rfl) rfl ?_
    refine s_X9_in (hGo_i ?_)
    by_cases z : inR (L.getD i 0) a b'
    · rw [if_pos z]
      rw [if_pos ⟨q, z⟩] at h
      refine G_if_eq (tgt := 32) dX9_isByte_25 (by decide) (fun c25 => ?_) (fun c25 => ?_)
      · exact absurd c25 (by decide)
      · refine G_iconst (v := 1) dX9_isByte_28 (by decide) ?_
        refine G_goto (tgt := 33) dX9_isByte_29 (by decide) ?_
        refine G_iret dX9_isByte_33 rfl rfl (Nat.le_of_ble_eq_true rfl) (Nat.le_of_ble_eq_true rfl) ?_
        exact h
    · rw [if_neg z]
      rw [if_neg (fun y => z y.2)] at h
      refine G_if_eq (tgt := 32) dX9_isByte_25 (by decide) (fun c25 => ?_) (fun c25 => ?_)
      · refine G_iconst (v := 0) dX9_isByte_32 (by decide) ?_
        refine G_iret dX9_isByte_33 rfl rfl (Nat.le_of_ble_eq_true rfl) (Nat.le_of_ble_eq_true rfl) ?_
        exact h
      · exact absurd rfl c25
def KX (M M1 : Mm) (c p : Int32) (i : Nat) : Prop := Fx M M1 ∧ M1.1 20 0 0 8 = c ∧ M1.1 20 0 0 9 = p ∧ M1.1 20 0 0 10 = nI i
theorem KX.at (h : KX M M1 c p i) {j : Nat} : KX M (M1.up 20 0 0 10 (nI j)) c p j := ⟨h.1.up (by decide), (up_nt (by decide)).trans h.2.1, (up_nt (by decide)).trans h.2.2.1, up_at⟩
theorem KX.oth (h : KX M M1 c p i) {t : Nat} {v : Int32} (ht : 11 ≤ t ∧ t ≤ 13) : KX M (M1.up 20 0 0 t v) c p i := ⟨h.1.up (by omega), (up_nt (by omega)).trans h.2.1, (up_nt (by omega)).trans h.2.2.1, (up_nt (by omega)).trans h.2.2.2⟩
theorem s_X9_next0 (hX : MT M L) (hc : M.1 20 0 0 8 = T.code) (hp : M.1 20 0 0 9 = T.pos) (h0 : T.code = 0) (ha : M.1 20 0 0 10 = nI T.stop) (hs : T.stop ≤ L.length) (h : ∀ M', TX M' L (nxt L T) → Fx M M' → P (.inl none) M') : Sp E yX9_next cX9_next zX9_next [.ref (ad E 20 0 0)] M P := by
  have l5 := hX.2.1
  refine Sp_of (own := RX9) (by decide) rfl rfl (Nat.le_of_ble_eq_true rfl) (fun C => ?_)
  obtain ⟨hs1, hs2, hs3⟩ := sk_le (p := pBl) (L := L) (i := T.stop) hs
  have LT : ∀ {j : Nat}, j ≤ L.length → j < 2 ^ 31 := fun hj => by omega
  -- the token itself
  have g35 : ∀ M1, KX M M1 T.code T.pos (sk pBl L T.stop) → G E C RX9 cX9_next zX9_next P 0 0 M1 35 [(0, .ref (ad E 20 0 0))] [] := by
    obtain ⟨N, hN⟩ : ∃ N, nxt L T = N := ⟨_, rfl⟩
    have hnx := hN
    unfold nxt at hnx
    generalize sk pBl L T.stop = st at *
    intro M1 k1
    refine G_aload_n dX9_next_35 rfl ?_
    refine G_aload_n dX9_next_36 rfl ?_
    refine gf_X9_165 dX9_next_37  ?_
    rw [k1.2.2.2]
    refine pf_X9_171 dX9_next_40  ?_
    have k2 := k1.oth (t := 11) (v := nI st) (by decide)
    have b2 : (M1.up 20 0 0 11 (nI st)).1 20 0 0 11 = nI st := up_at
    generalize M1.up 20 0 0 11 (nI st) = M2 at k2 b2 ⊢
    have x2 := hX.fx k2.1
    refine G_aload_n dX9_next_43 rfl ?_
    refine gf_X9_165 dX9_next_44  ?_
    rw [k2.2.2.2]
    refine G_aload_n dX9_next_47 rfl ?_
    refine gf_X9_155 dX9_next_48  ?_
    rw [x2.1]
    refine G_icmp_ne (tgt := 62) dX9_next_51 (by decide) (fun c51 => ?_) (fun c51 => ?_)
    rotate_left
    · have e : st = L.length := (nI_eq (LT hs2) (LT (Nat.le_refl _))).mp c51
      rw [if_neg (by omega)] at hnx
      refine G_aload_n dX9_next_54 rfl ?_
      refine G_iconst (v := 0) dX9_next_55 (by decide) ?_
      refine pf_X9_174 dX9_next_56  ?_
      refine G_goto (tgt := 223) dX9_next_59 (by decide) ?_
      refine G_vret dX9_next_223 rfl (Nat.le_of_ble_eq_true rfl) (Nat.le_of_ble_eq_true rfl) ?_
      have k3 := k2.oth (t := 12) (v := 0) (by decide)
      refine h _ ?_ k3.1
      rw [hN, ← hnx]
      exact ⟨k3.2.1, k3.2.2.1, ⟨Nat.le_refl _, hs2, (show (0 : Nat) < 5 by decide)⟩, fun z => absurd h0 z, fun _ => ⟨up_at, (up_nt (by decide)).trans b2, k3.2.2.2, fun z => absurd (show (0 : Nat) = 2 from z) (by decide)⟩⟩
    have q : st < L.length := by
      rcases Nat.lt_or_ge st L.length with z | z
      · exact z
      · exact absurd (show nI st = nI L.length by rw [show st = L.length by omega]) c51
    rw [if_pos q] at hnx
    refine G_aload_n dX9_next_62 rfl ?_
    refine G_bipush (v := 97) dX9_next_63 (by decide) ?_
    refine G_bipush (v := 122) dX9_next_65 (by decide) ?_
    refine cv_X9_168 (cs' := 0) (ss' := 0) dX9_next_67  (Nat.le_of_ble_eq_true rfl) (Nat.le_of_ble_eq_true rfl) (Nat.le_of_ble_eq_true rfl) rfl rfl (Nat.le_of_ble_eq_true rfl) (Nat.le_of_ble_eq_true rfl) rfl ?_
    refine s_X9_isByte x2 k2.2.2.2 hs2 (hGo_i ?_)
    by_cases hle : pLe (L.getD st 0) = true
    · rw [if_pos hle] at hnx
      rw [if_pos ⟨q, of_decide_eq_true hle⟩]
      refine G_if_eq (tgt := 105) dX9_next_70 (by decide) (fun c70 => ?_) (fun c70 => ?_)
      · exact absurd c70 (by decide)
      refine G_lv (lv' := [(0, .ref (ad E 20 0 0))]) ⟨rfl, trivial⟩ ?_
      refine sk_ind (p := pLe) (L := L) (i0 := st) (H := fun i => ∀ M3, KX M M3 T.code T.pos i → M3.1 20 0 0 11 = nI st → G E C RX9 cX9_next zX9_next P 0 0 M3 73 [(0, .ref (ad E 20 0 0))] []) hs2 (fun e1 e2 e3 M3 k3 b3 => ?_) (fun i hi0 hi hp ih M3 k3 b3 => ?_) M2 k2 b2
      · refine G_aload_n dX9_next_73 rfl ?_
        refine G_bipush (v := 97) dX9_next_74 (by decide) ?_
        refine G_bipush (v := 122) dX9_next_76 (by decide) ?_
        refine cv_X9_168 (cs' := 0) (ss' := 0) dX9_next_78  (Nat.le_of_ble_eq_true rfl) (Nat.le_of_ble_eq_true rfl) (Nat.le_of_ble_eq_true rfl) rfl rfl (Nat.le_of_ble_eq_true rfl) (Nat.le_of_ble_eq_true rfl) rfl ?_
        refine s_X9_isByte (hX.fx k3.1) k3.2.2.2 e1 (hGo_i ?_)
        rw [if_neg (fun z => by
          have := e3 z.1
          rw [show pLe (L.getD (sk pLe L st) 0) = true from decide_eq_true z.2] at this
          exact absurd this (by decide))]
        refine G_if_eq (tgt := 97) dX9_next_81 (by decide) (fun c81 => ?_) (fun c81 => ?_)
        rotate_left
        · exact absurd rfl c81
        refine G_aload_n dX9_next_97 rfl ?_
        refine G_iconst (v := 1) dX9_next_98 (by decide) ?_
        refine pf_X9_174 dX9_next_99  ?_
        refine G_goto (tgt := 223) dX9_next_102 (by decide) ?_
        refine G_vret dX9_next_223 rfl (Nat.le_of_ble_eq_true rfl) (Nat.le_of_ble_eq_true rfl) ?_
        have k4 := k3.oth (t := 12) (v := 1) (by decide)
        refine h _ ?_ k4.1
        rw [hN, ← hnx]
        exact ⟨k4.2.1, k4.2.2.1, ⟨e2, e1, (show (1 : Nat) < 5 by decide)⟩, fun z => absurd h0 z, fun _ => ⟨up_at, (up_nt (by decide)).trans b3, k4.2.2.2, fun z => absurd (show (1 : Nat) = 2 from z) (by decide)⟩⟩
      · refine G_aload_n dX9_next_73 rfl ?_
        refine G_bipush (v := 97) dX9_next_74 (by decide) ?_
        refine G_bipush (v := 122) dX9_next_76 (by decide) ?_
        refine cv_X9_168 (cs' := 0) (ss' := 0) dX9_next_78  (Nat.le_of_ble_eq_true rfl) (Nat.le_of_ble_eq_true rfl) (Nat.le_of_ble_eq_true rfl) rfl rfl (Nat.le_of_ble_eq_true rfl) (Nat.le_of_ble_eq_true rfl) rfl ?_
        refine s_X9_isByte (hX.fx k3.1) k3.2.2.2 (by omega) (hGo_i ?_)
        rw [if_pos ⟨hi, of_decide_eq_true hp⟩]
        refine G_if_eq (tgt := 97) dX9_next_81 (by decide) (fun c81 => ?_) (fun c81 => ?_)
        · exact absurd c81 (by decide)
        refine G_aload_n dX9_next_84 rfl ?_
        refine G_dup dX9_next_85 rfl ?_
        refine gf_X9_165 dX9_next_86  ?_
        rw [k3.2.2.2]
        refine G_iconst (v := 1) dX9_next_89 (by decide) ?_
        refine G_iadd dX9_next_90 ?_
        rw [nI_1]
        refine pf_X9_165 dX9_next_91  ?_
        refine G_goto (tgt := 73) dX9_next_94 (by decide) ?_
        exact G_lv2 (ih _ k3.at ((up_nt (by decide)).trans b3)) ⟨rfl, trivial⟩
    rw [if_neg hle] at hnx
    rw [if_neg (fun z => hle (decide_eq_true z.2))]
    refine G_if_eq (tgt := 105) dX9_next_70 (by decide) (fun c70 => ?_) (fun c70 => ?_)
    rotate_left
    · exact absurd rfl c70
    refine G_aload_n dX9_next_105 rfl ?_
    refine G_bipush (v := 48) dX9_next_106 (by decide) ?_
    refine G_bipush (v := 57) dX9_next_108 (by decide) ?_
    refine cv_X9_168 (cs' := 0) (ss' := 0) dX9_next_110  (Nat.le_of_ble_eq_true rfl) (Nat.le_of_ble_eq_true rfl) (Nat.le_of_ble_eq_true rfl) rfl rfl (Nat.le_of_ble_eq_true rfl) (Nat.le_of_ble_eq_true rfl) rfl ?_
    refine s_X9_isByte x2 k2.2.2.2 hs2 (hGo_i ?_)
    by_cases hdi : pDi (L.getD st 0) = true
    · rw [if_pos hdi] at hnx
      rw [if_pos ⟨q, of_decide_eq_true hdi⟩]
      refine G_if_eq (tgt := 193) dX9_next_113 (by decide) (fun c113 => ?_) (fun c113 => ?_)
      · exact absurd c113 (by decide)
      refine G_aload_n dX9_next_116 rfl ?_
      refine G_iconst (v := 0) dX9_next_117 (by decide) ?_
      refine pf_X9_177 dX9_next_118  ?_
      have kn := k2.oth (t := 13) (v := 0) (by decide)
      have bn : (M2.up 20 0 0 13 0).1 20 0 0 11 = nI st := (up_nt (by decide)).trans b2
      have nn : ∃ n : Nat, n < 10000000 ∧ (M2.up 20 0 0 13 0).1 20 0 0 13 = nI n ∧ nvC L st (st - st) = nI (min n 1000) := ⟨0, by decide, up_at, by rw [Nat.sub_self]; rfl⟩
      generalize M2.up 20 0 0 13 0 = M3 at kn bn nn ⊢
      refine G_lv (lv' := [(0, .ref (ad E 20 0 0))]) ⟨rfl, trivial⟩ ?_
      refine sk_ind (p := pDi) (L := L) (i0 := st) (H := fun i => ∀ M3, KX M M3 T.code T.pos i → M3.1 20 0 0 11 = nI st → (∃ n : Nat, n < 10000000 ∧ M3.1 20 0 0 13 = nI n ∧ nvC L st (i - st) = nI (min n 1000)) → G E C RX9 cX9_next zX9_next P 0 0 M3 121 [(0, .ref (ad E 20 0 0))] []) hs2 (fun e1 e2 e3 M3 k3 b3 n3 => ?_) (fun i hi0 hi hp ih M3 k3 b3 n3 => ?_) M3 kn bn nn
      · refine G_aload_n dX9_next_121 rfl ?_
        refine G_bipush (v := 48) dX9_next_122 (by decide) ?_
        refine G_bipush (v := 57) dX9_next_124 (by decide) ?_
        refine cv_X9_168 (cs' := 0) (ss' := 0) dX9_next_126  (Nat.le_of_ble_eq_true rfl) (Nat.le_of_ble_eq_true rfl) (Nat.le_of_ble_eq_true rfl) rfl rfl (Nat.le_of_ble_eq_true rfl) (Nat.le_of_ble_eq_true rfl) rfl ?_
        refine s_X9_isByte (hX.fx k3.1) k3.2.2.2 e1 (hGo_i ?_)
        rw [if_neg (fun z => by
          have := e3 z.1
          rw [show pDi (L.getD (sk pDi L st) 0) = true from decide_eq_true z.2] at this
          exact absurd this (by decide))]
        refine G_if_eq (tgt := 185) dX9_next_129 (by decide) (fun c129 => ?_) (fun c129 => ?_)
        rotate_left
        · exact absurd rfl c129
        refine G_aload_n dX9_next_185 rfl ?_
        refine G_iconst (v := 2) dX9_next_186 (by decide) ?_
        refine pf_X9_174 dX9_next_187  ?_
        refine G_goto (tgt := 223) dX9_next_190 (by decide) ?_
        refine G_vret dX9_next_223 rfl (Nat.le_of_ble_eq_true rfl) (Nat.le_of_ble_eq_true rfl) ?_
        have k4 := k3.oth (t := 12) (v := 2) (by decide)
        refine h _ ?_ k4.1
        rw [hN, ← hnx]
        obtain ⟨n, n1, n2, n4⟩ := n3
        exact ⟨k4.2.1, k4.2.2.1, ⟨e2, e1, (show (2 : Nat) < 5 by decide)⟩, fun z => absurd h0 z, fun _ => ⟨up_at, (up_nt (by decide)).trans b3, k4.2.2.2, fun _ => ⟨n, n1, (up_nt (by decide)).trans n2, n4⟩⟩⟩
      · obtain ⟨n, n1, n2, n4⟩ := n3
        obtain ⟨k, hk1, hk2, ek, -⟩ := inR_ix (i := 48) (k := 57) (by decide) (by decide) (of_decide_eq_true hp)
        have x3 := hX.fx k3.1
        have eN : nvC L st (i + 1 - st) = nI (min (min n 1000 * 10 + (k - 48)) 1000) := by
          rw [show i + 1 - st = (i - st) + 1 by omega]
          show imin (nvC L st (i - st) * 10 + L.getD (st + (i - st)) 0 - 48) 1000 = _
          rw [n4, show st + (i - st) = i by omega, ek, show (10 : Int32) = nI 10 from rfl, pk_mul, nI_add, show (48 : Int32) = nI 48 from rfl, nI_subN (by omega), show min n 1000 * 10 + k - 48 = min n 1000 * 10 + (k - 48) by omega]
          unfold imin
          by_cases z : min n 1000 * 10 + (k - 48) ≤ 1000
          · rw [if_neg (show ¬ (1000 : Int32) < nI (min n 1000 * 10 + (k - 48)) from nI_nlt (a := 1000) z (by decide)), Nat.min_eq_left z]
          · rw [if_pos (show (1000 : Int32) < nI (min n 1000 * 10 + (k - 48)) from nI_lt (a := 1000) (by omega) (by omega)), Nat.min_eq_right (by omega)]
            rfl
        have g169 : ∀ m : Nat, m < 10000000 → min m 1000 = min (min n 1000 * 10 + (k - 48)) 1000 → G E C RX9 cX9_next zX9_next P 0 0 M3 169 [(0, .ref (ad E 20 0 0))] [.int (nI m), .ref (ad E 20 0 0)] := fun m hm em => by
          have k4 := k3.oth (t := 13) (v := nI m) (by decide)
          have b4 : (M3.up 20 0 0 13 (nI m)).1 20 0 0 11 = nI st := (up_nt (by decide)).trans b3
          have u4 : (M3.up 20 0 0 13 (nI m)).1 20 0 0 13 = nI m := up_at
          refine pf_X9_177 dX9_next_169  ?_
          generalize M3.up 20 0 0 13 (nI m) = M4 at k4 b4 u4 ⊢
          refine G_aload_n dX9_next_172 rfl ?_
          refine G_dup dX9_next_173 rfl ?_
          refine gf_X9_165 dX9_next_174  ?_
          rw [k4.2.2.2]
          refine G_iconst (v := 1) dX9_next_177 (by decide) ?_
          refine G_iadd dX9_next_178 ?_
          rw [nI_1]
          refine pf_X9_165 dX9_next_179  ?_
          refine G_goto (tgt := 121) dX9_next_182 (by decide) ?_
          exact G_lv2 (ih _ k4.at ((up_nt (by decide)).trans b4) ⟨m, hm, (up_nt (by decide)).trans u4, by rw [eN, em]⟩) ⟨rfl, trivial⟩
        refine G_aload_n dX9_next_121 rfl ?_
        refine G_bipush (v := 48) dX9_next_122 (by decide) ?_
        refine G_bipush (v := 57) dX9_next_124 (by decide) ?_
        refine cv_X9_168 (cs' := 0) (ss' := 0) dX9_next_126  (Nat.le_of_ble_eq_true rfl) (Nat.le_of_ble_eq_true rfl) (Nat.le_of_ble_eq_true rfl) rfl rfl (Nat.le_of_ble_eq_true rfl) (Nat.le_of_ble_eq_true rfl) rfl ?_
        refine s_X9_isByte x3 k3.2.2.2 (by omega) (hGo_i ?_)
        rw [if_pos ⟨hi, of_decide_eq_true hp⟩]
        refine G_if_eq (tgt := 185) dX9_next_129 (by decide) (fun c129 => ?_) (fun c129 => ?_)
        · exact absurd c129 (by decide)
        refine G_aload_n dX9_next_132 rfl ?_
        refine G_aload_n dX9_next_133 rfl ?_
        refine gf_X9_177 dX9_next_134  ?_
        rw [n2]
        refine G_ldc (v := 999999) dX9_next_137 (hqx 1479 (by decide +kernel) rfl) ?_
        refine G_icmp_le (tgt := 149) dX9_next_139 (by decide) (fun c139 => ?_) (fun c139 => ?_)
        · have hn : n ≤ 999999 := (nI_leI (b := 999999) (by omega) (by decide)).mp c139
          refine G_bipush (v := 10) dX9_next_149 (by decide) ?_
          refine G_aload_n dX9_next_151 rfl ?_
          refine gf_X9_177 dX9_next_152  ?_
          rw [n2]
          refine G_imul dX9_next_155 ?_
          rw [show (10 : Int32) = nI 10 from rfl, pk_mul]
          refine G_aload_n dX9_next_156 rfl ?_
          refine gf_X9_20 dX9_next_157  ?_
          refine G_aload_n dX9_next_160 rfl ?_
          refine gf_X9_165 dX9_next_161  ?_
          refine G_iald dX9_next_164 ⟨by decide, rfl, rfl⟩ rfl k3.2.2.2 (show i < 500 by omega) (by decide) ?_
          rw [x3.2.2 i hi, ek]
          refine G_iadd dX9_next_165 ?_
          rw [nI_add]
          refine G_bipush (v := 48) dX9_next_166 (by decide) ?_
          refine G_isub dX9_next_168 ?_
          rw [show nI (10 * n + k) - (48 : Int32) = nI (10 * n + k - 48) from nI_subN (a := 48) (by omega)]
          exact G_lv2 (g169 (10 * n + k - 48) (by omega) (by omega)) ⟨rfl, trivial⟩
        · have hn : 999999 < n := by
            rcases Nat.lt_or_ge 999999 n with z | z
            · exact z
            · exact absurd (nI_le (b := 999999) z (by decide)) c139
          refine G_aload_n dX9_next_142 rfl ?_
          refine gf_X9_177 dX9_next_143  ?_
          rw [n2]
          refine G_goto (tgt := 169) dX9_next_146 (by decide) ?_
          exact G_lv2 (g169 n n1 (by omega)) ⟨rfl, trivial⟩
    rw [if_neg hdi] at hnx
    rw [if_neg (fun z => hdi (decide_eq_true z.2))]
    refine G_if_eq (tgt := 193) dX9_next_113 (by decide) (fun c113 => ?_) (fun c113 => ?_)
    rotate_left
    · exact absurd rfl c113
    have g210 : ∀ v : Nat, v = (if L.getD st 0 = 59 then 3 else 4) → G E C RX9 cX9_next zX9_next P 0 0 M2 210 [(0, .ref (ad E 20 0 0))] [.int (nI v), .ref (ad E 20 0 0)] := fun v hv => by
      refine pf_X9_174 dX9_next_210  ?_
      have k4 := k2.oth (t := 12) (v := nI v) (by decide)
      have b4 : (M2.up 20 0 0 12 (nI v)).1 20 0 0 11 = nI st := (up_nt (by decide)).trans b2
      have u4 : (M2.up 20 0 0 12 (nI v)).1 20 0 0 12 = nI v := up_at
      generalize M2.up 20 0 0 12 (nI v) = M4 at k4 b4 u4 ⊢
      refine G_aload_n dX9_next_213 rfl ?_
      refine G_dup dX9_next_214 rfl ?_
      refine gf_X9_165 dX9_next_215  ?_
      rw [k4.2.2.2]
      refine G_iconst (v := 1) dX9_next_218 (by decide) ?_
      refine G_iadd dX9_next_219 ?_
      rw [nI_1]
      refine pf_X9_165 dX9_next_220  ?_
      refine G_vret dX9_next_223 rfl (Nat.le_of_ble_eq_true rfl) (Nat.le_of_ble_eq_true rfl) ?_
      have k5 := k4.at (j := st + 1)
      refine h _ ?_ k5.1
      rw [hN, ← hnx, ← hv]
      exact ⟨k5.2.1, k5.2.2.1, ⟨by show st ≤ st + 1; omega, by show st + 1 ≤ L.length; omega, by show v < 5; rw [hv]; split <;> decide⟩, fun z => absurd h0 z, fun _ => ⟨(up_nt (by decide)).trans u4, (up_nt (by decide)).trans b4, k5.2.2.2, fun z => absurd (show v = 2 from z) (by rw [hv]; split <;> decide)⟩⟩
    refine G_aload_n dX9_next_193 rfl ?_
    refine G_aload_n dX9_next_194 rfl ?_
    refine G_bipush (v := 59) dX9_next_195 (by decide) ?_
    refine G_bipush (v := 59) dX9_next_197 (by decide) ?_
    refine cv_X9_168 (cs' := 0) (ss' := 0) dX9_next_199  (Nat.le_of_ble_eq_true rfl) (Nat.le_of_ble_eq_true rfl) (Nat.le_of_ble_eq_true rfl) rfl rfl (Nat.le_of_ble_eq_true rfl) (Nat.le_of_ble_eq_true rfl) rfl ?_
    refine s_X9_isByte x2 k2.2.2.2 hs2 (hGo_i ?_)
    by_cases h59 : L.getD st 0 = 59
    · rw [if_pos ⟨q, inR1.mpr h59⟩]
      refine G_if_eq (tgt := 209) dX9_next_202 (by decide) (fun c202 => ?_) (fun c202 => ?_)
      · exact absurd c202 (by decide)
      · refine G_iconst (v := 3) dX9_next_205 (by decide) ?_
        refine G_goto (tgt := 210) dX9_next_206 (by decide) ?_
        exact G_lv2 (g210 3 (by rw [if_pos h59])) ⟨rfl, trivial⟩
    · rw [if_neg (fun z => h59 (inR1.mp z.2))]
      refine G_if_eq (tgt := 209) dX9_next_202 (by decide) (fun c202 => ?_) (fun c202 => ?_)
      · refine G_iconst (v := 4) dX9_next_209 (by decide) ?_
        exact G_lv2 (g210 4 (by rw [if_neg h59])) ⟨rfl, trivial⟩
      · exact absurd rfl c202
  -- blanks
  refine G_lv (lv' := [(0, .ref (ad E 20 0 0))]) ⟨rfl, trivial⟩ ?_
  refine sk_ind (p := pBl) (L := L) (i0 := T.stop) (H := fun i => ∀ M1, KX M M1 T.code T.pos i → G E C RX9 cX9_next zX9_next P 0 0 M1 0 [(0, .ref (ad E 20 0 0))] []) hs (fun e1 e2 e3 M1 k1 => ?_) (fun i hi0 hi hp ih M1 k1 => ?_) M ⟨Fx.rfl, hc, hp, ha⟩
  · have nb : ∀ a : Int32, (a = 32 ∨ a = 10) → ¬ (sk pBl L T.stop < L.length ∧ inR (L.getD (sk pBl L T.stop) 0) a a) := fun a h1 z => by
      have := e3 z.1
      rw [show pBl (L.getD (sk pBl L T.stop) 0) = true from decide_eq_true (by rw [inR1.mp z.2]; exact h1)] at this
      exact absurd this (by decide)
    refine G_aload_n dX9_next_0 rfl ?_
    refine G_bipush (v := 32) dX9_next_1 (by decide) ?_
    refine G_bipush (v := 32) dX9_next_3 (by decide) ?_
    refine cv_X9_168 (cs' := 0) (ss' := 0) dX9_next_5  (Nat.le_of_ble_eq_true rfl) (Nat.le_of_ble_eq_true rfl) (Nat.le_of_ble_eq_true rfl) rfl rfl (Nat.le_of_ble_eq_true rfl) (Nat.le_of_ble_eq_true rfl) rfl ?_
    refine s_X9_isByte (hX.fx k1.1) k1.2.2.2 e1 (hGo_i ?_)
    rw [if_neg (nb 32 (Or.inl rfl))]
    refine G_if_ne (tgt := 22) dX9_next_8 (by decide) (fun c8 => ?_) (fun c8 => ?_)
    · exact absurd rfl c8
    refine G_aload_n dX9_next_11 rfl ?_
    refine G_bipush (v := 10) dX9_next_12 (by decide) ?_
    refine G_bipush (v := 10) dX9_next_14 (by decide) ?_
    refine cv_X9_168 (cs' := 0) (ss' := 0) dX9_next_16  (Nat.le_of_ble_eq_true rfl) (Nat.le_of_ble_eq_true rfl) (Nat.le_of_ble_eq_true rfl) rfl rfl (Nat.le_of_ble_eq_true rfl) (Nat.le_of_ble_eq_true rfl) rfl ?_
    refine s_X9_isByte (hX.fx k1.1) k1.2.2.2 e1 (hGo_i ?_)
    rw [if_neg (nb 10 (Or.inr rfl))]
    refine G_if_eq (tgt := 35) dX9_next_19 (by decide) (fun c19 => ?_) (fun c19 => ?_)
    rotate_left
    · exact absurd rfl c19
    exact G_lv2 (g35 M1 k1) ⟨rfl, trivial⟩
  · have g22 : G E C RX9 cX9_next zX9_next P 0 0 M1 22 [(0, .ref (ad E 20 0 0))] [] := by
      refine G_aload_n dX9_next_22 rfl ?_
      refine G_dup dX9_next_23 rfl ?_
      refine gf_X9_165 dX9_next_24  ?_
      rw [k1.2.2.2]
      refine G_iconst (v := 1) dX9_next_27 (by decide) ?_
      refine G_iadd dX9_next_28 ?_
      rw [nI_1]
      refine pf_X9_165 dX9_next_29  ?_
      refine G_goto (tgt := 0) dX9_next_32 (by decide) ?_
      exact G_lv2 (ih _ k1.at) ⟨rfl, trivial⟩
    refine G_aload_n dX9_next_0 rfl ?_
    refine G_bipush (v := 32) dX9_next_1 (by decide) ?_
    refine G_bipush (v := 32) dX9_next_3 (by decide) ?_
    refine cv_X9_168 (cs' := 0) (ss' := 0) dX9_next_5  (Nat.le_of_ble_eq_true rfl) (Nat.le_of_ble_eq_true rfl) (Nat.le_of_ble_eq_true rfl) rfl rfl (Nat.le_of_ble_eq_true rfl) (Nat.le_of_ble_eq_true rfl) rfl ?_
    refine s_X9_isByte (hX.fx k1.1) k1.2.2.2 (by omega) (hGo_i ?_)
    by_cases q : L.getD i 0 = 32
    · rw [if_pos ⟨hi, inR1.mpr q⟩]
      refine G_if_ne (tgt := 22) dX9_next_8 (by decide) (fun c8 => ?_) (fun c8 => ?_)
      · exact G_lv2 g22 ⟨rfl, trivial⟩
      · exact absurd c8 (by decide)
    · rw [if_neg (fun z => q (inR1.mp z.2))]
      refine G_if_ne (tgt := 22) dX9_next_8 (by decide) (fun c8 => ?_) (fun c8 => ?_)
      · exact absurd rfl c8
      refine G_aload_n dX9_next_11 rfl ?_
      refine G_bipush (v := 10) dX9_next_12 (by decide) ?_
      refine G_bipush (v := 10) dX9_next_14 (by decide) ?_
      refine cv_X9_168 (cs' := 0) (ss' := 0) dX9_next_16  (Nat.le_of_ble_eq_true rfl) (Nat.le_of_ble_eq_true rfl) (Nat.le_of_ble_eq_true rfl) rfl rfl (Nat.le_of_ble_eq_true rfl) (Nat.le_of_ble_eq_true rfl) rfl ?_
      refine s_X9_isByte (hX.fx k1.1) k1.2.2.2 (by omega) (hGo_i ?_)
      rw [if_pos ⟨hi, inR1.mpr ((of_decide_eq_true hp).resolve_left q)⟩]
      refine G_if_eq (tgt := 35) dX9_next_19 (by decide) (fun c19 => ?_) (fun c19 => ?_)
      · exact absurd c19 (by decide)
      · exact G_lv2 g22 ⟨rfl, trivial⟩
end MTOK
