/-! ===== HomeworkBarter: play ===== -/
section CTXS
variable {E : Ed} {M M' : Mm} {P : Res → Mm → Prop} {A : Ab} {g : Gs}
-- scripts
def argsOk : List (Option (Int32 × Int32)) → List Int32 → Prop
  | [], [] => True
  | some (a, b) :: r, x :: l => inR x a b ∧ argsOk r l
  | none :: r, x :: l => inR x 0 1 ∧ argsOk r l
  | _, _ => False
def cOk (c : Cmd) : Prop := c.1 < 7 ∧ argsOk (vK c.1) c.2
theorem rA_good {L : List Int32} : ∀ {ks : List (Option (Int32 × Int32))} {T : Tks}, (rA L ks T).1.code = 0 → T.code = 0 ∧ argsOk ks (rA L ks T).2
  | [], T, h => ⟨h, trivial⟩
  | some (a, b) :: r, T, h => by
    obtain ⟨h1, h2⟩ := rA_good (ks := r) (T := tkN L a b T) h
    obtain ⟨h3, -, h4⟩ := tkN_good h1
    exact ⟨h3, h4, h2⟩
  | none :: r, T, h => by
    obtain ⟨h1, h2⟩ := rA_good (ks := r) (T := tkB L T) h
    refine ⟨(tkB_good h1).1, ?_, h2⟩
    unfold sbV
    split
    · exact ⟨by decide, by decide⟩
    · exact ⟨by decide, by decide⟩
theorem rcC_ok {L : List Int32} {T : Tks} {Cs : List Cmd} (h : ∀ c, c ∈ Cs → cOk c) (hc : (rcT L T Cs).code = 0) : ∀ c, c ∈ rcC L T Cs → cOk c := by
  unfold rcC
  unfold rcT at hc
  split
  · rename_i h0
    rw [if_pos h0] at hc
    intro c hm
    rcases List.mem_append.mp hm with q | q
    · exact h c q
    · rw [List.mem_singleton] at q
      rw [q]
      have h1 := (tkS_good hc).1
      exact ⟨vb_lt (c3_good h0).2.1, (rA_good h1).2⟩
  · exact h
theorem rcL_ok {L : List Int32} : ∀ {k : Nat} {T : Tks} {Cs : List Cmd}, (T.code = 0 → ∀ c, c ∈ Cs → cOk c) → (rcL L k T Cs).1.code = 0 → ∀ c, c ∈ (rcL L k T Cs).2 → cOk c
  | 0, T, Cs, h, hc => h hc
  | k + 1, T, Cs, h, hc => by
    by_cases c : T.code = 0
    · have e : rcL L (k + 1) T Cs = if T.kind = 0 then (T, Cs) else rcL L k (rcT L T Cs) (rcC L T Cs) := if_pos c
      rw [e] at hc ⊢
      by_cases d : T.kind = 0
      · rw [if_pos d]
        exact h c
      · rw [if_neg d] at hc ⊢
        exact rcL_ok (fun q => rcC_ok (h c) q) hc
    · have e : rcL L (k + 1) T Cs = (T, Cs) := if_neg c
      rw [e] at hc
      exact absurd hc c
def cA (c : Cmd) (t : Nat) : Int32 := c.2.getD t 0
def sPerfV (g : Gs) : Nat → Int32 → Int32 → Int32 → Int32 → Gs × Int32
  | 0, a, b, c, _ => if inP g.A a then sWork g (tn a) (tn b) (tn c) else (g, -1)
  | 1, a, b, c, d => if inP g.A a ∧ inP g.A b then sSwap g (tn a) (tn b) (tn c) (tn d) else (g, -1)
  | 2, a, b, c, d => if inP g.A a ∧ inP g.A b then sLend g (tn a) (tn b) (tn c) (tn d) else (g, -1)
  | 3, a, b, c, d => if inP g.A a ∧ inP g.A b then sPay g (tn a) (tn b) (tn c) (tn d) else (g, -1)
  | 4, a, b, c, _ => if inP g.A a then sMove g (tn a) b c else (g, -1)
  | 5, a, _, _, _ => if inP g.A a then sConfess g (tn a) else (g, -1)
  | _, a, _, _, _ => sPass g (tn a)
theorem sPerfV_0 {a b c d : Int32} : sPerfV g 0 a b c d = if inP g.A a then sWork g (tn a) (tn b) (tn c) else (g, -1) := rfl
theorem sPerfV_1 {a b c d : Int32} : sPerfV g 1 a b c d = if inP g.A a ∧ inP g.A b then sSwap g (tn a) (tn b) (tn c) (tn d) else (g, -1) := rfl
theorem sPerfV_2 {a b c d : Int32} : sPerfV g 2 a b c d = if inP g.A a ∧ inP g.A b then sLend g (tn a) (tn b) (tn c) (tn d) else (g, -1) := rfl
theorem sPerfV_3 {a b c d : Int32} : sPerfV g 3 a b c d = if inP g.A a ∧ inP g.A b then sPay g (tn a) (tn b) (tn c) (tn d) else (g, -1) := rfl
theorem sPerfV_4 {a b c d : Int32} : sPerfV g 4 a b c d = if inP g.A a then sMove g (tn a) b c else (g, -1) := rfl
theorem sPerfV_5 {a b c d : Int32} : sPerfV g 5 a b c d = if inP g.A a then sConfess g (tn a) else (g, -1) := rfl
theorem sPerfV_6 {a b c d : Int32} : sPerfV g 6 a b c d = sPass g (tn a) := rfl
def sPerf (g : Gs) (c : Cmd) : Gs × Int32 := sPerfV g c.1 (cA c 0) (cA c 1) (cA c 2) (cA c 3)
theorem cOk_get {Cs : List Cmd} {i : Nat} (h : ∀ c, c ∈ Cs → cOk c) (hi : i < Cs.length) : cOk (cg Cs i) := by
  unfold cg
  rw [List.getD_eq_getElem?_getD, List.getElem?_eq_getElem hi]
  exact h _ (List.getElem_mem hi)
theorem args1 {k : Option (Int32 × Int32)} {l : List Int32} (h : argsOk [k] l) : ∃ x, l = [x] := by
  cases l with
  | nil => cases k <;> exact h.elim
  | cons x l =>
    cases l with
    | nil => exact ⟨x, rfl⟩
    | cons y l => cases k <;> exact h.2.elim
theorem args_a0 {l : List Int32} (h : argsOk [some (0, 11), none, some (1, 20)] l) : inR (l.getD 0 0) 0 11 ∧ inR (l.getD 1 0) 0 1 ∧ inR (l.getD 2 0) 1 20 ∧ l.length = 3 := by
  cases l with
  | nil => exact h.elim
  | cons x0 l =>
    cases l with
    | nil => exact h.2.elim
    | cons x1 l =>
      cases l with
      | nil => exact h.2.2.elim
      | cons x2 l =>
        cases l with
        | cons y l => exact (h.2.2.2).elim
        | nil => exact ⟨h.1, h.2.1, h.2.2.1, rfl⟩
theorem args_a1 {l : List Int32} (h : argsOk [some (0, 11), some (0, 11), some (0, 20), some (0, 20)] l) : inR (l.getD 0 0) 0 11 ∧ inR (l.getD 1 0) 0 11 ∧ inR (l.getD 2 0) 0 20 ∧ inR (l.getD 3 0) 0 20 ∧ l.length = 4 := by
  cases l with
  | nil => exact h.elim
  | cons x0 l =>
    cases l with
    | nil => exact h.2.elim
    | cons x1 l =>
      cases l with
      | nil => exact h.2.2.elim
      | cons x2 l =>
        cases l with
        | nil => exact h.2.2.2.elim
        | cons x3 l =>
          cases l with
          | cons y l => exact (h.2.2.2.2).elim
          | nil => exact ⟨h.1, h.2.1, h.2.2.1, h.2.2.2.1, rfl⟩
theorem args_a2 {l : List Int32} (h : argsOk [some (0, 11), some (0, 11), none, some (1, 20)] l) : inR (l.getD 0 0) 0 11 ∧ inR (l.getD 1 0) 0 11 ∧ inR (l.getD 2 0) 0 1 ∧ inR (l.getD 3 0) 1 20 ∧ l.length = 4 := by
  cases l with
  | nil => exact h.elim
  | cons x0 l =>
    cases l with
    | nil => exact h.2.elim
    | cons x1 l =>
      cases l with
      | nil => exact h.2.2.elim
      | cons x2 l =>
        cases l with
        | nil => exact h.2.2.2.elim
        | cons x3 l =>
          cases l with
          | cons y l => exact (h.2.2.2.2).elim
          | nil => exact ⟨h.1, h.2.1, h.2.2.1, h.2.2.2.1, rfl⟩
theorem args_a4 {l : List Int32} (h : argsOk [some (0, 11), some (0, 5), some (0, 5)] l) : inR (l.getD 0 0) 0 11 ∧ inR (l.getD 1 0) 0 5 ∧ inR (l.getD 2 0) 0 5 ∧ l.length = 3 := by
  cases l with
  | nil => exact h.elim
  | cons x0 l =>
    cases l with
    | nil => exact h.2.elim
    | cons x1 l =>
      cases l with
      | nil => exact h.2.2.elim
      | cons x2 l =>
        cases l with
        | cons y l => exact (h.2.2.2).elim
        | nil => exact ⟨h.1, h.2.1, h.2.2.1, rfl⟩
theorem args_a5 {l : List Int32} (h : argsOk [some (0, 11)] l) : inR (l.getD 0 0) 0 11 ∧ l.length = 1 := by
  cases l with
  | nil => exact h.elim
  | cons x0 l =>
    cases l with
    | cons y l => exact (h.2).elim
    | nil => exact ⟨h.1, rfl⟩
theorem args_a6 {l : List Int32} (h : argsOk [some (1, 10)] l) : inR (l.getD 0 0) 1 10 ∧ l.length = 1 := by
  cases l with
  | nil => exact h.elim
  | cons x0 l =>
    cases l with
    | cons y l => exact (h.2).elim
    | nil => exact ⟨h.1, rfl⟩
theorem Scr.frA {Cs : List Cmd} (h : Scr M Cs) (hf : Fr dAc M M') : Scr M' Cs := h.keep (fun k _ h6 t => hf.at (fun q => by have q' : 7 ≤ k ∧ k ≤ 19 := q; omega) t)
theorem s_X8_perf0 {Cs : List Cmd} {i : Nat} {l : List Int32} (hC : CG M g) (hO : Okg g) (hS : Scr M Cs) (hi : i < Cs.length) (hcc : cg Cs i = (0, l)) (hl : argsOk (vK 0) l) (h : ∀ M', CG M' (sPerfV g 0 (l.getD 0 0) (l.getD 1 0) (l.getD 2 0) (l.getD 3 0)).1 → Fr dAc M M' → P (.inl (some (.int (sPerfV g 0 (l.getD 0 0) (l.getD 1 0) (l.getD 2 0) (l.getD 3 0)).2))) M') : Sp E yX8_perform cX8_perform zX8_perform [.ref (ad E 0 0 0), .int (nI i)] M P := by
  have hA := hC.1
  have h12 := hA.n12
  have hv := (hS.2.2 i hi).1.2.1
  have hargs := (hS.2.2 i hi).2
  rw [hcc] at hargs
  obtain ⟨r0, r1, r2, hlen⟩ := args_a0 hl
  rw [sPerfV_0] at h
  have ev : (cg Cs i).1 = 0 := by rw [hcc]
  have e0 : M.1 6 0 0 (4 * i + 0) = l.getD 0 0 := hargs 0 (by show 0 < l.length; omega)
  have e1 : M.1 6 0 0 (4 * i + 1) = l.getD 1 0 := hargs 1 (by show 1 < l.length; omega)
  have e2 : M.1 6 0 0 (4 * i + 2) = l.getD 2 0 := hargs 2 (by show 2 < l.length; omega)
  refine Sp_of (own := RX8) (by decide) rfl rfl (Nat.le_of_ble_eq_true rfl) (fun C => ?_)
  refine G_aload_n dX8_perform_0 rfl ?_
  refine gf_X8_19 dX8_perform_1  ?_
  refine G_iload_n dX8_perform_4 rfl ?_
  refine cv_X8_125 (cs' := 0) (ss' := 0) dX8_perform_5  (Nat.le_of_ble_eq_true rfl) (Nat.le_of_ble_eq_true rfl) (Nat.le_of_ble_eq_true rfl) rfl rfl (Nat.le_of_ble_eq_true rfl) (Nat.le_of_ble_eq_true rfl) rfl ?_
  refine s_X4_verb hS hi (hGo_i ?_)
  rw [ev]
  refine G_istore_n dX8_perform_8 (Nat.le_of_ble_eq_true rfl) ?_
  refine G_aload_n dX8_perform_9 rfl ?_
  refine gf_X8_19 dX8_perform_10  ?_
  refine G_iload_n dX8_perform_13 rfl ?_
  refine G_iconst (v := 0) dX8_perform_14 (by decide) ?_
  refine cv_X8_128 (cs' := 0) (ss' := 0) dX8_perform_15  (Nat.le_of_ble_eq_true rfl) (Nat.le_of_ble_eq_true rfl) (Nat.le_of_ble_eq_true rfl) rfl rfl (Nat.le_of_ble_eq_true rfl) (Nat.le_of_ble_eq_true rfl) rfl ?_
  refine s_X4_argument (t := 0) hS hi (by decide) (hGo_i ?_)
  rw [e0]
  refine G_istore_n dX8_perform_18 (Nat.le_of_ble_eq_true rfl) ?_
  refine G_aload_n dX8_perform_19 rfl ?_
  refine gf_X8_19 dX8_perform_20  ?_
  refine G_iload_n dX8_perform_23 rfl ?_
  refine G_iconst (v := 1) dX8_perform_24 (by decide) ?_
  refine cv_X8_128 (cs' := 0) (ss' := 0) dX8_perform_25  (Nat.le_of_ble_eq_true rfl) (Nat.le_of_ble_eq_true rfl) (Nat.le_of_ble_eq_true rfl) rfl rfl (Nat.le_of_ble_eq_true rfl) (Nat.le_of_ble_eq_true rfl) rfl ?_
  refine s_X4_argument (t := 1) hS hi (by decide) (hGo_i ?_)
  rw [e1]
  refine G_istore dX8_perform_28 (Nat.le_of_ble_eq_true rfl) ?_
  refine G_aload_n dX8_perform_30 rfl ?_
  refine gf_X8_19 dX8_perform_31  ?_
  refine G_iload_n dX8_perform_34 rfl ?_
  refine G_iconst (v := 2) dX8_perform_35 (by decide) ?_
  refine cv_X8_128 (cs' := 0) (ss' := 0) dX8_perform_36  (Nat.le_of_ble_eq_true rfl) (Nat.le_of_ble_eq_true rfl) (Nat.le_of_ble_eq_true rfl) rfl rfl (Nat.le_of_ble_eq_true rfl) (Nat.le_of_ble_eq_true rfl) rfl ?_
  refine s_X4_argument (t := 2) hS hi (by decide) (hGo_i ?_)
  rw [e2]
  refine G_istore dX8_perform_39 (Nat.le_of_ble_eq_true rfl) ?_
  refine G_aload_n dX8_perform_41 rfl ?_
  refine gf_X8_19 dX8_perform_42  ?_
  refine G_iload_n dX8_perform_45 rfl ?_
  refine G_iconst (v := 3) dX8_perform_46 (by decide) ?_
  refine cv_X8_128 (cs' := 0) (ss' := 0) dX8_perform_47  (Nat.le_of_ble_eq_true rfl) (Nat.le_of_ble_eq_true rfl) (Nat.le_of_ble_eq_true rfl) rfl rfl (Nat.le_of_ble_eq_true rfl) (Nat.le_of_ble_eq_true rfl) rfl ?_
  refine s_X4_argument (t := 3) hS hi (by decide) (hGo_i ?_)
  refine G_istore dX8_perform_50 (Nat.le_of_ble_eq_true rfl) ?_
  refine G_iload_n dX8_perform_52 rfl ?_
  refine G_bipush (v := 6) dX8_perform_53 (by decide) ?_
  refine G_icmp_ne (tgt := 64) dX8_perform_55 (by decide) (fun c55 => ?_) (fun c55 => ?_)
  rotate_left
  · exact absurd c55 (by decide)
  refine G_aload_n dX8_perform_64 rfl ?_
  refine gf_X8_26 dX8_perform_65  ?_
  refine G_iload_n dX8_perform_68 rfl ?_
  refine cv_X8_135 (cs' := 0) (ss' := 0) dX8_perform_69 (by decide) (Nat.le_of_ble_eq_true rfl) (Nat.le_of_ble_eq_true rfl) (Nat.le_of_ble_eq_true rfl) rfl rfl (Nat.le_of_ble_eq_true rfl) (Nat.le_of_ble_eq_true rfl) rfl ?_
  refine s_X3_has (by decide) hA (hGo_i ?_)
  by_cases q0 : inP g.A (l.getD 0 0)
  rotate_left
  · rw [if_neg q0]
    rw [if_neg q0] at h
    refine G_if_ne (tgt := 77) dX8_perform_72 (by decide) (fun c72 => ?_) (fun c72 => ?_)
    · exact absurd rfl c72
    · refine G_iconst (v := (-1)) dX8_perform_75 (by decide) ?_
      refine G_iret dX8_perform_76 rfl rfl (Nat.le_of_ble_eq_true rfl) (Nat.le_of_ble_eq_true rfl) ?_
      exact h M hC Fr.rfl
  rw [if_pos q0]
  refine G_if_ne (tgt := 77) dX8_perform_72 (by decide) (fun c72 => ?_) (fun c72 => ?_)
  rotate_left
  · exact absurd c72 (by decide)
  refine G_iload_n dX8_perform_77 rfl ?_
  refine G_iconst (v := 1) dX8_perform_78 (by decide) ?_
  refine G_icmp_eq (tgt := 92) dX8_perform_79 (by decide) (fun c79 => ?_) (fun c79 => ?_)
  · exact absurd c79 (by decide)
  refine G_iload_n dX8_perform_82 rfl ?_
  refine G_iconst (v := 2) dX8_perform_83 (by decide) ?_
  refine G_icmp_eq (tgt := 92) dX8_perform_84 (by decide) (fun c84 => ?_) (fun c84 => ?_)
  · exact absurd c84 (by decide)
  refine G_iload_n dX8_perform_87 rfl ?_
  refine G_iconst (v := 3) dX8_perform_88 (by decide) ?_
  refine G_icmp_ne (tgt := 106) dX8_perform_89 (by decide) (fun c89 => ?_) (fun c89 => ?_)
  rotate_left
  · exact absurd c89 (by decide)
  rw [if_pos q0] at h
  obtain ⟨a0, hp0, x0, y0⟩ := in_ix q0 (by omega)
  rw [y0] at h
  rw [x0]
  obtain ⟨a1, l1, h1, x1, y1⟩ := inR_ix (i := 0) (k := 1) (by decide) (by decide) r1
  rw [y1] at h
  rw [x1]
  obtain ⟨a2, l2, h2, x2, y2⟩ := inR_ix (i := 1) (k := 20) (by decide) (by decide) r2
  rw [y2] at h
  rw [x2]
  refine G_iload_n dX8_perform_106 rfl ?_
  refine G_tIn (off := 37) (tgt := 144) dX8_perform_107 (by decide) (by decide) rfl (by decide) ?_
  refine G_aload_n dX8_perform_144 rfl ?_
  refine G_iload_n dX8_perform_145 rfl ?_
  refine G_iload dX8_perform_146 rfl ?_
  refine G_iload dX8_perform_148 rfl ?_
  refine cv_X8_139 (cs' := 0) (ss' := 0) dX8_perform_150  (Nat.le_of_ble_eq_true rfl) (Nat.le_of_ble_eq_true rfl) (Nat.le_of_ble_eq_true rfl) rfl rfl (Nat.le_of_ble_eq_true rfl) (Nat.le_of_ble_eq_true rfl) rfl ?_
  refine s_X8_doWork hC hO hp0 (by omega) h2 (fun M1 g1 f1 => hGo_i ?_)
  refine G_iret dX8_perform_153 rfl rfl (Nat.le_of_ble_eq_true rfl) (Nat.le_of_ble_eq_true rfl) ?_
  exact h M1 g1 f1
theorem s_X8_perf1 {Cs : List Cmd} {i : Nat} {l : List Int32} (hC : CG M g) (hO : Okg g) (hS : Scr M Cs) (hi : i < Cs.length) (hcc : cg Cs i = (1, l)) (hl : argsOk (vK 1) l) (h : ∀ M', CG M' (sPerfV g 1 (l.getD 0 0) (l.getD 1 0) (l.getD 2 0) (l.getD 3 0)).1 → Fr dAc M M' → P (.inl (some (.int (sPerfV g 1 (l.getD 0 0) (l.getD 1 0) (l.getD 2 0) (l.getD 3 0)).2))) M') : Sp E yX8_perform cX8_perform zX8_perform [.ref (ad E 0 0 0), .int (nI i)] M P := by
  have hA := hC.1
  have h12 := hA.n12
  have hv := (hS.2.2 i hi).1.2.1
  have hargs := (hS.2.2 i hi).2
  rw [hcc] at hargs
  obtain ⟨r0, r1, r2, r3, hlen⟩ := args_a1 hl
  rw [sPerfV_1] at h
  have ev : (cg Cs i).1 = 1 := by rw [hcc]
  have e0 : M.1 6 0 0 (4 * i + 0) = l.getD 0 0 := hargs 0 (by show 0 < l.length; omega)
  have e1 : M.1 6 0 0 (4 * i + 1) = l.getD 1 0 := hargs 1 (by show 1 < l.length; omega)
  have e2 : M.1 6 0 0 (4 * i + 2) = l.getD 2 0 := hargs 2 (by show 2 < l.length; omega)
  have e3 : M.1 6 0 0 (4 * i + 3) = l.getD 3 0 := hargs 3 (by show 3 < l.length; omega)
  refine Sp_of (own := RX8) (by decide) rfl rfl (Nat.le_of_ble_eq_true rfl) (fun C => ?_)
  refine G_aload_n dX8_perform_0 rfl ?_
  refine gf_X8_19 dX8_perform_1  ?_
  refine G_iload_n dX8_perform_4 rfl ?_
  refine cv_X8_125 (cs' := 0) (ss' := 0) dX8_perform_5  (Nat.le_of_ble_eq_true rfl) (Nat.le_of_ble_eq_true rfl) (Nat.le_of_ble_eq_true rfl) rfl rfl (Nat.le_of_ble_eq_true rfl) (Nat.le_of_ble_eq_true rfl) rfl ?_
  refine s_X4_verb hS hi (hGo_i ?_)
  rw [ev]
  refine G_istore_n dX8_perform_8 (Nat.le_of_ble_eq_true rfl) ?_
  refine G_aload_n dX8_perform_9 rfl ?_
  refine gf_X8_19 dX8_perform_10  ?_
  refine G_iload_n dX8_perform_13 rfl ?_
  refine G_iconst (v := 0) dX8_perform_14 (by decide) ?_
  refine cv_X8_128 (cs' := 0) (ss' := 0) dX8_perform_15  (Nat.le_of_ble_eq_true rfl) (Nat.le_of_ble_eq_true rfl) (Nat.le_of_ble_eq_true rfl) rfl rfl (Nat.le_of_ble_eq_true rfl) (Nat.le_of_ble_eq_true rfl) rfl ?_
  refine s_X4_argument (t := 0) hS hi (by decide) (hGo_i ?_)
  rw [e0]
  refine G_istore_n dX8_perform_18 (Nat.le_of_ble_eq_true rfl) ?_
  refine G_aload_n dX8_perform_19 rfl ?_
  refine gf_X8_19 dX8_perform_20  ?_
  refine G_iload_n dX8_perform_23 rfl ?_
  refine G_iconst (v := 1) dX8_perform_24 (by decide) ?_
  refine cv_X8_128 (cs' := 0) (ss' := 0) dX8_perform_25  (Nat.le_of_ble_eq_true rfl) (Nat.le_of_ble_eq_true rfl) (Nat.le_of_ble_eq_true rfl) rfl rfl (Nat.le_of_ble_eq_true rfl) (Nat.le_of_ble_eq_true rfl) rfl ?_
  refine s_X4_argument (t := 1) hS hi (by decide) (hGo_i ?_)
  rw [e1]
  refine G_istore dX8_perform_28 (Nat.le_of_ble_eq_true rfl) ?_
  refine G_aload_n dX8_perform_30 rfl ?_
  refine gf_X8_19 dX8_perform_31  ?_
  refine G_iload_n dX8_perform_34 rfl ?_
  refine G_iconst (v := 2) dX8_perform_35 (by decide) ?_
  refine cv_X8_128 (cs' := 0) (ss' := 0) dX8_perform_36  (Nat.le_of_ble_eq_true rfl) (Nat.le_of_ble_eq_true rfl) (Nat.le_of_ble_eq_true rfl) rfl rfl (Nat.le_of_ble_eq_true rfl) (Nat.le_of_ble_eq_true rfl) rfl ?_
  refine s_X4_argument (t := 2) hS hi (by decide) (hGo_i ?_)
  rw [e2]
  refine G_istore dX8_perform_39 (Nat.le_of_ble_eq_true rfl) ?_
  refine G_aload_n dX8_perform_41 rfl ?_
  refine gf_X8_19 dX8_perform_42  ?_
  refine G_iload_n dX8_perform_45 rfl ?_
  refine G_iconst (v := 3) dX8_perform_46 (by decide) ?_
  refine cv_X8_128 (cs' := 0) (ss' := 0) dX8_perform_47  (Nat.le_of_ble_eq_true rfl) (Nat.le_of_ble_eq_true rfl) (Nat.le_of_ble_eq_true rfl) rfl rfl (Nat.le_of_ble_eq_true rfl) (Nat.le_of_ble_eq_true rfl) rfl ?_
  refine s_X4_argument (t := 3) hS hi (by decide) (hGo_i ?_)
  rw [e3]
  refine G_istore dX8_perform_50 (Nat.le_of_ble_eq_true rfl) ?_
  refine G_iload_n dX8_perform_52 rfl ?_
  refine G_bipush (v := 6) dX8_perform_53 (by decide) ?_
  refine G_icmp_ne (tgt := 64) dX8_perform_55 (by decide) (fun c55 => ?_) (fun c55 => ?_)
  rotate_left
  · exact absurd c55 (by decide)
  refine G_aload_n dX8_perform_64 rfl ?_
  refine gf_X8_26 dX8_perform_65  ?_
  refine G_iload_n dX8_perform_68 rfl ?_
  refine cv_X8_135 (cs' := 0) (ss' := 0) dX8_perform_69 (by decide) (Nat.le_of_ble_eq_true rfl) (Nat.le_of_ble_eq_true rfl) (Nat.le_of_ble_eq_true rfl) rfl rfl (Nat.le_of_ble_eq_true rfl) (Nat.le_of_ble_eq_true rfl) rfl ?_
  refine s_X3_has (by decide) hA (hGo_i ?_)
  by_cases q0 : inP g.A (l.getD 0 0)
  rotate_left
  · rw [if_neg q0]
    rw [if_neg (fun q => q0 q.1)] at h
    refine G_if_ne (tgt := 77) dX8_perform_72 (by decide) (fun c72 => ?_) (fun c72 => ?_)
    · exact absurd rfl c72
    · refine G_iconst (v := (-1)) dX8_perform_75 (by decide) ?_
      refine G_iret dX8_perform_76 rfl rfl (Nat.le_of_ble_eq_true rfl) (Nat.le_of_ble_eq_true rfl) ?_
      exact h M hC Fr.rfl
  rw [if_pos q0]
  refine G_if_ne (tgt := 77) dX8_perform_72 (by decide) (fun c72 => ?_) (fun c72 => ?_)
  rotate_left
  · exact absurd c72 (by decide)
  refine G_iload_n dX8_perform_77 rfl ?_
  refine G_iconst (v := 1) dX8_perform_78 (by decide) ?_
  refine G_icmp_eq (tgt := 92) dX8_perform_79 (by decide) (fun c79 => ?_) (fun c79 => ?_)
  rotate_left
  · exact absurd rfl c79
  refine G_aload_n dX8_perform_92 rfl ?_
  refine gf_X8_26 dX8_perform_93  ?_
  refine G_iload dX8_perform_96 rfl ?_
  refine cv_X8_135 (cs' := 0) (ss' := 0) dX8_perform_98 (by decide) (Nat.le_of_ble_eq_true rfl) (Nat.le_of_ble_eq_true rfl) (Nat.le_of_ble_eq_true rfl) rfl rfl (Nat.le_of_ble_eq_true rfl) (Nat.le_of_ble_eq_true rfl) rfl ?_
  refine s_X3_has (by decide) hA (hGo_i ?_)
  by_cases q1 : inP g.A (l.getD 1 0)
  rotate_left
  · rw [if_neg q1]
    rw [if_neg (fun q => q1 q.2)] at h
    refine G_if_ne (tgt := 106) dX8_perform_101 (by decide) (fun c101 => ?_) (fun c101 => ?_)
    · exact absurd rfl c101
    · refine G_iconst (v := (-1)) dX8_perform_104 (by decide) ?_
      refine G_iret dX8_perform_105 rfl rfl (Nat.le_of_ble_eq_true rfl) (Nat.le_of_ble_eq_true rfl) ?_
      exact h M hC Fr.rfl
  rw [if_pos q1]
  refine G_if_ne (tgt := 106) dX8_perform_101 (by decide) (fun c101 => ?_) (fun c101 => ?_)
  rotate_left
  · exact absurd c101 (by decide)
  rw [if_pos ⟨q0, q1⟩] at h
  obtain ⟨a0, hp0, x0, y0⟩ := in_ix q0 (by omega)
  rw [y0] at h
  rw [x0]
  obtain ⟨a1, hp1, x1, y1⟩ := in_ix q1 (by omega)
  rw [y1] at h
  rw [x1]
  obtain ⟨a2, l2, h2, x2, y2⟩ := inR_ix (i := 0) (k := 20) (by decide) (by decide) r2
  rw [y2] at h
  rw [x2]
  obtain ⟨a3, l3, h3, x3, y3⟩ := inR_ix (i := 0) (k := 20) (by decide) (by decide) r3
  rw [y3] at h
  rw [x3]
  refine G_iload_n dX8_perform_106 rfl ?_
  refine G_tIn (off := 47) (tgt := 154) dX8_perform_107 (by decide) (by decide) rfl (by decide) ?_
  refine G_aload_n dX8_perform_154 rfl ?_
  refine G_iload_n dX8_perform_155 rfl ?_
  refine G_iload dX8_perform_156 rfl ?_
  refine G_iload dX8_perform_158 rfl ?_
  refine G_iload dX8_perform_160 rfl ?_
  refine cv_X8_143 (cs' := 0) (ss' := 0) dX8_perform_162  (Nat.le_of_ble_eq_true rfl) (Nat.le_of_ble_eq_true rfl) (Nat.le_of_ble_eq_true rfl) rfl rfl (Nat.le_of_ble_eq_true rfl) (Nat.le_of_ble_eq_true rfl) rfl ?_
  refine s_X8_doSwap hC hO hp0 hp1 h2 h3 (fun M1 g1 f1 => hGo_i ?_)
  refine G_iret dX8_perform_165 rfl rfl (Nat.le_of_ble_eq_true rfl) (Nat.le_of_ble_eq_true rfl) ?_
  exact h M1 g1 f1
theorem s_X8_perf2 {Cs : List Cmd} {i : Nat} {l : List Int32} (hC : CG M g) (hO : Okg g) (hS : Scr M Cs) (hi : i < Cs.length) (hcc : cg Cs i = (2, l)) (hl : argsOk (vK 2) l) (h : ∀ M', CG M' (sPerfV g 2 (l.getD 0 0) (l.getD 1 0) (l.getD 2 0) (l.getD 3 0)).1 → Fr dAc M M' → P (.inl (some (.int (sPerfV g 2 (l.getD 0 0) (l.getD 1 0) (l.getD 2 0) (l.getD 3 0)).2))) M') : Sp E yX8_perform cX8_perform zX8_perform [.ref (ad E 0 0 0), .int (nI i)] M P := by
  have hA := hC.1
  have h12 := hA.n12
  have hv := (hS.2.2 i hi).1.2.1
  have hargs := (hS.2.2 i hi).2
  rw [hcc] at hargs
  obtain ⟨r0, r1, r2, r3, hlen⟩ := args_a2 hl
  rw [sPerfV_2] at h
  have ev : (cg Cs i).1 = 2 := by rw [hcc]
  have e0 : M.1 6 0 0 (4 * i + 0) = l.getD 0 0 := hargs 0 (by show 0 < l.length; omega)
  have e1 : M.1 6 0 0 (4 * i + 1) = l.getD 1 0 := hargs 1 (by show 1 < l.length; omega)
  have e2 : M.1 6 0 0 (4 * i + 2) = l.getD 2 0 := hargs 2 (by show 2 < l.length; omega)
  have e3 : M.1 6 0 0 (4 * i + 3) = l.getD 3 0 := hargs 3 (by show 3 < l.length; omega)
  refine Sp_of (own := RX8) (by decide) rfl rfl (Nat.le_of_ble_eq_true rfl) (fun C => ?_)
  refine G_aload_n dX8_perform_0 rfl ?_
  refine gf_X8_19 dX8_perform_1  ?_
  refine G_iload_n dX8_perform_4 rfl ?_
  refine cv_X8_125 (cs' := 0) (ss' := 0) dX8_perform_5  (Nat.le_of_ble_eq_true rfl) (Nat.le_of_ble_eq_true rfl) (Nat.le_of_ble_eq_true rfl) rfl rfl (Nat.le_of_ble_eq_true rfl) (Nat.le_of_ble_eq_true rfl) rfl ?_
  refine s_X4_verb hS hi (hGo_i ?_)
  rw [ev]
  refine G_istore_n dX8_perform_8 (Nat.le_of_ble_eq_true rfl) ?_
  refine G_aload_n dX8_perform_9 rfl ?_
  refine gf_X8_19 dX8_perform_10  ?_
  refine G_iload_n dX8_perform_13 rfl ?_
  refine G_iconst (v := 0) dX8_perform_14 (by decide) ?_
  refine cv_X8_128 (cs' := 0) (ss' := 0) dX8_perform_15  (Nat.le_of_ble_eq_true rfl) (Nat.le_of_ble_eq_true rfl) (Nat.le_of_ble_eq_true rfl) rfl rfl (Nat.le_of_ble_eq_true rfl) (Nat.le_of_ble_eq_true rfl) rfl ?_
  refine s_X4_argument (t := 0) hS hi (by decide) (hGo_i ?_)
  rw [e0]
  refine G_istore_n dX8_perform_18 (Nat.le_of_ble_eq_true rfl) ?_
  refine G_aload_n dX8_perform_19 rfl ?_
  refine gf_X8_19 dX8_perform_20  ?_
  refine G_iload_n dX8_perform_23 rfl ?_
  refine G_iconst (v := 1) dX8_perform_24 (by decide) ?_
  refine cv_X8_128 (cs' := 0) (ss' := 0) dX8_perform_25  (Nat.le_of_ble_eq_true rfl) (Nat.le_of_ble_eq_true rfl) (Nat.le_of_ble_eq_true rfl) rfl rfl (Nat.le_of_ble_eq_true rfl) (Nat.le_of_ble_eq_true rfl) rfl ?_
  refine s_X4_argument (t := 1) hS hi (by decide) (hGo_i ?_)
  rw [e1]
  refine G_istore dX8_perform_28 (Nat.le_of_ble_eq_true rfl) ?_
  refine G_aload_n dX8_perform_30 rfl ?_
  refine gf_X8_19 dX8_perform_31  ?_
  refine G_iload_n dX8_perform_34 rfl ?_
  refine G_iconst (v := 2) dX8_perform_35 (by decide) ?_
  refine cv_X8_128 (cs' := 0) (ss' := 0) dX8_perform_36  (Nat.le_of_ble_eq_true rfl) (Nat.le_of_ble_eq_true rfl) (Nat.le_of_ble_eq_true rfl) rfl rfl (Nat.le_of_ble_eq_true rfl) (Nat.le_of_ble_eq_true rfl) rfl ?_
  refine s_X4_argument (t := 2) hS hi (by decide) (hGo_i ?_)
  rw [e2]
  refine G_istore dX8_perform_39 (Nat.le_of_ble_eq_true rfl) ?_
  refine G_aload_n dX8_perform_41 rfl ?_
  refine gf_X8_19 dX8_perform_42  ?_
  refine G_iload_n dX8_perform_45 rfl ?_
  refine G_iconst (v := 3) dX8_perform_46 (by decide) ?_
  refine cv_X8_128 (cs' := 0) (ss' := 0) dX8_perform_47  (Nat.le_of_ble_eq_true rfl) (Nat.le_of_ble_eq_true rfl) (Nat.le_of_ble_eq_true rfl) rfl rfl (Nat.le_of_ble_eq_true rfl) (Nat.le_of_ble_eq_true rfl) rfl ?_
  refine s_X4_argument (t := 3) hS hi (by decide) (hGo_i ?_)
  rw [e3]
  refine G_istore dX8_perform_50 (Nat.le_of_ble_eq_true rfl) ?_
  refine G_iload_n dX8_perform_52 rfl ?_
  refine G_bipush (v := 6) dX8_perform_53 (by decide) ?_
  refine G_icmp_ne (tgt := 64) dX8_perform_55 (by decide) (fun c55 => ?_) (fun c55 => ?_)
  rotate_left
  · exact absurd c55 (by decide)
  refine G_aload_n dX8_perform_64 rfl ?_
  refine gf_X8_26 dX8_perform_65  ?_
  refine G_iload_n dX8_perform_68 rfl ?_
  refine cv_X8_135 (cs' := 0) (ss' := 0) dX8_perform_69 (by decide) (Nat.le_of_ble_eq_true rfl) (Nat.le_of_ble_eq_true rfl) (Nat.le_of_ble_eq_true rfl) rfl rfl (Nat.le_of_ble_eq_true rfl) (Nat.le_of_ble_eq_true rfl) rfl ?_
  refine s_X3_has (by decide) hA (hGo_i ?_)
  by_cases q0 : inP g.A (l.getD 0 0)
  rotate_left
  · rw [if_neg q0]
    rw [if_neg (fun q => q0 q.1)] at h
    refine G_if_ne (tgt := 77) dX8_perform_72 (by decide) (fun c72 => ?_) (fun c72 => ?_)
    · exact absurd rfl c72
    · refine G_iconst (v := (-1)) dX8_perform_75 (by decide) ?_
      refine G_iret dX8_perform_76 rfl rfl (Nat.le_of_ble_eq_true rfl) (Nat.le_of_ble_eq_true rfl) ?_
      exact h M hC Fr.rfl
  rw [if_pos q0]
  refine G_if_ne (tgt := 77) dX8_perform_72 (by decide) (fun c72 => ?_) (fun c72 => ?_)
  rotate_left
  · exact absurd c72 (by decide)
  refine G_iload_n dX8_perform_77 rfl ?_
  refine G_iconst (v := 1) dX8_perform_78 (by decide) ?_
  refine G_icmp_eq (tgt := 92) dX8_perform_79 (by decide) (fun c79 => ?_) (fun c79 => ?_)
  · exact absurd c79 (by decide)
  refine G_iload_n dX8_perform_82 rfl ?_
  refine G_iconst (v := 2) dX8_perform_83 (by decide) ?_
  refine G_icmp_eq (tgt := 92) dX8_perform_84 (by decide) (fun c84 => ?_) (fun c84 => ?_)
  rotate_left
  · exact absurd rfl c84
  refine G_aload_n dX8_perform_92 rfl ?_
  refine gf_X8_26 dX8_perform_93  ?_
  refine G_iload dX8_perform_96 rfl ?_
  refine cv_X8_135 (cs' := 0) (ss' := 0) dX8_perform_98 (by decide) (Nat.le_of_ble_eq_true rfl) (Nat.le_of_ble_eq_true rfl) (Nat.le_of_ble_eq_true rfl) rfl rfl (Nat.le_of_ble_eq_true rfl) (Nat.le_of_ble_eq_true rfl) rfl ?_
  refine s_X3_has (by decide) hA (hGo_i ?_)
  by_cases q1 : inP g.A (l.getD 1 0)
  rotate_left
  · rw [if_neg q1]
    rw [if_neg (fun q => q1 q.2)] at h
    refine G_if_ne (tgt := 106) dX8_perform_101 (by decide) (fun c101 => ?_) (fun c101 => ?_)
    · exact absurd rfl c101
    · refine G_iconst (v := (-1)) dX8_perform_104 (by decide) ?_
      refine G_iret dX8_perform_105 rfl rfl (Nat.le_of_ble_eq_true rfl) (Nat.le_of_ble_eq_true rfl) ?_
      exact h M hC Fr.rfl
  rw [if_pos q1]
  refine G_if_ne (tgt := 106) dX8_perform_101 (by decide) (fun c101 => ?_) (fun c101 => ?_)
  rotate_left
  · exact absurd c101 (by decide)
  rw [if_pos ⟨q0, q1⟩] at h
  obtain ⟨a0, hp0, x0, y0⟩ := in_ix q0 (by omega)
  rw [y0] at h
  rw [x0]
  obtain ⟨a1, hp1, x1, y1⟩ := in_ix q1 (by omega)
  rw [y1] at h
  rw [x1]
  obtain ⟨a2, l2, h2, x2, y2⟩ := inR_ix (i := 0) (k := 1) (by decide) (by decide) r2
  rw [y2] at h
  rw [x2]
  obtain ⟨a3, l3, h3, x3, y3⟩ := inR_ix (i := 1) (k := 20) (by decide) (by decide) r3
  rw [y3] at h
  rw [x3]
  refine G_iload_n dX8_perform_106 rfl ?_
  refine G_tIn (off := 59) (tgt := 166) dX8_perform_107 (by decide) (by decide) rfl (by decide) ?_
  refine G_aload_n dX8_perform_166 rfl ?_
  refine G_iload_n dX8_perform_167 rfl ?_
  refine G_iload dX8_perform_168 rfl ?_
  refine G_iload dX8_perform_170 rfl ?_
  refine G_iload dX8_perform_172 rfl ?_
  refine cv_X8_147 (cs' := 0) (ss' := 0) dX8_perform_174  (Nat.le_of_ble_eq_true rfl) (Nat.le_of_ble_eq_true rfl) (Nat.le_of_ble_eq_true rfl) rfl rfl (Nat.le_of_ble_eq_true rfl) (Nat.le_of_ble_eq_true rfl) rfl ?_
  refine s_X8_doLend hC hO hp0 hp1 (by omega) h3 (fun M1 g1 f1 => hGo_i ?_)
  refine G_iret dX8_perform_177 rfl rfl (Nat.le_of_ble_eq_true rfl) (Nat.le_of_ble_eq_true rfl) ?_
  exact h M1 g1 f1
theorem s_X8_perf3 {Cs : List Cmd} {i : Nat} {l : List Int32} (hC : CG M g) (hO : Okg g) (hS : Scr M Cs) (hi : i < Cs.length) (hcc : cg Cs i = (3, l)) (hl : argsOk (vK 3) l) (h : ∀ M', CG M' (sPerfV g 3 (l.getD 0 0) (l.getD 1 0) (l.getD 2 0) (l.getD 3 0)).1 → Fr dAc M M' → P (.inl (some (.int (sPerfV g 3 (l.getD 0 0) (l.getD 1 0) (l.getD 2 0) (l.getD 3 0)).2))) M') : Sp E yX8_perform cX8_perform zX8_perform [.ref (ad E 0 0 0), .int (nI i)] M P := by
  have hA := hC.1
  have h12 := hA.n12
  have hv := (hS.2.2 i hi).1.2.1
  have hargs := (hS.2.2 i hi).2
  rw [hcc] at hargs
  obtain ⟨r0, r1, r2, r3, hlen⟩ := args_a2 hl
  rw [sPerfV_3] at h
  have ev : (cg Cs i).1 = 3 := by rw [hcc]
  have e0 : M.1 6 0 0 (4 * i + 0) = l.getD 0 0 := hargs 0 (by show 0 < l.length; omega)
  have e1 : M.1 6 0 0 (4 * i + 1) = l.getD 1 0 := hargs 1 (by show 1 < l.length; omega)
  have e2 : M.1 6 0 0 (4 * i + 2) = l.getD 2 0 := hargs 2 (by show 2 < l.length; omega)
  have e3 : M.1 6 0 0 (4 * i + 3) = l.getD 3 0 := hargs 3 (by show 3 < l.length; omega)
  refine Sp_of (own := RX8) (by decide) rfl rfl (Nat.le_of_ble_eq_true rfl) (fun C => ?_)
  refine G_aload_n dX8_perform_0 rfl ?_
  refine gf_X8_19 dX8_perform_1  ?_
  refine G_iload_n dX8_perform_4 rfl ?_
  refine cv_X8_125 (cs' := 0) (ss' := 0) dX8_perform_5  (Nat.le_of_ble_eq_true rfl) (Nat.le_of_ble_eq_true rfl) (Nat.le_of_ble_eq_true rfl) rfl rfl (Nat.le_of_ble_eq_true rfl) (Nat.le_of_ble_eq_true rfl) rfl ?_
  refine s_X4_verb hS hi (hGo_i ?_)
  rw [ev]
  refine G_istore_n dX8_perform_8 (Nat.le_of_ble_eq_true rfl) ?_
  refine G_aload_n dX8_perform_9 rfl ?_
  refine gf_X8_19 dX8_perform_10  ?_
  refine G_iload_n dX8_perform_13 rfl ?_
  refine G_iconst (v := 0) dX8_perform_14 (by decide) ?_
  refine cv_X8_128 (cs' := 0) (ss' := 0) dX8_perform_15  (Nat.le_of_ble_eq_true rfl) (Nat.le_of_ble_eq_true rfl) (Nat.le_of_ble_eq_true rfl) rfl rfl (Nat.le_of_ble_eq_true rfl) (Nat.le_of_ble_eq_true rfl) rfl ?_
  refine s_X4_argument (t := 0) hS hi (by decide) (hGo_i ?_)
  rw [e0]
  refine G_istore_n dX8_perform_18 (Nat.le_of_ble_eq_true rfl) ?_
  refine G_aload_n dX8_perform_19 rfl ?_
  refine gf_X8_19 dX8_perform_20  ?_
  refine G_iload_n dX8_perform_23 rfl ?_
  refine G_iconst (v := 1) dX8_perform_24 (by decide) ?_
  refine cv_X8_128 (cs' := 0) (ss' := 0) dX8_perform_25  (Nat.le_of_ble_eq_true rfl) (Nat.le_of_ble_eq_true rfl) (Nat.le_of_ble_eq_true rfl) rfl rfl (Nat.le_of_ble_eq_true rfl) (Nat.le_of_ble_eq_true rfl) rfl ?_
  refine s_X4_argument (t := 1) hS hi (by decide) (hGo_i ?_)
  rw [e1]
  refine G_istore dX8_perform_28 (Nat.le_of_ble_eq_true rfl) ?_
  refine G_aload_n dX8_perform_30 rfl ?_
  refine gf_X8_19 dX8_perform_31  ?_
  refine G_iload_n dX8_perform_34 rfl ?_
  refine G_iconst (v := 2) dX8_perform_35 (by decide) ?_
  refine cv_X8_128 (cs' := 0) (ss' := 0) dX8_perform_36  (Nat.le_of_ble_eq_true rfl) (Nat.le_of_ble_eq_true rfl) (Nat.le_of_ble_eq_true rfl) rfl rfl (Nat.le_of_ble_eq_true rfl) (Nat.le_of_ble_eq_true rfl) rfl ?_
  refine s_X4_argument (t := 2) hS hi (by decide) (hGo_i ?_)
  rw [e2]
  refine G_istore dX8_perform_39 (Nat.le_of_ble_eq_true rfl) ?_
  refine G_aload_n dX8_perform_41 rfl ?_
  refine gf_X8_19 dX8_perform_42  ?_
  refine G_iload_n dX8_perform_45 rfl ?_
  refine G_iconst (v := 3) dX8_perform_46 (by decide) ?_
  refine cv_X8_128 (cs' := 0) (ss' := 0) dX8_perform_47  (Nat.le_of_ble_eq_true rfl) (Nat.le_of_ble_eq_true rfl) (Nat.le_of_ble_eq_true rfl) rfl rfl (Nat.le_of_ble_eq_true rfl) (Nat.le_of_ble_eq_true rfl) rfl ?_
  refine s_X4_argument (t := 3) hS hi (by decide) (hGo_i ?_)
  rw [e3]
  refine G_istore dX8_perform_50 (Nat.le_of_ble_eq_true rfl) ?_
  refine G_iload_n dX8_perform_52 rfl ?_
  refine G_bipush (v := 6) dX8_perform_53 (by decide) ?_
  refine G_icmp_ne (tgt := 64) dX8_perform_55 (by decide) (fun c55 => ?_) (fun c55 => ?_)
  rotate_left
  · exact absurd c55 (by decide)
  refine G_aload_n dX8_perform_64 rfl ?_
  refine gf_X8_26 dX8_perform_65  ?_
  refine G_iload_n dX8_perform_68 rfl ?_
  refine cv_X8_135 (cs' := 0) (ss' := 0) dX8_perform_69 (by decide) (Nat.le_of_ble_eq_true rfl) (Nat.le_of_ble_eq_true rfl) (Nat.le_of_ble_eq_true rfl) rfl rfl (Nat.le_of_ble_eq_true rfl) (Nat.le_of_ble_eq_true rfl) rfl ?_
  refine s_X3_has (by decide) hA (hGo_i ?_)
  by_cases q0 : inP g.A (l.getD 0 0)
  rotate_left
  · rw [if_neg q0]
    rw [if_neg (fun q => q0 q.1)] at h
    refine G_if_ne (tgt := 77) dX8_perform_72 (by decide) (fun c72 => ?_) (fun c72 => ?_)
    · exact absurd rfl c72
    · refine G_iconst (v := (-1)) dX8_perform_75 (by decide) ?_
      refine G_iret dX8_perform_76 rfl rfl (Nat.le_of_ble_eq_true rfl) (Nat.le_of_ble_eq_true rfl) ?_
      exact h M hC Fr.rfl
  rw [if_pos q0]
  refine G_if_ne (tgt := 77) dX8_perform_72 (by decide) (fun c72 => ?_) (fun c72 => ?_)
  rotate_left
  · exact absurd c72 (by decide)
  refine G_iload_n dX8_perform_77 rfl ?_
  refine G_iconst (v := 1) dX8_perform_78 (by decide) ?_
  refine G_icmp_eq (tgt := 92) dX8_perform_79 (by decide) (fun c79 => ?_) (fun c79 => ?_)
  · exact absurd c79 (by decide)
  refine G_iload_n dX8_perform_82 rfl ?_
  refine G_iconst (v := 2) dX8_perform_83 (by decide) ?_
  refine G_icmp_eq (tgt := 92) dX8_perform_84 (by decide) (fun c84 => ?_) (fun c84 => ?_)
  · exact absurd c84 (by decide)
  refine G_iload_n dX8_perform_87 rfl ?_
  refine G_iconst (v := 3) dX8_perform_88 (by decide) ?_
  refine G_icmp_ne (tgt := 106) dX8_perform_89 (by decide) (fun c89 => ?_) (fun c89 => ?_)
  · exact absurd rfl c89
  refine G_aload_n dX8_perform_92 rfl ?_
  refine gf_X8_26 dX8_perform_93  ?_
  refine G_iload dX8_perform_96 rfl ?_
  refine cv_X8_135 (cs' := 0) (ss' := 0) dX8_perform_98 (by decide) (Nat.le_of_ble_eq_true rfl) (Nat.le_of_ble_eq_true rfl) (Nat.le_of_ble_eq_true rfl) rfl rfl (Nat.le_of_ble_eq_true rfl) (Nat.le_of_ble_eq_true rfl) rfl ?_
  refine s_X3_has (by decide) hA (hGo_i ?_)
  by_cases q1 : inP g.A (l.getD 1 0)
  rotate_left
  · rw [if_neg q1]
    rw [if_neg (fun q => q1 q.2)] at h
    refine G_if_ne (tgt := 106) dX8_perform_101 (by decide) (fun c101 => ?_) (fun c101 => ?_)
    · exact absurd rfl c101
    · refine G_iconst (v := (-1)) dX8_perform_104 (by decide) ?_
      refine G_iret dX8_perform_105 rfl rfl (Nat.le_of_ble_eq_true rfl) (Nat.le_of_ble_eq_true rfl) ?_
      exact h M hC Fr.rfl
  rw [if_pos q1]
  refine G_if_ne (tgt := 106) dX8_perform_101 (by decide) (fun c101 => ?_) (fun c101 => ?_)
  rotate_left
  · exact absurd c101 (by decide)
  rw [if_pos ⟨q0, q1⟩] at h
  obtain ⟨a0, hp0, x0, y0⟩ := in_ix q0 (by omega)
  rw [y0] at h
  rw [x0]
  obtain ⟨a1, hp1, x1, y1⟩ := in_ix q1 (by omega)
  rw [y1] at h
  rw [x1]
  obtain ⟨a2, l2, h2, x2, y2⟩ := inR_ix (i := 0) (k := 1) (by decide) (by decide) r2
  rw [y2] at h
  rw [x2]
  obtain ⟨a3, l3, h3, x3, y3⟩ := inR_ix (i := 1) (k := 20) (by decide) (by decide) r3
  rw [y3] at h
  rw [x3]
  refine G_iload_n dX8_perform_106 rfl ?_
  refine G_tIn (off := 71) (tgt := 178) dX8_perform_107 (by decide) (by decide) rfl (by decide) ?_
  refine G_aload_n dX8_perform_178 rfl ?_
  refine G_iload_n dX8_perform_179 rfl ?_
  refine G_iload dX8_perform_180 rfl ?_
  refine G_iload dX8_perform_182 rfl ?_
  refine G_iload dX8_perform_184 rfl ?_
  refine cv_X8_150 (cs' := 0) (ss' := 0) dX8_perform_186  (Nat.le_of_ble_eq_true rfl) (Nat.le_of_ble_eq_true rfl) (Nat.le_of_ble_eq_true rfl) rfl rfl (Nat.le_of_ble_eq_true rfl) (Nat.le_of_ble_eq_true rfl) rfl ?_
  refine s_X8_doPay hC hO hp0 hp1 (by omega) l3 h3 (fun M1 g1 f1 => hGo_i ?_)
  refine G_iret dX8_perform_189 rfl rfl (Nat.le_of_ble_eq_true rfl) (Nat.le_of_ble_eq_true rfl) ?_
  exact h M1 g1 f1
theorem s_X8_perf4 {Cs : List Cmd} {i : Nat} {l : List Int32} (hC : CG M g) (hO : Okg g) (hS : Scr M Cs) (hi : i < Cs.length) (hcc : cg Cs i = (4, l)) (hl : argsOk (vK 4) l) (h : ∀ M', CG M' (sPerfV g 4 (l.getD 0 0) (l.getD 1 0) (l.getD 2 0) (l.getD 3 0)).1 → Fr dAc M M' → P (.inl (some (.int (sPerfV g 4 (l.getD 0 0) (l.getD 1 0) (l.getD 2 0) (l.getD 3 0)).2))) M') : Sp E yX8_perform cX8_perform zX8_perform [.ref (ad E 0 0 0), .int (nI i)] M P := by
  have hA := hC.1
  have h12 := hA.n12
  have hv := (hS.2.2 i hi).1.2.1
  have hargs := (hS.2.2 i hi).2
  rw [hcc] at hargs
  obtain ⟨r0, r1, r2, hlen⟩ := args_a4 hl
  rw [sPerfV_4] at h
  have ev : (cg Cs i).1 = 4 := by rw [hcc]
  have e0 : M.1 6 0 0 (4 * i + 0) = l.getD 0 0 := hargs 0 (by show 0 < l.length; omega)
  have e1 : M.1 6 0 0 (4 * i + 1) = l.getD 1 0 := hargs 1 (by show 1 < l.length; omega)
  have e2 : M.1 6 0 0 (4 * i + 2) = l.getD 2 0 := hargs 2 (by show 2 < l.length; omega)
  refine Sp_of (own := RX8) (by decide) rfl rfl (Nat.le_of_ble_eq_true rfl) (fun C => ?_)
  refine G_aload_n dX8_perform_0 rfl ?_
  refine gf_X8_19 dX8_perform_1  ?_
  refine G_iload_n dX8_perform_4 rfl ?_
  refine cv_X8_125 (cs' := 0) (ss' := 0) dX8_perform_5  (Nat.le_of_ble_eq_true rfl) (Nat.le_of_ble_eq_true rfl) (Nat.le_of_ble_eq_true rfl) rfl rfl (Nat.le_of_ble_eq_true rfl) (Nat.le_of_ble_eq_true rfl) rfl ?_
  refine s_X4_verb hS hi (hGo_i ?_)
  rw [ev]
  refine G_istore_n dX8_perform_8 (Nat.le_of_ble_eq_true rfl) ?_
  refine G_aload_n dX8_perform_9 rfl ?_
  refine gf_X8_19 dX8_perform_10  ?_
  refine G_iload_n dX8_perform_13 rfl ?_
  refine G_iconst (v := 0) dX8_perform_14 (by decide) ?_
  refine cv_X8_128 (cs' := 0) (ss' := 0) dX8_perform_15  (Nat.le_of_ble_eq_true rfl) (Nat.le_of_ble_eq_true rfl) (Nat.le_of_ble_eq_true rfl) rfl rfl (Nat.le_of_ble_eq_true rfl) (Nat.le_of_ble_eq_true rfl) rfl ?_
  refine s_X4_argument (t := 0) hS hi (by decide) (hGo_i ?_)
  rw [e0]
  refine G_istore_n dX8_perform_18 (Nat.le_of_ble_eq_true rfl) ?_
  refine G_aload_n dX8_perform_19 rfl ?_
  refine gf_X8_19 dX8_perform_20  ?_
  refine G_iload_n dX8_perform_23 rfl ?_
  refine G_iconst (v := 1) dX8_perform_24 (by decide) ?_
  refine cv_X8_128 (cs' := 0) (ss' := 0) dX8_perform_25  (Nat.le_of_ble_eq_true rfl) (Nat.le_of_ble_eq_true rfl) (Nat.le_of_ble_eq_true rfl) rfl rfl (Nat.le_of_ble_eq_true rfl) (Nat.le_of_ble_eq_true rfl) rfl ?_
  refine s_X4_argument (t := 1) hS hi (by decide) (hGo_i ?_)
  rw [e1]
  refine G_istore dX8_perform_28 (Nat.le_of_ble_eq_true rfl) ?_
  refine G_aload_n dX8_perform_30 rfl ?_
  refine gf_X8_19 dX8_perform_31  ?_
  refine G_iload_n dX8_perform_34 rfl ?_
  refine G_iconst (v := 2) dX8_perform_35 (by decide) ?_
  refine cv_X8_128 (cs' := 0) (ss' := 0) dX8_perform_36  (Nat.le_of_ble_eq_true rfl) (Nat.le_of_ble_eq_true rfl) (Nat.le_of_ble_eq_true rfl) rfl rfl (Nat.le_of_ble_eq_true rfl) (Nat.le_of_ble_eq_true rfl) rfl ?_
  refine s_X4_argument (t := 2) hS hi (by decide) (hGo_i ?_)
  rw [e2]
  refine G_istore dX8_perform_39 (Nat.le_of_ble_eq_true rfl) ?_
  refine G_aload_n dX8_perform_41 rfl ?_
  refine gf_X8_19 dX8_perform_42  ?_
  refine G_iload_n dX8_perform_45 rfl ?_
  refine G_iconst (v := 3) dX8_perform_46 (by decide) ?_
  refine cv_X8_128 (cs' := 0) (ss' := 0) dX8_perform_47  (Nat.le_of_ble_eq_true rfl) (Nat.le_of_ble_eq_true rfl) (Nat.le_of_ble_eq_true rfl) rfl rfl (Nat.le_of_ble_eq_true rfl) (Nat.le_of_ble_eq_true rfl) rfl ?_
  refine s_X4_argument (t := 3) hS hi (by decide) (hGo_i ?_)
  refine G_istore dX8_perform_50 (Nat.le_of_ble_eq_true rfl) ?_
  refine G_iload_n dX8_perform_52 rfl ?_
  refine G_bipush (v := 6) dX8_perform_53 (by decide) ?_
  refine G_icmp_ne (tgt := 64) dX8_perform_55 (by decide) (fun c55 => ?_) (fun c55 => ?_)
  rotate_left
  · exact absurd c55 (by decide)
  refine G_aload_n dX8_perform_64 rfl ?_
  refine gf_X8_26 dX8_perform_65  ?_
  refine G_iload_n dX8_perform_68 rfl ?_
  refine cv_X8_135 (cs' := 0) (ss' := 0) dX8_perform_69 (by decide) (Nat.le_of_ble_eq_true rfl) (Nat.le_of_ble_eq_true rfl) (Nat.le_of_ble_eq_true rfl) rfl rfl (Nat.le_of_ble_eq_true rfl) (Nat.le_of_ble_eq_true rfl) rfl ?_
  refine s_X3_has (by decide) hA (hGo_i ?_)
  by_cases q0 : inP g.A (l.getD 0 0)
  rotate_left
  · rw [if_neg q0]
    rw [if_neg q0] at h
    refine G_if_ne (tgt := 77) dX8_perform_72 (by decide) (fun c72 => ?_) (fun c72 => ?_)
    · exact absurd rfl c72
    · refine G_iconst (v := (-1)) dX8_perform_75 (by decide) ?_
      refine G_iret dX8_perform_76 rfl rfl (Nat.le_of_ble_eq_true rfl) (Nat.le_of_ble_eq_true rfl) ?_
      exact h M hC Fr.rfl
  rw [if_pos q0]
  refine G_if_ne (tgt := 77) dX8_perform_72 (by decide) (fun c72 => ?_) (fun c72 => ?_)
  rotate_left
  · exact absurd c72 (by decide)
  refine G_iload_n dX8_perform_77 rfl ?_
  refine G_iconst (v := 1) dX8_perform_78 (by decide) ?_
  refine G_icmp_eq (tgt := 92) dX8_perform_79 (by decide) (fun c79 => ?_) (fun c79 => ?_)
  · exact absurd c79 (by decide)
  refine G_iload_n dX8_perform_82 rfl ?_
  refine G_iconst (v := 2) dX8_perform_83 (by decide) ?_
  refine G_icmp_eq (tgt := 92) dX8_perform_84 (by decide) (fun c84 => ?_) (fun c84 => ?_)
  · exact absurd c84 (by decide)
  refine G_iload_n dX8_perform_87 rfl ?_
  refine G_iconst (v := 3) dX8_perform_88 (by decide) ?_
  refine G_icmp_ne (tgt := 106) dX8_perform_89 (by decide) (fun c89 => ?_) (fun c89 => ?_)
  rotate_left
  · exact absurd c89 (by decide)
  rw [if_pos q0] at h
  obtain ⟨a0, hp0, x0, y0⟩ := in_ix q0 (by omega)
  rw [y0] at h
  rw [x0]
  refine G_iload_n dX8_perform_106 rfl ?_
  refine G_tIn (off := 83) (tgt := 190) dX8_perform_107 (by decide) (by decide) rfl (by decide) ?_
  refine G_aload_n dX8_perform_190 rfl ?_
  refine G_iload_n dX8_perform_191 rfl ?_
  refine G_iload dX8_perform_192 rfl ?_
  refine G_iload dX8_perform_194 rfl ?_
  refine cv_X8_153 (cs' := 0) (ss' := 0) dX8_perform_196  (Nat.le_of_ble_eq_true rfl) (Nat.le_of_ble_eq_true rfl) (Nat.le_of_ble_eq_true rfl) rfl rfl (Nat.le_of_ble_eq_true rfl) (Nat.le_of_ble_eq_true rfl) rfl ?_
  refine s_X8_doMove hC hO hp0 (fun M1 g1 f1 => hGo_i ?_)
  refine G_iret dX8_perform_199 rfl rfl (Nat.le_of_ble_eq_true rfl) (Nat.le_of_ble_eq_true rfl) ?_
  exact h M1 g1 f1
theorem s_X8_perf5 {Cs : List Cmd} {i : Nat} {l : List Int32} (hC : CG M g) (hO : Okg g) (hS : Scr M Cs) (hi : i < Cs.length) (hcc : cg Cs i = (5, l)) (hl : argsOk (vK 5) l) (h : ∀ M', CG M' (sPerfV g 5 (l.getD 0 0) (l.getD 1 0) (l.getD 2 0) (l.getD 3 0)).1 → Fr dAc M M' → P (.inl (some (.int (sPerfV g 5 (l.getD 0 0) (l.getD 1 0) (l.getD 2 0) (l.getD 3 0)).2))) M') : Sp E yX8_perform cX8_perform zX8_perform [.ref (ad E 0 0 0), .int (nI i)] M P := by
  have hA := hC.1
  have h12 := hA.n12
  have hv := (hS.2.2 i hi).1.2.1
  have hargs := (hS.2.2 i hi).2
  rw [hcc] at hargs
  obtain ⟨r0, hlen⟩ := args_a5 hl
  rw [sPerfV_5] at h
  have ev : (cg Cs i).1 = 5 := by rw [hcc]
  have e0 : M.1 6 0 0 (4 * i + 0) = l.getD 0 0 := hargs 0 (by show 0 < l.length; omega)
  refine Sp_of (own := RX8) (by decide) rfl rfl (Nat.le_of_ble_eq_true rfl) (fun C => ?_)
  refine G_aload_n dX8_perform_0 rfl ?_
  refine gf_X8_19 dX8_perform_1  ?_
  refine G_iload_n dX8_perform_4 rfl ?_
  refine cv_X8_125 (cs' := 0) (ss' := 0) dX8_perform_5  (Nat.le_of_ble_eq_true rfl) (Nat.le_of_ble_eq_true rfl) (Nat.le_of_ble_eq_true rfl) rfl rfl (Nat.le_of_ble_eq_true rfl) (Nat.le_of_ble_eq_true rfl) rfl ?_
  refine s_X4_verb hS hi (hGo_i ?_)
  rw [ev]
  refine G_istore_n dX8_perform_8 (Nat.le_of_ble_eq_true rfl) ?_
  refine G_aload_n dX8_perform_9 rfl ?_
  refine gf_X8_19 dX8_perform_10  ?_
  refine G_iload_n dX8_perform_13 rfl ?_
  refine G_iconst (v := 0) dX8_perform_14 (by decide) ?_
  refine cv_X8_128 (cs' := 0) (ss' := 0) dX8_perform_15  (Nat.le_of_ble_eq_true rfl) (Nat.le_of_ble_eq_true rfl) (Nat.le_of_ble_eq_true rfl) rfl rfl (Nat.le_of_ble_eq_true rfl) (Nat.le_of_ble_eq_true rfl) rfl ?_
  refine s_X4_argument (t := 0) hS hi (by decide) (hGo_i ?_)
  rw [e0]
  refine G_istore_n dX8_perform_18 (Nat.le_of_ble_eq_true rfl) ?_
  refine G_aload_n dX8_perform_19 rfl ?_
  refine gf_X8_19 dX8_perform_20  ?_
  refine G_iload_n dX8_perform_23 rfl ?_
  refine G_iconst (v := 1) dX8_perform_24 (by decide) ?_
  refine cv_X8_128 (cs' := 0) (ss' := 0) dX8_perform_25  (Nat.le_of_ble_eq_true rfl) (Nat.le_of_ble_eq_true rfl) (Nat.le_of_ble_eq_true rfl) rfl rfl (Nat.le_of_ble_eq_true rfl) (Nat.le_of_ble_eq_true rfl) rfl ?_
  refine s_X4_argument (t := 1) hS hi (by decide) (hGo_i ?_)
  refine G_istore dX8_perform_28 (Nat.le_of_ble_eq_true rfl) ?_
  refine G_aload_n dX8_perform_30 rfl ?_
  refine gf_X8_19 dX8_perform_31  ?_
  refine G_iload_n dX8_perform_34 rfl ?_
  refine G_iconst (v := 2) dX8_perform_35 (by decide) ?_
  refine cv_X8_128 (cs' := 0) (ss' := 0) dX8_perform_36  (Nat.le_of_ble_eq_true rfl) (Nat.le_of_ble_eq_true rfl) (Nat.le_of_ble_eq_true rfl) rfl rfl (Nat.le_of_ble_eq_true rfl) (Nat.le_of_ble_eq_true rfl) rfl ?_
  refine s_X4_argument (t := 2) hS hi (by decide) (hGo_i ?_)
  refine G_istore dX8_perform_39 (Nat.le_of_ble_eq_true rfl) ?_
  refine G_aload_n dX8_perform_41 rfl ?_
  refine gf_X8_19 dX8_perform_42  ?_
  refine G_iload_n dX8_perform_45 rfl ?_
  refine G_iconst (v := 3) dX8_perform_46 (by decide) ?_
  refine cv_X8_128 (cs' := 0) (ss' := 0) dX8_perform_47  (Nat.le_of_ble_eq_true rfl) (Nat.le_of_ble_eq_true rfl) (Nat.le_of_ble_eq_true rfl) rfl rfl (Nat.le_of_ble_eq_true rfl) (Nat.le_of_ble_eq_true rfl) rfl ?_
  refine s_X4_argument (t := 3) hS hi (by decide) (hGo_i ?_)
  refine G_istore dX8_perform_50 (Nat.le_of_ble_eq_true rfl) ?_
  refine G_iload_n dX8_perform_52 rfl ?_
  refine G_bipush (v := 6) dX8_perform_53 (by decide) ?_
  refine G_icmp_ne (tgt := 64) dX8_perform_55 (by decide) (fun c55 => ?_) (fun c55 => ?_)
  rotate_left
  · exact absurd c55 (by decide)
  refine G_aload_n dX8_perform_64 rfl ?_
  refine gf_X8_26 dX8_perform_65  ?_
  refine G_iload_n dX8_perform_68 rfl ?_
  refine cv_X8_135 (cs' := 0) (ss' := 0) dX8_perform_69 (by decide) (Nat.le_of_ble_eq_true rfl) (Nat.le_of_ble_eq_true rfl) (Nat.le_of_ble_eq_true rfl) rfl rfl (Nat.le_of_ble_eq_true rfl) (Nat.le_of_ble_eq_true rfl) rfl ?_
  refine s_X3_has (by decide) hA (hGo_i ?_)
  by_cases q0 : inP g.A (l.getD 0 0)
  rotate_left
  · rw [if_neg q0]
    rw [if_neg q0] at h
    refine G_if_ne (tgt := 77) dX8_perform_72 (by decide) (fun c72 => ?_) (fun c72 => ?_)
    · exact absurd rfl c72
    · refine G_iconst (v := (-1)) dX8_perform_75 (by decide) ?_
      refine G_iret dX8_perform_76 rfl rfl (Nat.le_of_ble_eq_true rfl) (Nat.le_of_ble_eq_true rfl) ?_
      exact h M hC Fr.rfl
  rw [if_pos q0]
  refine G_if_ne (tgt := 77) dX8_perform_72 (by decide) (fun c72 => ?_) (fun c72 => ?_)
  rotate_left
  · exact absurd c72 (by decide)
  refine G_iload_n dX8_perform_77 rfl ?_
  refine G_iconst (v := 1) dX8_perform_78 (by decide) ?_
  refine G_icmp_eq (tgt := 92) dX8_perform_79 (by decide) (fun c79 => ?_) (fun c79 => ?_)
  · exact absurd c79 (by decide)
  refine G_iload_n dX8_perform_82 rfl ?_
  refine G_iconst (v := 2) dX8_perform_83 (by decide) ?_
  refine G_icmp_eq (tgt := 92) dX8_perform_84 (by decide) (fun c84 => ?_) (fun c84 => ?_)
  · exact absurd c84 (by decide)
  refine G_iload_n dX8_perform_87 rfl ?_
  refine G_iconst (v := 3) dX8_perform_88 (by decide) ?_
  refine G_icmp_ne (tgt := 106) dX8_perform_89 (by decide) (fun c89 => ?_) (fun c89 => ?_)
  rotate_left
  · exact absurd c89 (by decide)
  rw [if_pos q0] at h
  obtain ⟨a0, hp0, x0, y0⟩ := in_ix q0 (by omega)
  rw [y0] at h
  rw [x0]
  refine G_iload_n dX8_perform_106 rfl ?_
  refine G_tIn (off := 93) (tgt := 200) dX8_perform_107 (by decide) (by decide) rfl (by decide) ?_
  refine G_aload_n dX8_perform_200 rfl ?_
  refine G_iload_n dX8_perform_201 rfl ?_
  refine cv_X8_156 (cs' := 0) (ss' := 0) dX8_perform_202  (Nat.le_of_ble_eq_true rfl) (Nat.le_of_ble_eq_true rfl) (Nat.le_of_ble_eq_true rfl) rfl rfl (Nat.le_of_ble_eq_true rfl) (Nat.le_of_ble_eq_true rfl) rfl ?_
  refine s_X8_doConfess hC hO hp0 (fun M1 g1 f1 => hGo_i ?_)
  refine G_iret dX8_perform_205 rfl rfl (Nat.le_of_ble_eq_true rfl) (Nat.le_of_ble_eq_true rfl) ?_
  exact h M1 g1 f1
theorem s_X8_perf6 {Cs : List Cmd} {i : Nat} {l : List Int32} (hC : CG M g) (hO : Okg g) (hS : Scr M Cs) (hi : i < Cs.length) (hcc : cg Cs i = (6, l)) (hl : argsOk (vK 6) l) (h : ∀ M', CG M' (sPerfV g 6 (l.getD 0 0) (l.getD 1 0) (l.getD 2 0) (l.getD 3 0)).1 → Fr dAc M M' → P (.inl (some (.int (sPerfV g 6 (l.getD 0 0) (l.getD 1 0) (l.getD 2 0) (l.getD 3 0)).2))) M') : Sp E yX8_perform cX8_perform zX8_perform [.ref (ad E 0 0 0), .int (nI i)] M P := by
  have hA := hC.1
  have h12 := hA.n12
  have hv := (hS.2.2 i hi).1.2.1
  have hargs := (hS.2.2 i hi).2
  rw [hcc] at hargs
  obtain ⟨r0, hlen⟩ := args_a6 hl
  rw [sPerfV_6] at h
  have ev : (cg Cs i).1 = 6 := by rw [hcc]
  have e0 : M.1 6 0 0 (4 * i + 0) = l.getD 0 0 := hargs 0 (by show 0 < l.length; omega)
  refine Sp_of (own := RX8) (by decide) rfl rfl (Nat.le_of_ble_eq_true rfl) (fun C => ?_)
  refine G_aload_n dX8_perform_0 rfl ?_
  refine gf_X8_19 dX8_perform_1  ?_
  refine G_iload_n dX8_perform_4 rfl ?_
  refine cv_X8_125 (cs' := 0) (ss' := 0) dX8_perform_5  (Nat.le_of_ble_eq_true rfl) (Nat.le_of_ble_eq_true rfl) (Nat.le_of_ble_eq_true rfl) rfl rfl (Nat.le_of_ble_eq_true rfl) (Nat.le_of_ble_eq_true rfl) rfl ?_
  refine s_X4_verb hS hi (hGo_i ?_)
  rw [ev]
  refine G_istore_n dX8_perform_8 (Nat.le_of_ble_eq_true rfl) ?_
  refine G_aload_n dX8_perform_9 rfl ?_
  refine gf_X8_19 dX8_perform_10  ?_
  refine G_iload_n dX8_perform_13 rfl ?_
  refine G_iconst (v := 0) dX8_perform_14 (by decide) ?_
  refine cv_X8_128 (cs' := 0) (ss' := 0) dX8_perform_15  (Nat.le_of_ble_eq_true rfl) (Nat.le_of_ble_eq_true rfl) (Nat.le_of_ble_eq_true rfl) rfl rfl (Nat.le_of_ble_eq_true rfl) (Nat.le_of_ble_eq_true rfl) rfl ?_
  refine s_X4_argument (t := 0) hS hi (by decide) (hGo_i ?_)
  rw [e0]
  refine G_istore_n dX8_perform_18 (Nat.le_of_ble_eq_true rfl) ?_
  refine G_aload_n dX8_perform_19 rfl ?_
  refine gf_X8_19 dX8_perform_20  ?_
  refine G_iload_n dX8_perform_23 rfl ?_
  refine G_iconst (v := 1) dX8_perform_24 (by decide) ?_
  refine cv_X8_128 (cs' := 0) (ss' := 0) dX8_perform_25  (Nat.le_of_ble_eq_true rfl) (Nat.le_of_ble_eq_true rfl) (Nat.le_of_ble_eq_true rfl) rfl rfl (Nat.le_of_ble_eq_true rfl) (Nat.le_of_ble_eq_true rfl) rfl ?_
  refine s_X4_argument (t := 1) hS hi (by decide) (hGo_i ?_)
  refine G_istore dX8_perform_28 (Nat.le_of_ble_eq_true rfl) ?_
  refine G_aload_n dX8_perform_30 rfl ?_
  refine gf_X8_19 dX8_perform_31  ?_
  refine G_iload_n dX8_perform_34 rfl ?_
  refine G_iconst (v := 2) dX8_perform_35 (by decide) ?_
  refine cv_X8_128 (cs' := 0) (ss' := 0) dX8_perform_36  (Nat.le_of_ble_eq_true rfl) (Nat.le_of_ble_eq_true rfl) (Nat.le_of_ble_eq_true rfl) rfl rfl (Nat.le_of_ble_eq_true rfl) (Nat.le_of_ble_eq_true rfl) rfl ?_
  refine s_X4_argument (t := 2) hS hi (by decide) (hGo_i ?_)
  refine G_istore dX8_perform_39 (Nat.le_of_ble_eq_true rfl) ?_
  refine G_aload_n dX8_perform_41 rfl ?_
  refine gf_X8_19 dX8_perform_42  ?_
  refine G_iload_n dX8_perform_45 rfl ?_
  refine G_iconst (v := 3) dX8_perform_46 (by decide) ?_
  refine cv_X8_128 (cs' := 0) (ss' := 0) dX8_perform_47  (Nat.le_of_ble_eq_true rfl) (Nat.le_of_ble_eq_true rfl) (Nat.le_of_ble_eq_true rfl) rfl rfl (Nat.le_of_ble_eq_true rfl) (Nat.le_of_ble_eq_true rfl) rfl ?_
  refine s_X4_argument (t := 3) hS hi (by decide) (hGo_i ?_)
  refine G_istore dX8_perform_50 (Nat.le_of_ble_eq_true rfl) ?_
  refine G_iload_n dX8_perform_52 rfl ?_
  refine G_bipush (v := 6) dX8_perform_53 (by decide) ?_
  refine G_icmp_ne (tgt := 64) dX8_perform_55 (by decide) (fun c55 => ?_) (fun c55 => ?_)
  · exact absurd rfl c55
  · obtain ⟨k, k1, k2, ek, et⟩ := inR_ix (i := 1) (k := 10) (by decide) (by decide) r0
    rw [et] at h
    rw [ek]
    refine G_aload_n dX8_perform_58 rfl ?_
    refine G_iload_n dX8_perform_59 rfl ?_
    refine cv_X8_132 (cs' := 0) (ss' := 0) dX8_perform_60  (Nat.le_of_ble_eq_true rfl) (Nat.le_of_ble_eq_true rfl) (Nat.le_of_ble_eq_true rfl) rfl rfl (Nat.le_of_ble_eq_true rfl) (Nat.le_of_ble_eq_true rfl) rfl ?_
    refine s_X8_doPass hC hO k2 (fun M1 g1 f1 => hGo_i ?_)
    refine G_iret dX8_perform_63 rfl rfl (Nat.le_of_ble_eq_true rfl) (Nat.le_of_ble_eq_true rfl) ?_
    exact h M1 g1 f1
theorem s_X8_perform {Cs : List Cmd} {i : Nat} (hC : CG M g) (hO : Okg g) (hS : Scr M Cs) (hi : i < Cs.length) (hc : cOk (cg Cs i)) (h : ∀ M', CG M' (sPerf g (cg Cs i)).1 → Fr dAc M M' → P (.inl (some (.int (sPerf g (cg Cs i)).2))) M') : Sp E yX8_perform cX8_perform zX8_perform [.ref (ad E 0 0 0), .int (nI i)] M P := by
  obtain ⟨hv, hl⟩ := hc
  unfold sPerf cA at h
  generalize hcc : cg Cs i = c at *
  obtain ⟨v, l⟩ := c
  dsimp only at hv hl h
  rcases (show v = 0 ∨ v = 1 ∨ v = 2 ∨ v = 3 ∨ v = 4 ∨ v = 5 ∨ v = 6 by omega) with rfl | rfl | rfl | rfl | rfl | rfl | rfl
  · exact s_X8_perf0 hC hO hS hi hcc hl h
  · exact s_X8_perf1 hC hO hS hi hcc hl h
  · exact s_X8_perf2 hC hO hS hi hcc hl h
  · exact s_X8_perf3 hC hO hS hi hcc hl h
  · exact s_X8_perf4 hC hO hS hi hcc hl h
  · exact s_X8_perf5 hC hO hS hi hcc hl h
  · exact s_X8_perf6 hC hO hS hi hcc hl h
theorem sPerf_ok {c : Cmd} (hO : Okg g) (hc : cOk c) : Okg (sPerf g c).1 := by
  obtain ⟨v, l⟩ := c
  obtain ⟨hv, hl⟩ := hc
  dsimp only at hv hl
  have h12 := hO.1.1.2
  unfold sPerf cA
  dsimp only
  rcases (show v = 0 ∨ v = 1 ∨ v = 2 ∨ v = 3 ∨ v = 4 ∨ v = 5 ∨ v = 6 by omega) with rfl | rfl | rfl | rfl | rfl | rfl | rfl
  · obtain ⟨r0, r1, r2, hlen⟩ := args_a0 hl
    rw [sPerfV_0]
    split
    · rename_i q
      obtain ⟨a0, hp0, x0, y0⟩ := in_ix q (by omega)
      rw [y0]
      obtain ⟨a1, l1, h1, x1, y1⟩ := inR_ix (i := 0) (k := 1) (by decide) (by decide) r1
      rw [y1]
      obtain ⟨a2, l2, h2, x2, y2⟩ := inR_ix (i := 1) (k := 20) (by decide) (by decide) r2
      rw [y2]
      exact sWork_ok hO hp0 (by omega) h2
    · exact hO
  · obtain ⟨r0, r1, r2, r3, hlen⟩ := args_a1 hl
    rw [sPerfV_1]
    split
    · rename_i q
      obtain ⟨a0, hp0, x0, y0⟩ := in_ix q.1 (by omega)
      rw [y0]
      obtain ⟨a1, hp1, x1, y1⟩ := in_ix q.2 (by omega)
      rw [y1]
      obtain ⟨a2, l2, h2, x2, y2⟩ := inR_ix (i := 0) (k := 20) (by decide) (by decide) r2
      rw [y2]
      obtain ⟨a3, l3, h3, x3, y3⟩ := inR_ix (i := 0) (k := 20) (by decide) (by decide) r3
      rw [y3]
      exact sSwap_ok hO hp0 hp1 h2 h3
    · exact hO
  · obtain ⟨r0, r1, r2, r3, hlen⟩ := args_a2 hl
    rw [sPerfV_2]
    split
    · rename_i q
      obtain ⟨a0, hp0, x0, y0⟩ := in_ix q.1 (by omega)
      rw [y0]
      obtain ⟨a1, hp1, x1, y1⟩ := in_ix q.2 (by omega)
      rw [y1]
      obtain ⟨a2, l2, h2, x2, y2⟩ := inR_ix (i := 0) (k := 1) (by decide) (by decide) r2
      rw [y2]
      obtain ⟨a3, l3, h3, x3, y3⟩ := inR_ix (i := 1) (k := 20) (by decide) (by decide) r3
      rw [y3]
      exact sLend_ok hO hp0 hp1 (by omega) l3 h3
    · exact hO
  · obtain ⟨r0, r1, r2, r3, hlen⟩ := args_a2 hl
    rw [sPerfV_3]
    split
    · rename_i q
      obtain ⟨a0, hp0, x0, y0⟩ := in_ix q.1 (by omega)
      rw [y0]
      obtain ⟨a1, hp1, x1, y1⟩ := in_ix q.2 (by omega)
      rw [y1]
      obtain ⟨a2, l2, h2, x2, y2⟩ := inR_ix (i := 0) (k := 1) (by decide) (by decide) r2
      rw [y2]
      obtain ⟨a3, l3, h3, x3, y3⟩ := inR_ix (i := 1) (k := 20) (by decide) (by decide) r3
      rw [y3]
      exact sPay_ok hO hp0 hp1 (by omega) l3 h3
    · exact hO
  · obtain ⟨r0, r1, r2, hlen⟩ := args_a4 hl
    rw [sPerfV_4]
    split
    · rename_i q
      obtain ⟨a0, hp0, x0, y0⟩ := in_ix q (by omega)
      rw [y0]
      exact sMove_ok hO
    · exact hO
  · obtain ⟨r0, hlen⟩ := args_a5 hl
    rw [sPerfV_5]
    split
    · rename_i q
      obtain ⟨a0, hp0, x0, y0⟩ := in_ix q (by omega)
      rw [y0]
      exact sConfess_ok hO
    · exact hO
  · obtain ⟨r0, hlen⟩ := args_a6 hl
    rw [sPerfV_6]
    exact sPass_ok hO
/-- commands performed, up to the first that answers below 0 -/
def runC (g : Gs) : List Cmd → Gs × Nat
  | [] => (g, 0)
  | c :: r => if (sPerf g c).2 < 0 then ((sPerf g c).1, 0) else ((runC (sPerf g c).1 r).1, (runC (sPerf g c).1 r).2 + 1)
theorem runC_cons {c : Cmd} {r : List Cmd} : runC g (c :: r) = if (sPerf g c).2 < 0 then ((sPerf g c).1, 0) else ((runC (sPerf g c).1 r).1, (runC (sPerf g c).1 r).2 + 1) := rfl
theorem runC_ok : ∀ {Cs : List Cmd} {g : Gs}, Okg g → (∀ c, c ∈ Cs → cOk c) → Okg (runC g Cs).1
  | [], g, h, _ => h
  | c :: r, g, h, hc => by
    have h1 := sPerf_ok h (hc c List.mem_cons_self)
    unfold runC
    split
    · exact h1
    · exact runC_ok h1 (fun d hd => hc d (List.mem_cons_of_mem _ hd))
def plG (g : Gs) (v : Int32) : Gs := (g.A, g.U, g.S, g.R, [], ((scrV g.L v).1.code, (scrV g.L v).1.pos), g.W)
def sPlay (g : Gs) (v : Int32) : Gs × Int32 := if (scrV g.L v).1.code = 0 then ((runC (plG g v) (scrV g.L v).2).1, nI (runC (plG g v) (scrV g.L v).2).2) else (plG g v, -1)
theorem scr_ok {L : List Int32} {v : Int32} (h : (scrV L v).1.code = 0) : ∀ c, c ∈ (scrV L v).2 → cOk c := rcL_ok (fun _ c hc => by cases hc) h
theorem sPlay_ok {v : Int32} (h : Okg g) : Okg (sPlay g v).1 := by
  unfold sPlay
  split
  · exact runC_ok (g := plG g v) h (scr_ok (by assumption))
  · exact h
theorem cg_drop {Cs : List Cmd} {i : Nat} (hi : i < Cs.length) : Cs.drop i = cg Cs i :: Cs.drop (i + 1) := by
  rw [List.drop_eq_getElem_cons hi]
  unfold cg
  rw [List.getD_eq_getElem?_getD, List.getElem?_eq_getElem hi]
  rfl
theorem s_X8_play (hC : CG M g) (hO : Okg g) (h : ∀ M', CG M' (sPlay g (M.1 1 0 0 4)).1 → Fr dCl M M' → P (.inl (some (.int (sPlay g (M.1 1 0 0 4)).2))) M') : Sp E yX8_play cX8_play zX8_play [.ref (ad E 0 0 0)] M P := by
  unfold sPlay at h
  obtain ⟨tL, e1, e2⟩ := id hC.2.2.2.2.1
  refine Sp_of (own := RX8) (by decide) rfl rfl (Nat.le_of_ble_eq_true rfl) (fun C => ?_)
  refine G_aload_n dX8_play_0 rfl ?_
  refine gf_X8_19 dX8_play_1  ?_
  refine G_aload_n dX8_play_4 rfl ?_
  refine gf_X8_10 dX8_play_5  ?_
  refine cv_X8_111 (cs' := 0) (ss' := 0) dX8_play_8  (Nat.le_of_ble_eq_true rfl) (Nat.le_of_ble_eq_true rfl) (Nat.le_of_ble_eq_true rfl) rfl rfl (Nat.le_of_ble_eq_true rfl) (Nat.le_of_ble_eq_true rfl) rfl ?_
  refine s_X4_read tL (fun M1 t1 s1 f1 => hGo_v ?_)
  have hok := scr_ok (L := g.L) (v := M.1 1 0 0 4)
  have epl : plG g (M.1 1 0 0 4) = (g.A, g.U, g.S, g.R, [], ((scrV g.L (M.1 1 0 0 4)).1.code, (scrV g.L (M.1 1 0 0 4)).1.pos), g.W) := rfl
  generalize plG g (M.1 1 0 0 4) = g0 at h epl
  generalize scrV g.L (M.1 1 0 0 4) = S at h t1 s1 hok epl
  have g1 := hC.read f1 (fun k j p q => by have q' : k = 1 ∨ 4 ≤ k ∧ k ≤ 6 := q; omega) t1 (fun p hp => (f1.at (fun q => by have q' : 12 = 1 ∨ 4 ≤ 12 ∧ 12 ≤ 6 := q; omega) 0).trans (hC.2.2.2.2.2.2 p hp)) (L := g.L)
  refine G_aload_n dX8_play_11 rfl ?_
  refine gf_X8_10 dX8_play_12  ?_
  refine gf_X8_69 dX8_play_15  ?_
  refine G_iconst (v := 0) dX8_play_18 (by decide) ?_
  refine cv_X8_90 (cs' := 0) (ss' := 0) dX8_play_19 (by decide) (Nat.le_of_ble_eq_true rfl) (Nat.le_of_ble_eq_true rfl) (Nat.le_of_ble_eq_true rfl) rfl rfl (Nat.le_of_ble_eq_true rfl) (Nat.le_of_ble_eq_true rfl) rfl ?_
  refine s_X5_cut (n := 0) (by decide) g1.2.2.2.2.1.1 (Nat.zero_le _) (fun M2 t2 f2 => hGo_v ?_)
  have g2 : CG M2 g0 := by
    rw [epl]
    exact g1.txt t2 f2
  have s2 : Scr M2 S.2 := s1.keep (fun k h4 h6 t => f2.at (fun q => by have q' : (k = 2 ∨ k = 3) ∧ 0 = 0 := q; omega) t)
  have fT : Fr dCl M M2 := (f1.mono (fun k j p q => by have q' : k = 1 ∨ 4 ≤ k ∧ k ≤ 6 := q; show k ≤ 19; omega)).trans (f2.mono dX_Cl)
  have o2 : Okg g0 := by
    rw [epl]
    exact hO
  have hec : g0.e.1 = S.1.code := by rw [epl]
  refine G_aload_n dX8_play_22 rfl ?_
  refine gf_X8_10 dX8_play_23  ?_
  refine cv_X8_97 (cs' := 0) (ss' := 0) dX8_play_26  (Nat.le_of_ble_eq_true rfl) (Nat.le_of_ble_eq_true rfl) (Nat.le_of_ble_eq_true rfl) rfl rfl (Nat.le_of_ble_eq_true rfl) (Nat.le_of_ble_eq_true rfl) rfl ?_
  refine s_X6_failed' (g2.2.2.2.2.1.2.1.trans hec) (hGo_i ?_)
  by_cases c : S.1.code = 0
  · rw [if_pos c] at h ⊢
    have hok := hok c
    have h25 := s2.2.1
    refine G_if_eq (tgt := 34) dX8_play_29 (by decide) (fun c29 => ?_) (fun c29 => ?_)
    rotate_left
    · exact absurd rfl c29
    refine G_iconst (v := 0) dX8_play_34 (by decide) ?_
    refine G_istore_n dX8_play_35 (Nat.le_of_ble_eq_true rfl) ?_
    refine G_lv (lv' := [(0, .ref (ad E 0 0 0)), (1, .int (nI 0))]) ⟨rfl, rfl, trivial⟩ ?_
    refine up0 (c := S.2.length) (H := fun i => ∀ M' gi, CG M' gi → Okg gi → Scr M' S.2 → Fr dAc M2 M' → (runC g0 S.2).1 = (runC gi (S.2.drop i)).1 → (runC g0 S.2).2 = (runC gi (S.2.drop i)).2 + i → G E C RX8 cX8_play zX8_play P 0 0 M' 36 [(0, .ref (ad E 0 0 0)), (1, .int (nI i))] []) (fun M3 gi g3 o3 s3 f3 r1 r2 => ?_) (fun i hi ih M3 gi g3 o3 s3 f3 r1 r2 => ?_) M2 g0 g2 o2 s2 Fr.rfl rfl rfl
    · rw [List.drop_length] at r1 r2
      have r1 : (runC g0 S.2).1 = gi := r1
      have r2 : (runC g0 S.2).2 = S.2.length := r2.trans (Nat.zero_add _)
      rw [r1, r2] at h
      refine G_iload_n dX8_play_36 rfl ?_
      refine G_aload_n dX8_play_37 rfl ?_
      refine gf_X8_19 dX8_play_38  ?_
      refine gf_X8_114 dX8_play_41  ?_
      rw [s3.1]
      refine G_icmp_ge (tgt := 61) dX8_play_44 (by decide) (fun c44 => ?_) (fun c44 => ?_)
      · refine G_iload_n dX8_play_61 rfl ?_
        refine G_iret dX8_play_62 rfl rfl (Nat.le_of_ble_eq_true rfl) (Nat.le_of_ble_eq_true rfl) ?_
        exact h M3 g3 (fT.trans (f3.mono dAc_Cl))
      · exact absurd (Int32.le_refl _) c44
    · rw [cg_drop hi, runC_cons] at r1 r2
      refine G_iload_n dX8_play_36 rfl ?_
      refine G_aload_n dX8_play_37 rfl ?_
      refine gf_X8_19 dX8_play_38  ?_
      refine gf_X8_114 dX8_play_41  ?_
      rw [s3.1]
      refine G_icmp_ge (tgt := 61) dX8_play_44 (by decide) (fun c44 => ?_) (fun c44 => ?_)
      · exact absurd c44 (nI_ge hi (by omega))
      · refine G_aload_n dX8_play_47 rfl ?_
        refine G_iload_n dX8_play_48 rfl ?_
        refine cv_X8_115 (cs' := 0) (ss' := 0) dX8_play_49  (Nat.le_of_ble_eq_true rfl) (Nat.le_of_ble_eq_true rfl) (Nat.le_of_ble_eq_true rfl) rfl rfl (Nat.le_of_ble_eq_true rfl) (Nat.le_of_ble_eq_true rfl) rfl ?_
        refine s_X8_perform g3 o3 s3 hi (cOk_get hok hi) (fun M4 g4 f4 => hGo_i ?_)
        refine G_if_lt (tgt := 61) dX8_play_52 (by decide) (fun c52 => ?_) (fun c52 => ?_)
        · rw [if_pos c52] at r1 r2
          dsimp only at r1 r2
          rw [Nat.zero_add] at r2
          rw [r1, r2] at h
          refine G_iload_n dX8_play_61 rfl ?_
          refine G_iret dX8_play_62 rfl rfl (Nat.le_of_ble_eq_true rfl) (Nat.le_of_ble_eq_true rfl) ?_
          exact h M4 g4 (fT.trans ((f3.trans f4).mono dAc_Cl))
        · rw [if_neg c52] at r1 r2
          dsimp only at r1 r2
          refine G_iinc (v := 1) dX8_play_55 rfl (Nat.le_of_ble_eq_true rfl) (by decide) ?_
          refine G_goto (tgt := 36) dX8_play_58 (by decide) ?_
          refine G_lv2 (ih M4 _ g4 (sPerf_ok o3 (cOk_get hok hi)) (s3.frA f4) (f3.trans f4) r1 (by rw [r2]; omega)) ⟨rfl, lvi (nI_1 i), trivial⟩
  · rw [if_neg c] at h ⊢
    refine G_if_eq (tgt := 34) dX8_play_29 (by decide) (fun c29 => ?_) (fun c29 => ?_)
    · exact absurd c29 (by decide)
    · refine G_iconst (v := (-1)) dX8_play_32 (by decide) ?_
      refine G_iret dX8_play_33 rfl rfl (Nat.le_of_ble_eq_true rfl) (Nat.le_of_ble_eq_true rfl) ?_
      exact h M2 g2 fT
end CTXS
