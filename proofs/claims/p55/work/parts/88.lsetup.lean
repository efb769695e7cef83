/-! ===== the law's setup: the text of a drawn school ===== -/
section LSETUP
variable {E : Ed} {C : Cx} {own : String} {b : ByteArray} {z : Zd} {P : Res → Mm → Prop} {cs ss : Nat} {M : Mm} {pc : Nat} {lv : List (Nat × Value)} {st : List Value}
theorem dgs_1 {k : Nat} (h : k < 10) : (dgs k).length = 1 := by
  unfold dgs
  rw [if_pos h]
  rfl
theorem dgs_2 {k : Nat} (h : 10 ≤ k) : (dgs k).length = 2 := by
  unfold dgs
  rw [if_neg (by omega)]
  rfl
def hdT (x y u w : Nat) : List Int32 := hSb2 6 ++ dgs x ++ [nI 32] ++ dgs y ++ [nI 32] ++ dgs u ++ [nI 32] ++ dgs w ++ [nI 59]
/-- a drawn pupil: bench, skills, whether a spy -/
abbrev Pu : Type := Nat × Nat × Nat × Bool
def puT (p : Pu) : List Int32 := hSb2 7 ++ dgs (p.1 / 6) ++ [nI 32] ++ dgs (p.1 % 6) ++ [nI 32] ++ dgs p.2.1 ++ [nI 32] ++ dgs p.2.2.1 ++ (if p.2.2.2 = true then hSb2 8 else hSb2 9)
def alT (hd : List Int32) (ps : List Pu) : List Int32 := hd ++ ps.flatMap puT
theorem alT_add {hd : List Int32} {ps : List Pu} {p : Pu} : alT hd (ps ++ [p]) = alT hd ps ++ puT p := by
  unfold alT
  rw [List.flatMap_append, ← List.append_assoc]
  simp
def puOk (p : Pu) : Prop := p.1 < 36 ∧ (1 ≤ p.2.1 ∧ p.2.1 ≤ 9) ∧ (1 ≤ p.2.2.1 ∧ p.2.2.1 ≤ 9)
def psOk (ps : List Pu) : Prop := (∀ p ∈ ps, puOk p) ∧ (ps.map Prod.fst).Nodup
/-- the benches marked -/
def mark (ps : List Pu) : Nat → Int32 := fun q => if q ∈ ps.map Prod.fst then 1 else 0
theorem mark_nil : mark [] = fun _ => 0 := by
  funext q
  simp [mark]
theorem mark_add {ps : List Pu} {p : Pu} : upd (mark ps) p.1 1 = mark (ps ++ [p]) := by
  funext q
  unfold upd mark
  by_cases h : q = p.1
  · subst h
    rw [if_pos rfl, if_pos (by simp)]
  · rw [if_neg h]
    by_cases h2 : q ∈ ps.map Prod.fst
    · rw [if_pos h2, if_pos (by rw [List.map_append]; exact List.mem_append_left _ h2)]
    · rw [if_neg h2, if_neg]
      intro h3
      rw [List.map_append] at h3
      rcases List.mem_append.mp h3 with h4 | h4
      · exact h2 h4
      · exact h (by simpa using h4)
theorem psOk_add {ps : List Pu} {p : Pu} (h : psOk ps) (hp : puOk p) (hn : p.1 ∉ ps.map Prod.fst) : psOk (ps ++ [p]) := by
  refine ⟨fun q hq => ?_, ?_⟩
  · rcases List.mem_append.mp hq with h1 | h1
    · exact h.1 q h1
    · rw [List.mem_singleton.mp h1]
      exact hp
  · rw [List.map_append, List.nodup_append]
    refine ⟨h.2, by simp, fun x hx y hy => ?_⟩
    rw [show y = p.1 by simpa using hy]
    rintro rfl
    exact hn hx
theorem pig : ∀ (n : Nat) (bs : List Nat), (∀ c, c < n → c ∈ bs) → n ≤ bs.length
  | 0, _, _ => Nat.zero_le _
  | n + 1, bs, h => by
    have h1 := h n (Nat.lt_succ_self n)
    have h2 := pig n (bs.erase n) (fun c hc => (List.mem_erase_of_ne (by omega)).mpr (h c (by omega)))
    rw [List.length_erase_of_mem h1] at h2
    have h3 := List.length_pos_of_mem h1
    omega
theorem walk_all : ∀ q, q < 36 → ∀ c, c < 36 → (q + 7 * ((31 * (c + 36 - q)) % 36)) % 36 = c := by decide +kernel
/-- walking on in sevens, a free bench comes -/
theorem free_in {ps : List Pu} (hl : ps.length < 36) {q : Nat} (hq : q < 36) : ∃ j, mark ps ((q + 7 * j) % 36) = 0 := by
  by_cases h : ∀ c, c < 36 → c ∈ ps.map Prod.fst
  · have := pig 36 _ h
    rw [List.length_map] at this
    omega
  · obtain ⟨c, h1⟩ := Classical.not_forall.mp h
    obtain ⟨hc, h2⟩ := Classical.not_imp.mp h1
    refine ⟨(31 * (c + 36 - q)) % 36, ?_⟩
    rw [walk_all q hq c hc]
    unfold mark
    rw [if_neg h2]
theorem G_nextSB {k m a v n cap : Nat} {f : Nat → Int32} {T : va_W} {y : Int32} (hX : xOk E M.2) (hM : M.2 = sbX E (tC E k :: T) a v n cap f) (hk : k < 2 ^ 30) (hl : E.2.2.2.2 18 ≤ 260) (hm : 0 < m) (hm2 : m < 2 ^ 31) (hy : y = nI m) (d : decode b pc = .ok (.invokevirtual 34, 3)) (hroom : (st.map fun v => v.category).sum ≤ 8) (hfr : 2 ≤ z.2.2.2.1) (hlo : 42 ≤ z.2.2.2.2.1) (hcm : cs ≤ z.2.2.1.1) (hsm : ss ≤ z.2.2.1.2) (hz : z.2.2.2.2.2 = [])
    (g : xOk E (sbX E (tC E (k + 1) :: T) a v n cap f) → ∀ x, x < m → G E C RL b z P cs ss (M.x (sbX E (tC E (k + 1) :: T) a v n cap f)) (pc + 3) lv (.int (nI x) :: st)) : G E C RL b z P cs ss M pc lv (.int y :: .ref (E.1 - 1) :: st) :=
  G_next (Y := sbX E T a v n cap f) hX hM hk hl hm hm2 hy d hroom hfr hlo hcm hsm hz g
theorem G_newSB (hx : xOk E M.2) (d : decode b pc = .ok (.new 27, 3)) (ho : own = RL) {cs' ss' : Nat} (hcs : cs + 1 = cs') (hss : ss + 4 = ss') (hcm : cs' ≤ z.2.2.1.1) (hsm : ss' ≤ z.2.2.1.2) (g : ∀ a : Nat, xOk E (M.2 ++ [(a, .inr (11, [.null, .int 0, .int 0, .int 0]))]) → G E C own b z P cs' ss' (M.x (M.2 ++ [(a, .inr (11, [.null, .int 0, .int 0, .int 0]))])) (pc + 3) lv (.ref a :: st)) : G E C own b z P cs ss M pc lv st := by
  subst ho
  refine G_xnewo (ci := 11) (T := TJ4) (n := 4) (fs := [.null, .int 0, .int 0, .int 0]) (ty := tyJ4) hx d inJ4 rfl tyJ4_ok (hqx 624 (by decide +kernel) rfl) (hqx 625 (by decide +kernel) rfl) (hqx 20 (by decide +kernel) rfl) (fun j hj => ?_) hcs hss hcm hsm g
  rcases (show j = 0 ∨ j = 1 ∨ j = 2 ∨ j = 3 by omega) with rfl | rfl | rfl | rfl <;> rfl
set_option maxHeartbeats 4000000 in
theorem l_setup {k : Nat} (hX : xOk E M.2) (hM : M.2 = [tC E k]) (hk : k < 1000) (hl : E.2.2.2.2 18 ≤ 260)
    (h : ∀ (x y u w : Nat) (ps : List Pu) (k' s v : Nat) (f : Nat → Int32), (10 ≤ x ∧ x ≤ 60) → (1 ≤ y ∧ y ≤ 8) → u ≤ 4 → w ≤ 3 → (2 ≤ ps.length ∧ ps.length ≤ 9) → psOk ps → k' ≤ k + 50 → (alT (hdT x y u w) ps).length ≤ 190 → xOk E (stX E [tC E k'] s v (alT (hdT x y u w) ps).length f) → (∀ i, i < (alT (hdT x y u w) ps).length → f i = (alT (hdT x y u w) ps).getD i 0) → P (.inl (some (.ref s))) (M.x (stX E [tC E k'] s v (alT (hdT x y u w) ps).length f))) : Sp E yL_setup cL_setup zL_setup [.ref (E.1 - 1)] M P := by
  refine Sp_of (own := RL) (by decide) rfl rfl (Nat.le_of_ble_eq_true rfl) (fun C => ?_)
  refine G_newSB (cs' := 1) (ss' := 4) hX dL_setup_0 rfl rfl rfl (Nat.le_of_ble_eq_true rfl) (Nat.le_of_ble_eq_true rfl) (fun a hXa => ?_)
  generalize hc0 : ((a, .inr (11, [.null, .int 0, .int 0, .int 0])) : Nat × va_E) = c0 at hXa ⊢
  refine G_dup dL_setup_3 rfl ?_
  refine G_ldcS 6 dL_setup_4 (by decide) rfl rfl ?_
  refine G_callI (n := 1) (a := a) (y := yJ4_init_a7421) (b' := cJ4_init_a7421) (z' := zJ4_init_a7421) (as := [.ref (sK E 6)]) (rest := [.ref a]) (cs' := 3) (ss' := 1304) dL_setup_6 (hqx 627 (by decide +kernel) rfl) (hqx 20 (by decide +kernel) rfl) (hqx 629 (by decide +kernel) rfl) (hqx 628 (by decide +kernel) rfl) rfl rfl rfl ⟨by decide, by decide, by decide +kernel⟩ rfl rfl (Nat.le_of_ble_eq_true rfl) (Nat.le_of_ble_eq_true rfl) (Nat.le_of_ble_eq_true rfl) rfl rfl (Nat.le_of_ble_eq_true rfl) (Nat.le_of_ble_eq_true rfl) ?_
  refine c_init4 (T := [tC E (k)]) hXa (by show M.2 ++ [c0] = _; rw [hM, hc0]) (i := 6) (by decide) (by decide) (fun v0 cap0 f0 hX0 hR0 => hGo_v ?_)
  obtain ⟨L0, e0⟩ : ∃ Y, Y = hSb2 6 := ⟨_, rfl⟩
  have l0 : L0.length = 7 := by rw [e0]; rfl
  rw [← e0] at hX0 hR0 ⊢
  refine G_st (M' := M.x (sbX E [tC E (k)] a v0 L0.length cap0 f0)) rfl rfl rfl ?_
  refine G_bipush (v := 10) dL_setup_9 (by decide) ?_
  refine G_aload_n dL_setup_11 rfl ?_
  refine G_bipush (v := 51) dL_setup_12 (by decide) ?_
  refine G_nextSB (M := M.x (sbX E [tC E (k)] a v0 L0.length cap0 f0)) (k := k) (m := 51) hX0 rfl (by omega) hl (by decide) (by decide) rfl dL_setup_14 (Nat.le_of_ble_eq_true rfl) (Nat.le_of_ble_eq_true rfl) (Nat.le_of_ble_eq_true rfl) (Nat.le_of_ble_eq_true rfl) (Nat.le_of_ble_eq_true rfl) rfl (fun hX0 x hx => ?_)
  refine G_st (M' := M.x (sbX E [tC E (k + 1)] a v0 L0.length cap0 f0)) rfl rfl rfl ?_
  refine G_iadd dL_setup_17 ?_
  rw [show (10 : Int32) + nI x = nI (10 + x) from nI_add 10 x]
  have q0 : (L0 ++ dgs (10 + x)).length = L0.length + 2 := by rw [List.length_append, dgs_2 (by omega)]
  refine G_callVX (n := 1) (T := TJ4) (N := 4) (y := yJ4_append_bf812) (b' := cJ4_append_bf812) (z' := zJ4_append_bf812) (as := [.int (nI (10 + x))]) (rest := []) (cs' := 4) (ss' := 2504) hX0 (sbX_at0 (M := M.x (sbX E [tC E (k + 1)] a v0 L0.length cap0 f0)) rfl) dL_setup_18 ⟨⟨(hqx 766 (by decide +kernel) rfl), (hqx 20 (by decide +kernel) rfl), (hqx 769 (by decide +kernel) rfl), rfl, by decide, by decide, by decide +kernel⟩, (hqx 767 (by decide +kernel) rfl), (hqx 768 (by decide +kernel) rfl)⟩ rfl rfl rfl (Nat.le_of_ble_eq_true rfl) (Nat.le_of_ble_eq_true rfl) (Nat.le_of_ble_eq_true rfl) rfl rfl (Nat.le_of_ble_eq_true rfl) (Nat.le_of_ble_eq_true rfl) rfl ?_
  refine c_append4I (k := (10 + x)) (M := M.x (sbX E [tC E (k + 1)] a v0 L0.length cap0 f0)) hX0 rfl hR0 (by omega) (by omega) (fun v1 cap1 f1 hX1 hR1 => hGo_a ?_)
  obtain ⟨L1, e1⟩ : ∃ Y, Y = L0 ++ dgs (10 + x) := ⟨_, rfl⟩
  have l1 : L1.length = L0.length + 2 := by rw [e1]; exact q0
  rw [← e1] at hX1 hR1 ⊢
  have q1 : (L1 ++ [nI 32]).length = L1.length + 1 := by rw [List.length_append, show [nI 32].length = 1 from rfl]
  refine G_bipush (v := 32) dL_setup_21 (by decide) ?_
  refine G_callVX (n := 1) (T := TJ4) (N := 4) (y := yJ4_append_cf468) (b' := cJ4_append_cf468) (z' := zJ4_append_cf468) (as := [.int 32]) (rest := []) (cs' := 5) (ss' := 3704) hX1 (sbX_at0 (M := M.x (sbX E [tC E (k + 1)] a v1 L1.length cap1 f1)) rfl) dL_setup_23 ⟨⟨(hqx 791 (by decide +kernel) rfl), (hqx 20 (by decide +kernel) rfl), (hqx 794 (by decide +kernel) rfl), rfl, by decide, by decide, by decide +kernel⟩, (hqx 792 (by decide +kernel) rfl), (hqx 793 (by decide +kernel) rfl)⟩ rfl rfl rfl (Nat.le_of_ble_eq_true rfl) (Nat.le_of_ble_eq_true rfl) (Nat.le_of_ble_eq_true rfl) rfl rfl (Nat.le_of_ble_eq_true rfl) (Nat.le_of_ble_eq_true rfl) rfl ?_
  refine c_append4C (k := 32) (M := M.x (sbX E [tC E (k + 1)] a v1 L1.length cap1 f1)) hX1 rfl hR1 (by decide) (by omega) (fun v2 cap2 f2 hX2 hR2 => hGo_a ?_)
  obtain ⟨L2, e2⟩ : ∃ Y, Y = L1 ++ [nI 32] := ⟨_, rfl⟩
  have l2 : L2.length = L1.length + 1 := by rw [e2]; exact q1
  rw [← e2] at hX2 hR2 ⊢
  refine G_iconst (v := 1) dL_setup_26 (by decide) ?_
  refine G_aload_n dL_setup_27 rfl ?_
  refine G_bipush (v := 8) dL_setup_28 (by decide) ?_
  refine G_nextSB (M := M.x (sbX E [tC E (k + 1)] a v2 L2.length cap2 f2)) (k := k + 1) (m := 8) hX2 rfl (by omega) hl (by decide) (by decide) rfl dL_setup_30 (Nat.le_of_ble_eq_true rfl) (Nat.le_of_ble_eq_true rfl) (Nat.le_of_ble_eq_true rfl) (Nat.le_of_ble_eq_true rfl) (Nat.le_of_ble_eq_true rfl) rfl (fun hX2 y hy => ?_)
  refine G_st (M' := M.x (sbX E [tC E (k + 1 + 1)] a v2 L2.length cap2 f2)) rfl rfl rfl ?_
  refine G_iadd dL_setup_33 ?_
  rw [show (1 : Int32) + nI y = nI (1 + y) from nI_add 1 y]
  have q2 : (L2 ++ dgs (1 + y)).length = L2.length + 1 := by rw [List.length_append, dgs_1 (by omega)]
  refine G_callVX (n := 1) (T := TJ4) (N := 4) (y := yJ4_append_bf812) (b' := cJ4_append_bf812) (z' := zJ4_append_bf812) (as := [.int (nI (1 + y))]) (rest := []) (cs' := 6) (ss' := 4904) hX2 (sbX_at0 (M := M.x (sbX E [tC E (k + 1 + 1)] a v2 L2.length cap2 f2)) rfl) dL_setup_34 ⟨⟨(hqx 766 (by decide +kernel) rfl), (hqx 20 (by decide +kernel) rfl), (hqx 769 (by decide +kernel) rfl), rfl, by decide, by decide, by decide +kernel⟩, (hqx 767 (by decide +kernel) rfl), (hqx 768 (by decide +kernel) rfl)⟩ rfl rfl rfl (Nat.le_of_ble_eq_true rfl) (Nat.le_of_ble_eq_true rfl) (Nat.le_of_ble_eq_true rfl) rfl rfl (Nat.le_of_ble_eq_true rfl) (Nat.le_of_ble_eq_true rfl) rfl ?_
  refine c_append4I (k := (1 + y)) (M := M.x (sbX E [tC E (k + 1 + 1)] a v2 L2.length cap2 f2)) hX2 rfl hR2 (by omega) (by omega) (fun v3 cap3 f3 hX3 hR3 => hGo_a ?_)
  obtain ⟨L3, e3⟩ : ∃ Y, Y = L2 ++ dgs (1 + y) := ⟨_, rfl⟩
  have l3 : L3.length = L2.length + 1 := by rw [e3]; exact q2
  rw [← e3] at hX3 hR3 ⊢
  have q3 : (L3 ++ [nI 32]).length = L3.length + 1 := by rw [List.length_append, show [nI 32].length = 1 from rfl]
  refine G_bipush (v := 32) dL_setup_37 (by decide) ?_
  refine G_callVX (n := 1) (T := TJ4) (N := 4) (y := yJ4_append_cf468) (b' := cJ4_append_cf468) (z' := zJ4_append_cf468) (as := [.int 32]) (rest := []) (cs' := 7) (ss' := 6104) hX3 (sbX_at0 (M := M.x (sbX E [tC E (k + 1 + 1)] a v3 L3.length cap3 f3)) rfl) dL_setup_39 ⟨⟨(hqx 791 (by decide +kernel) rfl), (hqx 20 (by decide +kernel) rfl), (hqx 794 (by decide +kernel) rfl), rfl, by decide, by decide, by decide +kernel⟩, (hqx 792 (by decide +kernel) rfl), (hqx 793 (by decide +kernel) rfl)⟩ rfl rfl rfl (Nat.le_of_ble_eq_true rfl) (Nat.le_of_ble_eq_true rfl) (Nat.le_of_ble_eq_true rfl) rfl rfl (Nat.le_of_ble_eq_true rfl) (Nat.le_of_ble_eq_true rfl) rfl ?_
  refine c_append4C (k := 32) (M := M.x (sbX E [tC E (k + 1 + 1)] a v3 L3.length cap3 f3)) hX3 rfl hR3 (by decide) (by omega) (fun v4 cap4 f4 hX4 hR4 => hGo_a ?_)
  obtain ⟨L4, e4⟩ : ∃ Y, Y = L3 ++ [nI 32] := ⟨_, rfl⟩
  have l4 : L4.length = L3.length + 1 := by rw [e4]; exact q3
  rw [← e4] at hX4 hR4 ⊢
  refine G_aload_n dL_setup_42 rfl ?_
  refine G_iconst (v := 5) dL_setup_43 (by decide) ?_
  refine G_nextSB (M := M.x (sbX E [tC E (k + 1 + 1)] a v4 L4.length cap4 f4)) (k := k + 1 + 1) (m := 5) hX4 rfl (by omega) hl (by decide) (by decide) rfl dL_setup_44 (Nat.le_of_ble_eq_true rfl) (Nat.le_of_ble_eq_true rfl) (Nat.le_of_ble_eq_true rfl) (Nat.le_of_ble_eq_true rfl) (Nat.le_of_ble_eq_true rfl) rfl (fun hX4 u hu => ?_)
  refine G_st (M' := M.x (sbX E [tC E (k + 1 + 1 + 1)] a v4 L4.length cap4 f4)) rfl rfl rfl ?_
  have q4 : (L4 ++ dgs u).length = L4.length + 1 := by rw [List.length_append, dgs_1 (by omega)]
  refine G_callVX (n := 1) (T := TJ4) (N := 4) (y := yJ4_append_bf812) (b' := cJ4_append_bf812) (z' := zJ4_append_bf812) (as := [.int (nI u)]) (rest := []) (cs' := 8) (ss' := 7304) hX4 (sbX_at0 (M := M.x (sbX E [tC E (k + 1 + 1 + 1)] a v4 L4.length cap4 f4)) rfl) dL_setup_47 ⟨⟨(hqx 766 (by decide +kernel) rfl), (hqx 20 (by decide +kernel) rfl), (hqx 769 (by decide +kernel) rfl), rfl, by decide, by decide, by decide +kernel⟩, (hqx 767 (by decide +kernel) rfl), (hqx 768 (by decide +kernel) rfl)⟩ rfl rfl rfl (Nat.le_of_ble_eq_true rfl) (Nat.le_of_ble_eq_true rfl) (Nat.le_of_ble_eq_true rfl) rfl rfl (Nat.le_of_ble_eq_true rfl) (Nat.le_of_ble_eq_true rfl) rfl ?_
  refine c_append4I (k := u) (M := M.x (sbX E [tC E (k + 1 + 1 + 1)] a v4 L4.length cap4 f4)) hX4 rfl hR4 (by omega) (by omega) (fun v5 cap5 f5 hX5 hR5 => hGo_a ?_)
  obtain ⟨L5, e5⟩ : ∃ Y, Y = L4 ++ dgs u := ⟨_, rfl⟩
  have l5 : L5.length = L4.length + 1 := by rw [e5]; exact q4
  rw [← e5] at hX5 hR5 ⊢
  have q5 : (L5 ++ [nI 32]).length = L5.length + 1 := by rw [List.length_append, show [nI 32].length = 1 from rfl]
  refine G_bipush (v := 32) dL_setup_50 (by decide) ?_
  refine G_callVX (n := 1) (T := TJ4) (N := 4) (y := yJ4_append_cf468) (b' := cJ4_append_cf468) (z' := zJ4_append_cf468) (as := [.int 32]) (rest := []) (cs' := 9) (ss' := 8504) hX5 (sbX_at0 (M := M.x (sbX E [tC E (k + 1 + 1 + 1)] a v5 L5.length cap5 f5)) rfl) dL_setup_52 ⟨⟨(hqx 791 (by decide +kernel) rfl), (hqx 20 (by decide +kernel) rfl), (hqx 794 (by decide +kernel) rfl), rfl, by decide, by decide, by decide +kernel⟩, (hqx 792 (by decide +kernel) rfl), (hqx 793 (by decide +kernel) rfl)⟩ rfl rfl rfl (Nat.le_of_ble_eq_true rfl) (Nat.le_of_ble_eq_true rfl) (Nat.le_of_ble_eq_true rfl) rfl rfl (Nat.le_of_ble_eq_true rfl) (Nat.le_of_ble_eq_true rfl) rfl ?_
  refine c_append4C (k := 32) (M := M.x (sbX E [tC E (k + 1 + 1 + 1)] a v5 L5.length cap5 f5)) hX5 rfl hR5 (by decide) (by omega) (fun v6 cap6 f6 hX6 hR6 => hGo_a ?_)
  obtain ⟨L6, e6⟩ : ∃ Y, Y = L5 ++ [nI 32] := ⟨_, rfl⟩
  have l6 : L6.length = L5.length + 1 := by rw [e6]; exact q5
  rw [← e6] at hX6 hR6 ⊢
  refine G_aload_n dL_setup_55 rfl ?_
  refine G_iconst (v := 4) dL_setup_56 (by decide) ?_
  refine G_nextSB (M := M.x (sbX E [tC E (k + 1 + 1 + 1)] a v6 L6.length cap6 f6)) (k := k + 1 + 1 + 1) (m := 4) hX6 rfl (by omega) hl (by decide) (by decide) rfl dL_setup_57 (Nat.le_of_ble_eq_true rfl) (Nat.le_of_ble_eq_true rfl) (Nat.le_of_ble_eq_true rfl) (Nat.le_of_ble_eq_true rfl) (Nat.le_of_ble_eq_true rfl) rfl (fun hX6 t ht => ?_)
  refine G_st (M' := M.x (sbX E [tC E (k + 1 + 1 + 1 + 1)] a v6 L6.length cap6 f6)) rfl rfl rfl ?_
  have q6 : (L6 ++ dgs t).length = L6.length + 1 := by rw [List.length_append, dgs_1 (by omega)]
  refine G_callVX (n := 1) (T := TJ4) (N := 4) (y := yJ4_append_bf812) (b' := cJ4_append_bf812) (z' := zJ4_append_bf812) (as := [.int (nI t)]) (rest := []) (cs' := 10) (ss' := 9704) hX6 (sbX_at0 (M := M.x (sbX E [tC E (k + 1 + 1 + 1 + 1)] a v6 L6.length cap6 f6)) rfl) dL_setup_60 ⟨⟨(hqx 766 (by decide +kernel) rfl), (hqx 20 (by decide +kernel) rfl), (hqx 769 (by decide +kernel) rfl), rfl, by decide, by decide, by decide +kernel⟩, (hqx 767 (by decide +kernel) rfl), (hqx 768 (by decide +kernel) rfl)⟩ rfl rfl rfl (Nat.le_of_ble_eq_true rfl) (Nat.le_of_ble_eq_true rfl) (Nat.le_of_ble_eq_true rfl) rfl rfl (Nat.le_of_ble_eq_true rfl) (Nat.le_of_ble_eq_true rfl) rfl ?_
  refine c_append4I (k := t) (M := M.x (sbX E [tC E (k + 1 + 1 + 1 + 1)] a v6 L6.length cap6 f6)) hX6 rfl hR6 (by omega) (by omega) (fun v7 cap7 f7 hX7 hR7 => hGo_a ?_)
  obtain ⟨L7, e7⟩ : ∃ Y, Y = L6 ++ dgs t := ⟨_, rfl⟩
  have l7 : L7.length = L6.length + 1 := by rw [e7]; exact q6
  rw [← e7] at hX7 hR7 ⊢
  have q7 : (L7 ++ [nI 59]).length = L7.length + 1 := by rw [List.length_append, show [nI 59].length = 1 from rfl]
  refine G_bipush (v := 59) dL_setup_63 (by decide) ?_
  refine G_callVX (n := 1) (T := TJ4) (N := 4) (y := yJ4_append_cf468) (b' := cJ4_append_cf468) (z' := zJ4_append_cf468) (as := [.int 59]) (rest := []) (cs' := 11) (ss' := 10904) hX7 (sbX_at0 (M := M.x (sbX E [tC E (k + 1 + 1 + 1 + 1)] a v7 L7.length cap7 f7)) rfl) dL_setup_65 ⟨⟨(hqx 791 (by decide +kernel) rfl), (hqx 20 (by decide +kernel) rfl), (hqx 794 (by decide +kernel) rfl), rfl, by decide, by decide, by decide +kernel⟩, (hqx 792 (by decide +kernel) rfl), (hqx 793 (by decide +kernel) rfl)⟩ rfl rfl rfl (Nat.le_of_ble_eq_true rfl) (Nat.le_of_ble_eq_true rfl) (Nat.le_of_ble_eq_true rfl) rfl rfl (Nat.le_of_ble_eq_true rfl) (Nat.le_of_ble_eq_true rfl) rfl ?_
  refine c_append4C (k := 59) (M := M.x (sbX E [tC E (k + 1 + 1 + 1 + 1)] a v7 L7.length cap7 f7)) hX7 rfl hR7 (by decide) (by omega) (fun v8 cap8 f8 hX8 hR8 => hGo_a ?_)
  obtain ⟨L8, e8⟩ : ∃ Y, Y = L7 ++ [nI 59] := ⟨_, rfl⟩
  have l8 : L8.length = L7.length + 1 := by rw [e8]; exact q7
  rw [← e8] at hX8 hR8 ⊢
  obtain ⟨hd, ehd⟩ : ∃ Y, Y = hdT (10 + x) (1 + y) u t := ⟨_, rfl⟩
  have eL : L8 = alT hd [] := by
    rw [ehd]
    unfold alT hdT
    rw [e8, e7, e6, e5, e4, e3, e2, e1, e0]
    simp
  have lL : L8.length = 16 := by omega
  refine G_astore_n dL_setup_68 (Nat.le_of_ble_eq_true rfl) ?_
  refine G_bipush (v := 36) dL_setup_69 (by decide) ?_
  refine G_xnewa (t0 := 2) (n := 36) (atype := .boolean) (ty := .boolean) (a0 := (36, .inl (fun _ => 0))) (cs' := 12) (ss' := 10940) hX8 dL_setup_71 (hqx 327 (by decide +kernel) rfl) rfl (fun _ h => by cases h) rfl (fun _ => rfl) rfl (by decide) (by decide) rfl rfl (Nat.le_of_ble_eq_true rfl) (Nat.le_of_ble_eq_true rfl) (fun tk hXt => ?_)
  generalize hct : ((tk, .inl (E.2.2.1 2, 36, .inl (fun _ => 0))) : Nat × va_E) = ct at hXt ⊢
  refine G_strTop (M := M.x (sbX E [tC E (k + 1 + 1 + 1 + 1)] a v8 L8.length cap8 f8 ++ [ct])) hXt rfl (fun hXu => ?_)
  have hct2 : ct = (tk, .inl (E.2.2.1 2, 36, .inl (mark []))) := by rw [← hct, mark_nil]
  rw [hct2] at hXu ⊢
  refine G_st (M' := M.x (sbX E [tC E (k + 1 + 1 + 1 + 1), (tk, .inl (E.2.2.1 2, 36, .inl (mark [])))] a v8 L8.length cap8 f8)) rfl rfl rfl ?_
  have hXv : xOk E (sbX E [tC E (k + 1 + 1 + 1 + 1), (tk, .inl (E.2.2.1 2, 36, .inl (mark [])))] a v8 L8.length cap8 f8) := hXu
  clear hXu hXt
  obtain ⟨k5, ek5⟩ : ∃ k5, k5 = k + 1 + 1 + 1 + 1 := ⟨_, rfl⟩
  rw [← ek5] at hXv ⊢
  rw [eL] at hXv hR8 lL ⊢
  clear hX0 hR0 hX1 hR1 hX2 hR2 hX3 hR3 hX4 hR4 hX5 hR5 hX6 hR6 hX7 hR7 hX8
  refine G_astore_n dL_setup_73 (Nat.le_of_ble_eq_true rfl) ?_
  refine G_iconst (v := 2) dL_setup_74 (by decide) ?_
  refine G_aload_n dL_setup_75 rfl ?_
  refine G_bipush (v := 8) dL_setup_76 (by decide) ?_
  refine G_nextSB (M := M.x (sbX E [tC E (k5), (tk, .inl (E.2.2.1 2, 36, .inl (mark [])))] a v8 (alT hd []).length cap8 f8)) (k := k5) (m := 8) hXv rfl (by omega) hl (by decide) (by decide) rfl dL_setup_78 (Nat.le_of_ble_eq_true rfl) (Nat.le_of_ble_eq_true rfl) (Nat.le_of_ble_eq_true rfl) (Nat.le_of_ble_eq_true rfl) (Nat.le_of_ble_eq_true rfl) rfl (fun hXw n hn => ?_)
  refine G_iadd dL_setup_81 ?_
  rw [show (2 : Int32) + nI n = nI (2 + n) from nI_add 2 n]
  generalize hN : 2 + n = N
  refine G_istore_n dL_setup_82 (Nat.le_of_ble_eq_true rfl) ?_
  refine G_iconst (v := 0) dL_setup_83 (by decide) ?_
  refine G_istore dL_setup_84 (Nat.le_of_ble_eq_true rfl) ?_
  refine G_lv (lv' := [(0, .ref (E.1 - 1)), (1, .ref a), (2, .ref tk), (3, .int (nI N)), (4, .int (nI 0))]) ⟨rfl, rfl, rfl, rfl, rfl, trivial⟩ ?_
  have key : ∀ (k : Nat) (ps : List Pu) (v cap : Nat) (f : Nat → Int32), ps.length = 0 → psOk ps → k ≤ k5 + 1 + 4 * 0 → (alT hd ps).length ≤ 16 + 18 * 0 → xOk E (sbX E [tC E (k), (tk, .inl (E.2.2.1 2, 36, .inl (mark ps)))] a v (alT hd ps).length cap f) → sbR (alT hd ps) cap f → G E C RL cL_setup zL_setup P (12 + 9 * 0) (10940 + 10800 * 0) (M.x (sbX E [tC E (k), (tk, .inl (E.2.2.1 2, 36, .inl (mark ps)))] a v (alT hd ps).length cap f)) 86 [(0, .ref (E.1 - 1)), (1, .ref a), (2, .ref tk), (3, .int (nI N)), (4, .int (nI 0))] [] := by
    refine up0 (c := N) (H := fun i => ∀ (k : Nat) (ps : List Pu) (v cap : Nat) (f : Nat → Int32), ps.length = i → psOk ps → k ≤ k5 + 1 + 4 * i → (alT hd ps).length ≤ 16 + 18 * i → xOk E (sbX E [tC E (k), (tk, .inl (E.2.2.1 2, 36, .inl (mark ps)))] a v (alT hd ps).length cap f) → sbR (alT hd ps) cap f → G E C RL cL_setup zL_setup P (12 + 9 * i) (10940 + 10800 * i) (M.x (sbX E [tC E (k), (tk, .inl (E.2.2.1 2, 36, .inl (mark ps)))] a v (alT hd ps).length cap f)) 86 [(0, .ref (E.1 - 1)), (1, .ref a), (2, .ref tk), (3, .int (nI N)), (4, .int (nI i))] []) (fun k6 ps v0 cap0 f0 hps hok hk6 hlen hX0 hR0 => ?_) (fun i hi ih k6 ps v0 cap0 f0 hps hok hk6 hlen hX0 hR0 => ?_)
    · refine G_wid (cs1 := 93) (ss1 := 108140) (by omega) (by omega) ?_
      refine G_iload dL_setup_86 rfl ?_
      refine G_iload_n dL_setup_88 rfl ?_
      refine G_icmp_ge (tgt := 209) dL_setup_89 (by decide) (fun c89 => ?_) (fun c89 => ?_)
      · skip
        refine G_aload_n dL_setup_209 rfl ?_
        refine G_callVX (n := 0) (T := TJ4) (N := 4) (y := yJ4_toString_0e30d) (b' := cJ4_toString_0e30d) (z' := zJ4_toString_0e30d) (as := []) (rest := []) (cs' := 93 + 2) (ss' := 108140 + 1204) hX0 (sbX_at0 (M := M.x (sbX E [tC E (k6), (tk, .inl (E.2.2.1 2, 36, .inl (mark ps)))] a v0 (alT hd ps).length cap0 f0)) rfl) dL_setup_210 ⟨⟨(hqx 808 (by decide +kernel) rfl), (hqx 20 (by decide +kernel) rfl), (hqx 811 (by decide +kernel) rfl), rfl, by decide, by decide, by decide +kernel⟩, (hqx 809 (by decide +kernel) rfl), (hqx 810 (by decide +kernel) rfl)⟩ rfl rfl rfl (Nat.le_of_ble_eq_true rfl) (Nat.le_of_ble_eq_true rfl) (Nat.le_of_ble_eq_true rfl) rfl rfl (by show 93 + 2 ≤ 200; omega) (by show 108140 + 1204 ≤ 200000; omega) rfl ?_
        refine c_toString (M := M.x (sbX E [tC E (k6), (tk, .inl (E.2.2.1 2, 36, .inl (mark ps)))] a v0 (alT hd ps).length cap0 f0)) hX0 rfl hR0 (fun s v9 f9 hX9 hf9 => hGo_a ?_)
        refine G_xsub (M := M.x (stX E [tC E (k6), (tk, .inl (E.2.2.1 2, 36, .inl (mark ps)))] s v9 (alT hd ps).length f9)) (X' := stX E [tC E (k6)] s v9 (alT hd ps).length f9) (fun k => if k = 0 then 0 else k + 1) hX9 (fun k q hq => ?_) (fun i j hi hj he => ?_) (fun hX8 => ?_)
        · have hk9 : k < 3 := (List.getElem?_eq_some_iff.mp hq).1
          rcases (show k = 0 ∨ k = 1 ∨ k = 2 by omega) with rfl | rfl | rfl <;> exact hq
        · have he : (if i = 0 then 0 else i + 1) = (if j = 0 then 0 else j + 1) := he
          split at he <;> split at he <;> omega
        refine G_aret dL_setup_213 rfl (Nat.le_of_ble_eq_true rfl) (Nat.le_of_ble_eq_true rfl) ?_
        rw [ehd] at hX8 hf9 hlen ⊢
        exact h (10 + x) (1 + y) u t ps k6 s v9 f9 (by omega) (by omega) (by omega) (by omega) (by omega) hok (by omega) (by omega) hX8 hf9
      · exact absurd (Int32.le_refl _) c89
    · refine G_iload dL_setup_86 rfl ?_
      refine G_iload_n dL_setup_88 rfl ?_
      refine G_icmp_ge (tgt := 209) dL_setup_89 (by decide) (fun c89 => ?_) (fun c89 => ?_)
      · exact absurd c89 (nI_ge hi (by omega))
      · obtain ⟨L0, e0⟩ : ∃ Y, Y = alT hd ps := ⟨_, rfl⟩
        rw [← e0] at hX0 hR0 hlen ⊢
        refine G_aload_n dL_setup_92 rfl ?_
        refine G_bipush (v := 36) dL_setup_93 (by decide) ?_
        refine G_nextSB (M := M.x (sbX E [tC E (k6), (tk, .inl (E.2.2.1 2, 36, .inl (mark ps)))] a v0 L0.length cap0 f0)) (k := k6) (m := 36) hX0 rfl (by omega) hl (by decide) (by decide) rfl dL_setup_95 (Nat.le_of_ble_eq_true rfl) (Nat.le_of_ble_eq_true rfl) (Nat.le_of_ble_eq_true rfl) (by show 12 + 9 * i ≤ 200; omega) (by show 10940 + 10800 * i ≤ 200000; omega) rfl (fun hX0 q0 hq0 => ?_)
        refine G_st (M' := M.x (sbX E [tC E (k6 + 1), (tk, .inl (E.2.2.1 2, 36, .inl (mark ps)))] a v0 L0.length cap0 f0)) rfl rfl rfl ?_
        refine G_istore dL_setup_98 (Nat.le_of_ble_eq_true rfl) ?_
        obtain ⟨jf, hjf⟩ := free_in (ps := ps) (by omega) hq0
        have on : ∀ q, q < 36 → mark ps q = 0 → G E C RL cL_setup zL_setup P (12 + 9 * i) (10940 + 10800 * i) (M.x (sbX E [tC E (k6 + 1), (tk, .inl (E.2.2.1 2, 36, .inl (mark ps)))] a v0 L0.length cap0 f0)) 120 [(0, .ref (E.1 - 1)), (1, .ref a), (2, .ref tk), (3, .int (nI N)), (4, .int (nI i)), (5, .int (nI q))] [] := by
          intro q hq hmq
          have hqn : q ∉ ps.map Prod.fst := fun z => by
            unfold mark at hmq
            rw [if_pos z] at hmq
            exact absurd hmq (by decide)
          refine G_aload_n dL_setup_120 rfl ?_
          refine G_iload dL_setup_121 rfl ?_
          refine G_iconst (v := 1) dL_setup_123 (by decide) ?_
          refine G_xzast (i := 1) (a := tk) (n := 36) (v := q) (f := mark ps) hX0 rfl dL_setup_124 rfl hq (by decide) (fun hXm => ?_)
          have em : (M.x (sbX E [tC E (k6 + 1), (tk, .inl (E.2.2.1 2, 36, .inl (mark ps)))] a v0 L0.length cap0 f0)).2.set 1 (tk, .inl (E.2.2.1 2, 36, .inl (upd (mark ps) q (vp_nar .boolean 1)))) = sbX E [tC E (k6 + 1), (tk, .inl (E.2.2.1 2, 36, .inl (upd (mark ps) q 1)))] a v0 L0.length cap0 f0 := rfl
          have hX0 : xOk E (sbX E [tC E (k6 + 1), (tk, .inl (E.2.2.1 2, 36, .inl (upd (mark ps) q 1)))] a v0 L0.length cap0 f0) := em ▸ hXm
          refine G_st (M' := M.x (sbX E [tC E (k6 + 1), (tk, .inl (E.2.2.1 2, 36, .inl (upd (mark ps) q 1)))] a v0 L0.length cap0 f0)) rfl rfl rfl ?_
          clear hXm
          have q0 : (L0 ++ hSb2 7).length = L0.length + 6 := by rw [List.length_append, show (hSb2 7).length = 6 from rfl]
          refine G_aload_n dL_setup_125 rfl ?_
          refine G_ldcS 7 dL_setup_126 (by decide) rfl rfl ?_
          refine G_callVX (n := 1) (T := TJ4) (N := 4) (y := yJ4_append_15ec4) (b' := cJ4_append_15ec4) (z' := zJ4_append_15ec4) (as := [.ref (sK E 7)]) (rest := []) (cs' := 12 + 9 * i + 1) (ss' := 10940 + 10800 * i + 1200) hX0 (sbX_at0 (M := M.x (sbX E [tC E (k6 + 1), (tk, .inl (E.2.2.1 2, 36, .inl (upd (mark ps) q 1)))] a v0 L0.length cap0 f0)) rfl) dL_setup_128 ⟨⟨(hqx 805 (by decide +kernel) rfl), (hqx 20 (by decide +kernel) rfl), (hqx 654 (by decide +kernel) rfl), rfl, by decide, by decide, by decide +kernel⟩, (hqx 652 (by decide +kernel) rfl), (hqx 653 (by decide +kernel) rfl)⟩ rfl rfl rfl (Nat.le_of_ble_eq_true rfl) (Nat.le_of_ble_eq_true rfl) (Nat.le_of_ble_eq_true rfl) rfl rfl (by show 12 + 9 * i + 1 ≤ 200; omega) (by show 10940 + 10800 * i + 1200 ≤ 200000; omega) rfl ?_
          refine c_append4S (i := 7) (M := M.x (sbX E [tC E (k6 + 1), (tk, .inl (E.2.2.1 2, 36, .inl (upd (mark ps) q 1)))] a v0 L0.length cap0 f0)) hX0 rfl hR0 (by decide) (by omega) (fun v1 cap1 f1 hX1 hR1 => hGo_a ?_)
          obtain ⟨L1, e1⟩ : ∃ Y, Y = L0 ++ hSb2 7 := ⟨_, rfl⟩
          have l1 : L1.length = L0.length + 6 := by rw [e1]; exact q0
          rw [← e1] at hX1 hR1 ⊢
          refine G_iload dL_setup_131 rfl ?_
          refine G_bipush (v := 6) dL_setup_133 (by decide) ?_
          refine G_idiv dL_setup_135 (by decide) ?_
          rw [show nI q / 6 = nI (q / 6) from pk_div (d := 6) (by omega) (by decide) (by decide)]
          have q1 : (L1 ++ dgs (q / 6)).length = L1.length + 1 := by rw [List.length_append, dgs_1 (by omega)]
          refine G_callVX (n := 1) (T := TJ4) (N := 4) (y := yJ4_append_bf812) (b' := cJ4_append_bf812) (z' := zJ4_append_bf812) (as := [.int (nI (q / 6))]) (rest := []) (cs' := 12 + 9 * i + 1 + 1) (ss' := 10940 + 10800 * i + 1200 + 1200) hX1 (sbX_at0 (M := M.x (sbX E [tC E (k6 + 1), (tk, .inl (E.2.2.1 2, 36, .inl (upd (mark ps) q 1)))] a v1 L1.length cap1 f1)) rfl) dL_setup_136 ⟨⟨(hqx 766 (by decide +kernel) rfl), (hqx 20 (by decide +kernel) rfl), (hqx 769 (by decide +kernel) rfl), rfl, by decide, by decide, by decide +kernel⟩, (hqx 767 (by decide +kernel) rfl), (hqx 768 (by decide +kernel) rfl)⟩ rfl rfl rfl (Nat.le_of_ble_eq_true rfl) (Nat.le_of_ble_eq_true rfl) (Nat.le_of_ble_eq_true rfl) rfl rfl (by show 12 + 9 * i + 1 + 1 ≤ 200; omega) (by show 10940 + 10800 * i + 1200 + 1200 ≤ 200000; omega) rfl ?_
          refine c_append4I (k := (q / 6)) (M := M.x (sbX E [tC E (k6 + 1), (tk, .inl (E.2.2.1 2, 36, .inl (upd (mark ps) q 1)))] a v1 L1.length cap1 f1)) hX1 rfl hR1 (by omega) (by omega) (fun v2 cap2 f2 hX2 hR2 => hGo_a ?_)
          obtain ⟨L2, e2⟩ : ∃ Y, Y = L1 ++ dgs (q / 6) := ⟨_, rfl⟩
          have l2 : L2.length = L1.length + 1 := by rw [e2]; exact q1
          rw [← e2] at hX2 hR2 ⊢
          have q2 : (L2 ++ [nI 32]).length = L2.length + 1 := by rw [List.length_append, show [nI 32].length = 1 from rfl]
          refine G_bipush (v := 32) dL_setup_139 (by decide) ?_
          refine G_callVX (n := 1) (T := TJ4) (N := 4) (y := yJ4_append_cf468) (b' := cJ4_append_cf468) (z' := zJ4_append_cf468) (as := [.int 32]) (rest := []) (cs' := 12 + 9 * i + 1 + 1 + 1) (ss' := 10940 + 10800 * i + 1200 + 1200 + 1200) hX2 (sbX_at0 (M := M.x (sbX E [tC E (k6 + 1), (tk, .inl (E.2.2.1 2, 36, .inl (upd (mark ps) q 1)))] a v2 L2.length cap2 f2)) rfl) dL_setup_141 ⟨⟨(hqx 791 (by decide +kernel) rfl), (hqx 20 (by decide +kernel) rfl), (hqx 794 (by decide +kernel) rfl), rfl, by decide, by decide, by decide +kernel⟩, (hqx 792 (by decide +kernel) rfl), (hqx 793 (by decide +kernel) rfl)⟩ rfl rfl rfl (Nat.le_of_ble_eq_true rfl) (Nat.le_of_ble_eq_true rfl) (Nat.le_of_ble_eq_true rfl) rfl rfl (by show 12 + 9 * i + 1 + 1 + 1 ≤ 200; omega) (by show 10940 + 10800 * i + 1200 + 1200 + 1200 ≤ 200000; omega) rfl ?_
          refine c_append4C (k := 32) (M := M.x (sbX E [tC E (k6 + 1), (tk, .inl (E.2.2.1 2, 36, .inl (upd (mark ps) q 1)))] a v2 L2.length cap2 f2)) hX2 rfl hR2 (by decide) (by omega) (fun v3 cap3 f3 hX3 hR3 => hGo_a ?_)
          obtain ⟨L3, e3⟩ : ∃ Y, Y = L2 ++ [nI 32] := ⟨_, rfl⟩
          have l3 : L3.length = L2.length + 1 := by rw [e3]; exact q2
          rw [← e3] at hX3 hR3 ⊢
          refine G_iload dL_setup_144 rfl ?_
          refine G_bipush (v := 6) dL_setup_146 (by decide) ?_
          refine G_irem dL_setup_148 (by decide) ?_
          rw [six (n := q) (by omega)]
          have q3 : (L3 ++ dgs (q % 6)).length = L3.length + 1 := by rw [List.length_append, dgs_1 (by omega)]
          refine G_callVX (n := 1) (T := TJ4) (N := 4) (y := yJ4_append_bf812) (b' := cJ4_append_bf812) (z' := zJ4_append_bf812) (as := [.int (nI (q % 6))]) (rest := []) (cs' := 12 + 9 * i + 1 + 1 + 1 + 1) (ss' := 10940 + 10800 * i + 1200 + 1200 + 1200 + 1200) hX3 (sbX_at0 (M := M.x (sbX E [tC E (k6 + 1), (tk, .inl (E.2.2.1 2, 36, .inl (upd (mark ps) q 1)))] a v3 L3.length cap3 f3)) rfl) dL_setup_149 ⟨⟨(hqx 766 (by decide +kernel) rfl), (hqx 20 (by decide +kernel) rfl), (hqx 769 (by decide +kernel) rfl), rfl, by decide, by decide, by decide +kernel⟩, (hqx 767 (by decide +kernel) rfl), (hqx 768 (by decide +kernel) rfl)⟩ rfl rfl rfl (Nat.le_of_ble_eq_true rfl) (Nat.le_of_ble_eq_true rfl) (Nat.le_of_ble_eq_true rfl) rfl rfl (by show 12 + 9 * i + 1 + 1 + 1 + 1 ≤ 200; omega) (by show 10940 + 10800 * i + 1200 + 1200 + 1200 + 1200 ≤ 200000; omega) rfl ?_
          refine c_append4I (k := (q % 6)) (M := M.x (sbX E [tC E (k6 + 1), (tk, .inl (E.2.2.1 2, 36, .inl (upd (mark ps) q 1)))] a v3 L3.length cap3 f3)) hX3 rfl hR3 (by omega) (by omega) (fun v4 cap4 f4 hX4 hR4 => hGo_a ?_)
          obtain ⟨L4, e4⟩ : ∃ Y, Y = L3 ++ dgs (q % 6) := ⟨_, rfl⟩
          have l4 : L4.length = L3.length + 1 := by rw [e4]; exact q3
          rw [← e4] at hX4 hR4 ⊢
          have q4 : (L4 ++ [nI 32]).length = L4.length + 1 := by rw [List.length_append, show [nI 32].length = 1 from rfl]
          refine G_bipush (v := 32) dL_setup_152 (by decide) ?_
          refine G_callVX (n := 1) (T := TJ4) (N := 4) (y := yJ4_append_cf468) (b' := cJ4_append_cf468) (z' := zJ4_append_cf468) (as := [.int 32]) (rest := []) (cs' := 12 + 9 * i + 1 + 1 + 1 + 1 + 1) (ss' := 10940 + 10800 * i + 1200 + 1200 + 1200 + 1200 + 1200) hX4 (sbX_at0 (M := M.x (sbX E [tC E (k6 + 1), (tk, .inl (E.2.2.1 2, 36, .inl (upd (mark ps) q 1)))] a v4 L4.length cap4 f4)) rfl) dL_setup_154 ⟨⟨(hqx 791 (by decide +kernel) rfl), (hqx 20 (by decide +kernel) rfl), (hqx 794 (by decide +kernel) rfl), rfl, by decide, by decide, by decide +kernel⟩, (hqx 792 (by decide +kernel) rfl), (hqx 793 (by decide +kernel) rfl)⟩ rfl rfl rfl (Nat.le_of_ble_eq_true rfl) (Nat.le_of_ble_eq_true rfl) (Nat.le_of_ble_eq_true rfl) rfl rfl (by show 12 + 9 * i + 1 + 1 + 1 + 1 + 1 ≤ 200; omega) (by show 10940 + 10800 * i + 1200 + 1200 + 1200 + 1200 + 1200 ≤ 200000; omega) rfl ?_
          refine c_append4C (k := 32) (M := M.x (sbX E [tC E (k6 + 1), (tk, .inl (E.2.2.1 2, 36, .inl (upd (mark ps) q 1)))] a v4 L4.length cap4 f4)) hX4 rfl hR4 (by decide) (by omega) (fun v5 cap5 f5 hX5 hR5 => hGo_a ?_)
          obtain ⟨L5, e5⟩ : ∃ Y, Y = L4 ++ [nI 32] := ⟨_, rfl⟩
          have l5 : L5.length = L4.length + 1 := by rw [e5]; exact q4
          rw [← e5] at hX5 hR5 ⊢
          refine G_iconst (v := 1) dL_setup_157 (by decide) ?_
          refine G_aload_n dL_setup_158 rfl ?_
          refine G_bipush (v := 9) dL_setup_159 (by decide) ?_
          refine G_nextSB (M := M.x (sbX E [tC E (k6 + 1), (tk, .inl (E.2.2.1 2, 36, .inl (upd (mark ps) q 1)))] a v5 L5.length cap5 f5)) (k := k6 + 1) (m := 9) hX5 rfl (by omega) hl (by decide) (by decide) rfl dL_setup_161 (Nat.le_of_ble_eq_true rfl) (Nat.le_of_ble_eq_true rfl) (Nat.le_of_ble_eq_true rfl) (by show 12 + 9 * i + 1 + 1 + 1 + 1 + 1 ≤ 200; omega) (by show 10940 + 10800 * i + 1200 + 1200 + 1200 + 1200 + 1200 ≤ 200000; omega) rfl (fun hX5 s1 hs1 => ?_)
          refine G_st (M' := M.x (sbX E [tC E (k6 + 1 + 1), (tk, .inl (E.2.2.1 2, 36, .inl (upd (mark ps) q 1)))] a v5 L5.length cap5 f5)) rfl rfl rfl ?_
          refine G_iadd dL_setup_164 ?_
          rw [show (1 : Int32) + nI s1 = nI (1 + s1) from nI_add 1 s1]
          have q5 : (L5 ++ dgs (1 + s1)).length = L5.length + 1 := by rw [List.length_append, dgs_1 (by omega)]
          refine G_callVX (n := 1) (T := TJ4) (N := 4) (y := yJ4_append_bf812) (b' := cJ4_append_bf812) (z' := zJ4_append_bf812) (as := [.int (nI (1 + s1))]) (rest := []) (cs' := 12 + 9 * i + 1 + 1 + 1 + 1 + 1 + 1) (ss' := 10940 + 10800 * i + 1200 + 1200 + 1200 + 1200 + 1200 + 1200) hX5 (sbX_at0 (M := M.x (sbX E [tC E (k6 + 1 + 1), (tk, .inl (E.2.2.1 2, 36, .inl (upd (mark ps) q 1)))] a v5 L5.length cap5 f5)) rfl) dL_setup_165 ⟨⟨(hqx 766 (by decide +kernel) rfl), (hqx 20 (by decide +kernel) rfl), (hqx 769 (by decide +kernel) rfl), rfl, by decide, by decide, by decide +kernel⟩, (hqx 767 (by decide +kernel) rfl), (hqx 768 (by decide +kernel) rfl)⟩ rfl rfl rfl (Nat.le_of_ble_eq_true rfl) (Nat.le_of_ble_eq_true rfl) (Nat.le_of_ble_eq_true rfl) rfl rfl (by show 12 + 9 * i + 1 + 1 + 1 + 1 + 1 + 1 ≤ 200; omega) (by show 10940 + 10800 * i + 1200 + 1200 + 1200 + 1200 + 1200 + 1200 ≤ 200000; omega) rfl ?_
          refine c_append4I (k := (1 + s1)) (M := M.x (sbX E [tC E (k6 + 1 + 1), (tk, .inl (E.2.2.1 2, 36, .inl (upd (mark ps) q 1)))] a v5 L5.length cap5 f5)) hX5 rfl hR5 (by omega) (by omega) (fun v6 cap6 f6 hX6 hR6 => hGo_a ?_)
          obtain ⟨L6, e6⟩ : ∃ Y, Y = L5 ++ dgs (1 + s1) := ⟨_, rfl⟩
          have l6 : L6.length = L5.length + 1 := by rw [e6]; exact q5
          rw [← e6] at hX6 hR6 ⊢
          have q6 : (L6 ++ [nI 32]).length = L6.length + 1 := by rw [List.length_append, show [nI 32].length = 1 from rfl]
          refine G_bipush (v := 32) dL_setup_168 (by decide) ?_
          refine G_callVX (n := 1) (T := TJ4) (N := 4) (y := yJ4_append_cf468) (b' := cJ4_append_cf468) (z' := zJ4_append_cf468) (as := [.int 32]) (rest := []) (cs' := 12 + 9 * i + 1 + 1 + 1 + 1 + 1 + 1 + 1) (ss' := 10940 + 10800 * i + 1200 + 1200 + 1200 + 1200 + 1200 + 1200 + 1200) hX6 (sbX_at0 (M := M.x (sbX E [tC E (k6 + 1 + 1), (tk, .inl (E.2.2.1 2, 36, .inl (upd (mark ps) q 1)))] a v6 L6.length cap6 f6)) rfl) dL_setup_170 ⟨⟨(hqx 791 (by decide +kernel) rfl), (hqx 20 (by decide +kernel) rfl), (hqx 794 (by decide +kernel) rfl), rfl, by decide, by decide, by decide +kernel⟩, (hqx 792 (by decide +kernel) rfl), (hqx 793 (by decide +kernel) rfl)⟩ rfl rfl rfl (Nat.le_of_ble_eq_true rfl) (Nat.le_of_ble_eq_true rfl) (Nat.le_of_ble_eq_true rfl) rfl rfl (by show 12 + 9 * i + 1 + 1 + 1 + 1 + 1 + 1 + 1 ≤ 200; omega) (by show 10940 + 10800 * i + 1200 + 1200 + 1200 + 1200 + 1200 + 1200 + 1200 ≤ 200000; omega) rfl ?_
          refine c_append4C (k := 32) (M := M.x (sbX E [tC E (k6 + 1 + 1), (tk, .inl (E.2.2.1 2, 36, .inl (upd (mark ps) q 1)))] a v6 L6.length cap6 f6)) hX6 rfl hR6 (by decide) (by omega) (fun v7 cap7 f7 hX7 hR7 => hGo_a ?_)
          obtain ⟨L7, e7⟩ : ∃ Y, Y = L6 ++ [nI 32] := ⟨_, rfl⟩
          have l7 : L7.length = L6.length + 1 := by rw [e7]; exact q6
          rw [← e7] at hX7 hR7 ⊢
          refine G_iconst (v := 1) dL_setup_173 (by decide) ?_
          refine G_aload_n dL_setup_174 rfl ?_
          refine G_bipush (v := 9) dL_setup_175 (by decide) ?_
          refine G_nextSB (M := M.x (sbX E [tC E (k6 + 1 + 1), (tk, .inl (E.2.2.1 2, 36, .inl (upd (mark ps) q 1)))] a v7 L7.length cap7 f7)) (k := k6 + 1 + 1) (m := 9) hX7 rfl (by omega) hl (by decide) (by decide) rfl dL_setup_177 (Nat.le_of_ble_eq_true rfl) (Nat.le_of_ble_eq_true rfl) (Nat.le_of_ble_eq_true rfl) (by show 12 + 9 * i + 1 + 1 + 1 + 1 + 1 + 1 + 1 ≤ 200; omega) (by show 10940 + 10800 * i + 1200 + 1200 + 1200 + 1200 + 1200 + 1200 + 1200 ≤ 200000; omega) rfl (fun hX7 s2 hs2 => ?_)
          refine G_st (M' := M.x (sbX E [tC E (k6 + 1 + 1 + 1), (tk, .inl (E.2.2.1 2, 36, .inl (upd (mark ps) q 1)))] a v7 L7.length cap7 f7)) rfl rfl rfl ?_
          refine G_iadd dL_setup_180 ?_
          rw [show (1 : Int32) + nI s2 = nI (1 + s2) from nI_add 1 s2]
          have q7 : (L7 ++ dgs (1 + s2)).length = L7.length + 1 := by rw [List.length_append, dgs_1 (by omega)]
          refine G_callVX (n := 1) (T := TJ4) (N := 4) (y := yJ4_append_bf812) (b' := cJ4_append_bf812) (z' := zJ4_append_bf812) (as := [.int (nI (1 + s2))]) (rest := []) (cs' := 12 + 9 * i + 1 + 1 + 1 + 1 + 1 + 1 + 1 + 1) (ss' := 10940 + 10800 * i + 1200 + 1200 + 1200 + 1200 + 1200 + 1200 + 1200 + 1200) hX7 (sbX_at0 (M := M.x (sbX E [tC E (k6 + 1 + 1 + 1), (tk, .inl (E.2.2.1 2, 36, .inl (upd (mark ps) q 1)))] a v7 L7.length cap7 f7)) rfl) dL_setup_181 ⟨⟨(hqx 766 (by decide +kernel) rfl), (hqx 20 (by decide +kernel) rfl), (hqx 769 (by decide +kernel) rfl), rfl, by decide, by decide, by decide +kernel⟩, (hqx 767 (by decide +kernel) rfl), (hqx 768 (by decide +kernel) rfl)⟩ rfl rfl rfl (Nat.le_of_ble_eq_true rfl) (Nat.le_of_ble_eq_true rfl) (Nat.le_of_ble_eq_true rfl) rfl rfl (by show 12 + 9 * i + 1 + 1 + 1 + 1 + 1 + 1 + 1 + 1 ≤ 200; omega) (by show 10940 + 10800 * i + 1200 + 1200 + 1200 + 1200 + 1200 + 1200 + 1200 + 1200 ≤ 200000; omega) rfl ?_
          refine c_append4I (k := (1 + s2)) (M := M.x (sbX E [tC E (k6 + 1 + 1 + 1), (tk, .inl (E.2.2.1 2, 36, .inl (upd (mark ps) q 1)))] a v7 L7.length cap7 f7)) hX7 rfl hR7 (by omega) (by omega) (fun v8 cap8 f8 hX8 hR8 => hGo_a ?_)
          obtain ⟨L8, e8⟩ : ∃ Y, Y = L7 ++ dgs (1 + s2) := ⟨_, rfl⟩
          have l8 : L8.length = L7.length + 1 := by rw [e8]; exact q7
          rw [← e8] at hX8 hR8 ⊢
          refine G_aload_n dL_setup_184 rfl ?_
          refine G_iconst (v := 3) dL_setup_185 (by decide) ?_
          refine G_nextSB (M := M.x (sbX E [tC E (k6 + 1 + 1 + 1), (tk, .inl (E.2.2.1 2, 36, .inl (upd (mark ps) q 1)))] a v8 L8.length cap8 f8)) (k := k6 + 1 + 1 + 1) (m := 3) hX8 rfl (by omega) hl (by decide) (by decide) rfl dL_setup_186 (Nat.le_of_ble_eq_true rfl) (Nat.le_of_ble_eq_true rfl) (Nat.le_of_ble_eq_true rfl) (by show 12 + 9 * i + 1 + 1 + 1 + 1 + 1 + 1 + 1 + 1 ≤ 200; omega) (by show 10940 + 10800 * i + 1200 + 1200 + 1200 + 1200 + 1200 + 1200 + 1200 + 1200 ≤ 200000; omega) rfl (fun hX8 s3 hs3 => ?_)
          refine G_st (M' := M.x (sbX E [tC E (k6 + 1 + 1 + 1 + 1), (tk, .inl (E.2.2.1 2, 36, .inl (upd (mark ps) q 1)))] a v8 L8.length cap8 f8)) rfl rfl rfl ?_
          have fin : ∀ (spy : Bool) (v9 cap9 : Nat) (f9 : Nat → Int32), xOk E (sbX E [tC E (k6 + 1 + 1 + 1 + 1), (tk, .inl (E.2.2.1 2, 36, .inl (upd (mark ps) q 1)))] a v9 (L8 ++ if spy = true then hSb2 8 else hSb2 9).length cap9 f9) → sbR (L8 ++ if spy = true then hSb2 8 else hSb2 9) cap9 f9 → G E C RL cL_setup zL_setup P (12 + 9 * i + 1 + 1 + 1 + 1 + 1 + 1 + 1 + 1 + 1) (10940 + 10800 * i + 1200 + 1200 + 1200 + 1200 + 1200 + 1200 + 1200 + 1200 + 1200) (M.x (sbX E [tC E (k6 + 1 + 1 + 1 + 1), (tk, .inl (E.2.2.1 2, 36, .inl (upd (mark ps) q 1)))] a v9 (L8 ++ if spy = true then hSb2 8 else hSb2 9).length cap9 f9)) 202 [(0, .ref (E.1 - 1)), (1, .ref a), (2, .ref tk), (3, .int (nI N)), (4, .int (nI i))] [.ref a] := by
            intro spy v9 cap9 f9 hX9 hR9
            have el : L8 ++ (if spy = true then hSb2 8 else hSb2 9) = alT hd (ps ++ [(q, 1 + s1, 1 + s2, spy)]) := by
              rw [alT_add, ← e0]
              unfold puT
              rw [e8, e7, e6, e5, e4, e3, e2, e1]
              simp only [List.append_assoc]
            have em : upd (mark ps) q 1 = mark (ps ++ [(q, 1 + s1, 1 + s2, spy)]) := mark_add (p := (q, 1 + s1, 1 + s2, spy))
            have ll : (L8 ++ (if spy = true then hSb2 8 else hSb2 9)).length ≤ 16 + 18 * (i + 1) := by
              rw [List.length_append]
              have : (if spy = true then hSb2 8 else hSb2 9).length ≤ 5 := by cases spy <;> decide
              omega
            rw [el, em] at hX9
            rw [el] at hR9 ll ⊢
            rw [em]
            refine G_pop dL_setup_202 rfl ?_
            refine G_iinc (v := 1) dL_setup_203 rfl (Nat.le_of_ble_eq_true rfl) (by decide) ?_
            refine G_goto (tgt := 86) dL_setup_206 (by decide) ?_
            refine G_wid (cs1 := 12 + 9 * (i + 1)) (ss1 := 10940 + 10800 * (i + 1)) (by omega) (by omega) ?_
            refine G_lv2 (ih _ (ps ++ [(q, 1 + s1, 1 + s2, spy)]) v9 cap9 f9 (by rw [List.length_append]; show ps.length + 1 = i + 1; omega) (psOk_add hok ⟨hq, by show 1 ≤ 1 + s1 ∧ 1 + s1 ≤ 9; omega, by show 1 ≤ 1 + s2 ∧ 1 + s2 ≤ 9; omega⟩ hqn) (by omega) ll hX9 hR9) ⟨rfl, rfl, rfl, rfl, lvi (nI_1 i), trivial⟩
          have lz : L8.length = L0.length + 13 := by omega
          refine G_if_ne (tgt := 197) dL_setup_189 (by decide) (fun c189 => ?_) (fun c189 => ?_)
          · refine G_ldcS 9 dL_setup_197 (by decide) rfl rfl ?_
            refine G_callVX (n := 1) (T := TJ4) (N := 4) (y := yJ4_append_15ec4) (b' := cJ4_append_15ec4) (z' := zJ4_append_15ec4) (as := [.ref (sK E 9)]) (rest := []) (cs' := 12 + 9 * i + 1 + 1 + 1 + 1 + 1 + 1 + 1 + 1 + 1) (ss' := 10940 + 10800 * i + 1200 + 1200 + 1200 + 1200 + 1200 + 1200 + 1200 + 1200 + 1200) hX8 (sbX_at0 (M := M.x (sbX E [tC E (k6 + 1 + 1 + 1 + 1), (tk, .inl (E.2.2.1 2, 36, .inl (upd (mark ps) q 1)))] a v8 L8.length cap8 f8)) rfl) dL_setup_199 ⟨⟨(hqx 805 (by decide +kernel) rfl), (hqx 20 (by decide +kernel) rfl), (hqx 654 (by decide +kernel) rfl), rfl, by decide, by decide, by decide +kernel⟩, (hqx 652 (by decide +kernel) rfl), (hqx 653 (by decide +kernel) rfl)⟩ rfl rfl rfl (Nat.le_of_ble_eq_true rfl) (Nat.le_of_ble_eq_true rfl) (Nat.le_of_ble_eq_true rfl) rfl rfl (by show 12 + 9 * i + 1 + 1 + 1 + 1 + 1 + 1 + 1 + 1 + 1 ≤ 200; omega) (by show 10940 + 10800 * i + 1200 + 1200 + 1200 + 1200 + 1200 + 1200 + 1200 + 1200 + 1200 ≤ 200000; omega) rfl ?_
            refine c_append4S (i := 9) (M := M.x (sbX E [tC E (k6 + 1 + 1 + 1 + 1), (tk, .inl (E.2.2.1 2, 36, .inl (upd (mark ps) q 1)))] a v8 L8.length cap8 f8)) hX8 rfl hR8 (by decide) (by rw [List.length_append]; show L8.length + 1 ≤ 200; omega) (fun v9 cap9 f9 hX9 hR9 => hGo_a ?_)
            exact G_lv2 (fin false v9 cap9 f9 hX9 hR9) ⟨rfl, rfl, rfl, rfl, rfl, trivial⟩
          · refine G_ldcS 8 dL_setup_192 (by decide) rfl rfl ?_
            refine G_goto (tgt := 199) dL_setup_194 (by decide) ?_
            refine G_callVX (n := 1) (T := TJ4) (N := 4) (y := yJ4_append_15ec4) (b' := cJ4_append_15ec4) (z' := zJ4_append_15ec4) (as := [.ref (sK E 8)]) (rest := []) (cs' := 12 + 9 * i + 1 + 1 + 1 + 1 + 1 + 1 + 1 + 1 + 1) (ss' := 10940 + 10800 * i + 1200 + 1200 + 1200 + 1200 + 1200 + 1200 + 1200 + 1200 + 1200) hX8 (sbX_at0 (M := M.x (sbX E [tC E (k6 + 1 + 1 + 1 + 1), (tk, .inl (E.2.2.1 2, 36, .inl (upd (mark ps) q 1)))] a v8 L8.length cap8 f8)) rfl) dL_setup_199 ⟨⟨(hqx 805 (by decide +kernel) rfl), (hqx 20 (by decide +kernel) rfl), (hqx 654 (by decide +kernel) rfl), rfl, by decide, by decide, by decide +kernel⟩, (hqx 652 (by decide +kernel) rfl), (hqx 653 (by decide +kernel) rfl)⟩ rfl rfl rfl (Nat.le_of_ble_eq_true rfl) (Nat.le_of_ble_eq_true rfl) (Nat.le_of_ble_eq_true rfl) rfl rfl (by show 12 + 9 * i + 1 + 1 + 1 + 1 + 1 + 1 + 1 + 1 + 1 ≤ 200; omega) (by show 10940 + 10800 * i + 1200 + 1200 + 1200 + 1200 + 1200 + 1200 + 1200 + 1200 + 1200 ≤ 200000; omega) rfl ?_
            refine c_append4S (i := 8) (M := M.x (sbX E [tC E (k6 + 1 + 1 + 1 + 1), (tk, .inl (E.2.2.1 2, 36, .inl (upd (mark ps) q 1)))] a v8 L8.length cap8 f8)) hX8 rfl hR8 (by decide) (by rw [List.length_append]; show L8.length + 5 ≤ 200; omega) (fun v9 cap9 f9 hX9 hR9 => hGo_a ?_)
            exact G_lv2 (fin true v9 cap9 f9 hX9 hR9) ⟨rfl, rfl, rfl, rfl, rfl, trivial⟩
        have wk : ∀ (j q : Nat), q < 36 → mark ps ((q + 7 * j) % 36) = 0 → G E C RL cL_setup zL_setup P (12 + 9 * i) (10940 + 10800 * i) (M.x (sbX E [tC E (k6 + 1), (tk, .inl (E.2.2.1 2, 36, .inl (mark ps)))] a v0 L0.length cap0 f0)) 100 [(0, .ref (E.1 - 1)), (1, .ref a), (2, .ref tk), (3, .int (nI N)), (4, .int (nI i)), (5, .int (nI q))] [] := by
          intro j
          induction j with
          | zero =>
            intro q hq hz
            rw [Nat.mul_zero, Nat.add_zero, Nat.mod_eq_of_lt hq] at hz
            refine G_aload_n dL_setup_100 rfl ?_
            refine G_iload dL_setup_101 rfl ?_
            refine G_xzald (i := 1) (a := tk) (n := 36) (v := q) (f := mark ps) hX0 rfl dL_setup_103 rfl hq (by decide) ?_
            refine G_if_eq (tgt := 120) dL_setup_104 (by decide) (fun c104 => ?_) (fun c104 => ?_)
            · exact on q hq hz
            · exact absurd hz c104
          | succ j ihj =>
            intro q hq hz
            refine G_aload_n dL_setup_100 rfl ?_
            refine G_iload dL_setup_101 rfl ?_
            refine G_xzald (i := 1) (a := tk) (n := 36) (v := q) (f := mark ps) hX0 rfl dL_setup_103 rfl hq (by decide) ?_
            refine G_if_eq (tgt := 120) dL_setup_104 (by decide) (fun c104 => ?_) (fun c104 => ?_)
            · exact on q hq c104
            · refine G_iload dL_setup_107 rfl ?_
              refine G_bipush (v := 7) dL_setup_109 (by decide) ?_
              refine G_iadd dL_setup_111 ?_
              refine G_bipush (v := 36) dL_setup_112 (by decide) ?_
              rw [show nI q + 7 = nI (q + 7) from nI_add q 7]
              refine G_irem dL_setup_114 (by decide) ?_
              rw [show nI (q + 7) - nI (q + 7) / 36 * 36 = nI ((q + 7) % 36) from pk_rem (d := 36) (by omega) (by decide) (by decide)]
              refine G_istore dL_setup_115 (Nat.le_of_ble_eq_true rfl) ?_
              refine G_goto (tgt := 100) dL_setup_117 (by decide) ?_
              exact G_lv2 (ihj ((q + 7) % 36) (Nat.mod_lt _ (by decide)) (by rw [show ((q + 7) % 36 + 7 * j) % 36 = (q + 7 * (j + 1)) % 36 by omega]; exact hz)) ⟨rfl, rfl, rfl, rfl, rfl, rfl, trivial⟩
        exact G_lv2 (wk jf q0 hq0 hjf) ⟨rfl, rfl, rfl, rfl, rfl, rfl, trivial⟩
  exact key (k5 + 1) [] v8 cap8 f8 rfl ⟨fun p hp => absurd hp List.not_mem_nil, List.nodup_nil⟩ (by omega) (by omega) hXw hR8
end LSETUP
