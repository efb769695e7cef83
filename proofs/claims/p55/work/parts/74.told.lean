/-! ===== Told: what is drawn ===== -/
section LTOLD
variable {E : Ed} {C : Cx} {own : String} {b : ByteArray} {z : Zd} {P : Res → Mm → Prop} {cs ss : Nat} {M : Mm} {pc : Nat} {lv : List (Nat × Value)} {st : List Value}
theorem inX9 : ∀ w ∈ u_ws RX9 TX9 2, w ∈ hTB := hqall (by decide +kernel)
/-- Told's cell: the script, how many were drawn -/
def tC (E : Ed) (at' : Nat) : Nat × va_E := (E.1 - 1, .inr (9, [.ref (E.2.2.2.1 18), .int (nI at')]))
theorem G_tlen (d : decode b pc = .ok (.arraylength, 1)) (g : G E C own b z P cs ss M (pc + 1) lv (.int (nI (E.2.2.2.2 18)) :: st)) : G E C own b z P cs ss M pc lv (.ref (E.2.2.2.1 18) :: st) := by
  obtain ⟨p', l, e, s, m, args, below, meth, c, Q⟩ := C
  intro K H locs ls hP hS hlv
  obtain ⟨hx, hb, hr, hlk, hml, hown, hts, htab, hK, hF1, hst, hAm, hQ⟩ := id K
  exact va_tlen hx hb hF1.2.2.2.2.1 hS rfl d (g K H locs ls hP hS hlv)
theorem G_tald {k : Nat} (d : decode b pc = .ok (.iaload, 1)) (hk : k < E.2.2.2.2 18) (hl : E.2.2.2.2 18 < 2 ^ 31) (g : G E C own b z P cs ss M (pc + 1) lv (.int (Int32.ofNat (E.2.2.2.2 (32 + k))) :: st)) : G E C own b z P cs ss M pc lv (.int (nI k) :: .ref (E.2.2.2.1 18) :: st) := by
  obtain ⟨p', l, e, s, m, args, below, meth, c, Q⟩ := C
  intro K H locs ls hP hS hlv
  obtain ⟨hx, hb, hr, hlk, hml, hown, hts, htab, hK, hF1, hst, hAm, hQ⟩ := id K
  exact va_ti hx hb hF1.2.2.2.2.1 hS (nI_in hk hl) (v := .int (Int32.ofNat (E.2.2.2.2 (32 + k)))) (by rw [nI_clamp (Nat.lt_trans hk hl)]) d (g K H locs ls hP hS hlv)
theorem l_pick {k : Nat} (hk : k < 2 ^ 31) (hl : E.2.2.2.2 18 ≤ 260) (h : ∀ v, v < 2 ^ 31 → P (.inl (some (.int (nI v)))) M) : Sp E yL_pick cL_pick zL_pick [.ref (E.2.2.2.1 18), .int (nI k)] M P := by
  have fin : ∀ x : Int32, P (.inl (some (.int (x &&& 2147483647)))) M := fun x => by
    obtain ⟨v, hv, ev⟩ := and31_nI x
    rw [ev]
    exact h v hv
  refine Sp_of (own := RL) (by decide) rfl rfl (Nat.le_of_ble_eq_true rfl) (fun C => ?_)
  refine G_iload_n dL_pick_0 rfl ?_
  refine G_aload_n dL_pick_1 rfl ?_
  refine G_tlen dL_pick_2 ?_
  refine G_icmp_ge (tgt := 12) dL_pick_3 (by decide) (fun c => ?_) (fun c => ?_)
  · refine G_bipush (v := 67) dL_pick_12 (by decide) ?_
    refine G_iload_n dL_pick_14 rfl ?_
    refine G_imul dL_pick_15 ?_
    refine G_bipush (v := 41) dL_pick_16 (by decide) ?_
    refine G_iadd dL_pick_18 ?_
    refine G_ldc (v := 2147483647) dL_pick_19 (hqx 765 (by decide +kernel) rfl) ?_
    refine G_iand dL_pick_21 ?_
    refine G_iret dL_pick_22 rfl rfl (Nat.le_of_ble_eq_true rfl) (Nat.le_of_ble_eq_true rfl) ?_
    exact fin _
  · have hk2 : k < E.2.2.2.2 18 := by
      rcases Nat.lt_or_ge k (E.2.2.2.2 18) with q | q
      · exact q
      · exact absurd (nI_le q hk) c
    refine G_aload_n dL_pick_6 rfl ?_
    refine G_iload_n dL_pick_7 rfl ?_
    refine G_tald dL_pick_8 hk2 (by omega) ?_
    refine G_goto (tgt := 19) dL_pick_9 (by decide) ?_
    refine G_ldc (v := 2147483647) dL_pick_19 (hqx 765 (by decide +kernel) rfl) ?_
    refine G_iand dL_pick_21 ?_
    refine G_iret dL_pick_22 rfl rfl (Nat.le_of_ble_eq_true rfl) (Nat.le_of_ble_eq_true rfl) ?_
    exact fin _
theorem l_next {at' m : Nat} {Y : va_W} (hX : xOk E M.2) (hM : M.2 = tC E at' :: Y) (hat : at' < 2 ^ 30) (hl : E.2.2.2.2 18 ≤ 260) (hm : 0 < m) (hm2 : m < 2 ^ 31) (h : xOk E (tC E (at' + 1) :: Y) → ∀ v, v < m → P (.inl (some (.int (nI v)))) (M.x (tC E (at' + 1) :: Y))) : Sp E yX9_next cX9_next zX9_next [.ref (E.1 - 1), .int (nI m)] M P := by
  have h0 : M.2[0]? = some (E.1 - 1, .inr (9, [.ref (E.2.2.2.1 18), .int (nI at')])) := by rw [hM]; rfl
  refine Sp_of (own := RX9) (by decide) rfl rfl (Nat.le_of_ble_eq_true rfl) (fun C => ?_)
  refine G_aload_n dX9_next_0 rfl ?_
  refine G_dup dX9_next_1 rfl ?_
  refine G_xget (T := TX9) (t := 1) (N := 2) hX h0 dX9_next_2 (hqx 597 (by decide +kernel) rfl) inX9 rfl (by decide) rfl rfl ?_
  refine G_iconst (v := 1) dX9_next_5 (by decide) ?_
  refine G_iadd dX9_next_6 ?_
  rw [nI_1]
  refine G_xput (T := TX9) (t := 1) (N := 2) (ty := .int) (ty0 := tyX9) hX h0 dX9_next_7 (hqx 597 (by decide +kernel) rfl) inX9 rfl tyX9_ok nmX9 (by decide) rfl rfl (tyX9_ok 1 (by decide)) rfl rfl (by show 1 < 2; decide) (fun hX1 => ?_)
  have e1 : M.2.set 0 (E.1 - 1, .inr (9, ([.ref (E.2.2.2.1 18), .int (nI at')] : List Value).set 1 (.int (nI (at' + 1))))) = tC E (at' + 1) :: Y := by rw [hM]; rfl
  have hX2 : xOk E (tC E (at' + 1) :: Y) := e1 ▸ hX1
  refine G_st (M' := M.x (tC E (at' + 1) :: Y)) rfl rfl (by rw [← e1]) ?_
  have h1 : (M.x (tC E (at' + 1) :: Y)).2[0]? = some (E.1 - 1, .inr (9, [.ref (E.2.2.2.1 18), .int (nI (at' + 1))])) := rfl
  refine G_aload_n dX9_next_10 rfl ?_
  refine G_xget (T := TX9) (t := 0) (N := 2) hX2 h1 dX9_next_11 (hqx 596 (by decide +kernel) rfl) inX9 rfl (by decide) rfl rfl ?_
  refine G_aload_n dX9_next_14 rfl ?_
  refine G_xget (T := TX9) (t := 1) (N := 2) hX2 h1 dX9_next_15 (hqx 597 (by decide +kernel) rfl) inX9 rfl (by decide) rfl rfl ?_
  refine G_callSN (as := [.ref (E.2.2.2.1 18), .int (nI (at' + 1))]) (rest := []) (n := 2) (y := yL_pick) (b' := cL_pick) (z' := zL_pick) (cs' := 0) (ss' := 0) dX9_next_18 (fun U H hF1 => hF1.2.2.2.2.2.1) (hqx 0 (by decide +kernel) rfl) (hqx 764 (by decide +kernel) rfl) (hqx 763 (by decide +kernel) rfl) rfl (by decide) rfl rfl (Nat.le_of_ble_eq_true rfl) (Nat.le_of_ble_eq_true rfl) (Nat.le_of_ble_eq_true rfl) rfl rfl (Nat.le_of_ble_eq_true rfl) (Nat.le_of_ble_eq_true rfl) ?_
  refine l_pick (by omega) hl (fun v hv => hGo_i ?_)
  refine G_iload_n dX9_next_21 rfl ?_
  refine G_irem dX9_next_22 (nI_ne0 hm hm2) ?_
  rw [show nI v - nI v / nI m * nI m = nI (v % m) from pk_rem hv hm hm2]
  exact G_iret dX9_next_23 rfl rfl (Nat.le_of_ble_eq_true rfl) (Nat.le_of_ble_eq_true rfl) (h hX2 _ (Nat.mod_lt _ hm))
theorem lk_L_34 : hLV RL 34 yX9_next cX9_next zX9_next 1 := ⟨⟨(hqx 758 (by decide +kernel) rfl), (hqx 1 (by decide +kernel) rfl), (hqx 761 (by decide +kernel) rfl), rfl, by decide, by decide, by decide +kernel⟩, (hqx 759 (by decide +kernel) rfl), (hqx 760 (by decide +kernel) rfl)⟩
/-- a draw, in the law's methods -/
theorem G_next {at' m : Nat} {Y : va_W} {y : Int32} (hX : xOk E M.2) (hM : M.2 = tC E at' :: Y) (hat : at' < 2 ^ 30) (hl : E.2.2.2.2 18 ≤ 260) (hm : 0 < m) (hm2 : m < 2 ^ 31) (hy : y = nI m) (d : decode b pc = .ok (.invokevirtual 34, 3)) (hroom : (st.map fun v => v.category).sum ≤ 8) (hfr : 2 ≤ z.2.2.2.1) (hlo : 42 ≤ z.2.2.2.2.1) (hcm : cs ≤ z.2.2.1.1) (hsm : ss ≤ z.2.2.1.2) (hz : z.2.2.2.2.2 = [])
    (g : xOk E (tC E (at' + 1) :: Y) → ∀ v, v < m → G E C RL b z P cs ss (M.x (tC E (at' + 1) :: Y)) (pc + 3) lv (.int (nI v) :: st)) : G E C RL b z P cs ss M pc lv (.int y :: .ref (E.1 - 1) :: st) := by
  subst hy
  have h0 : M.2[0]? = some (E.1 - 1, .inr (9, [.ref (E.2.2.2.1 18), .int (nI at')])) := by rw [hM]; rfl
  exact G_callVX (as := [.int (nI m)]) (rest := st) (T := TX9) (N := 2) (cs' := cs) (ss' := ss) hX h0 d lk_L_34 rfl rfl rfl hroom hfr hlo rfl rfl hcm hsm hz (l_next hX hM hat hl hm hm2 (fun hX1 v hv => hGo_i (g hX1 v hv)))
end LTOLD
