/-! ===== the String constants: ldc, length, charAt; throws ===== -/
section HSTR
abbrev sK (E : Ed) (i : Nat) : Nat := E.2.2.2.1 i
abbrev sV (E : Ed) (i : Nat) : Nat := E.2.2.2.2 i
theorem sRecv {E : Ed} {s : State} {H : Heap} {locs : List Loc} {i : Nat} {C : String} (hF1 : hF E s s.heap) (hi : i < 16) (hy : C = "java/lang/String") (hS : va_S (hA E) s.heap H locs) : ∃ cell : Cell, H[sK E i]? = some cell ∧ cell.vm.isStatics = false ∧ s.vm.findClass C = some cell.cls := by
  subst hy
  obtain ⟨cell, h1, h2, h3, -⟩ := (hF1.2.2.1 i hi).1.kept hS.2.1
  exact ⟨cell, h1, h2, h3⟩
variable {E : Ed} {C : Cx} {own : String} {b : ByteArray} {z : Zd} {P : Res → Mm → Prop} {cs ss pc : Nat} {M : Mm} {lv : List (Nat × Value)} {st : List Value}
theorem G_callVK {index n i cs' ss' : Nat} {y : MethodName} {b' : ByteArray} {z' : Zd} {as rest st0 : List Value} (d : decode b pc = .ok (.invokevirtual index, 3)) (lk : hLV own index y b' z' n) (hi : i < 16) (hy : y.cls = "java/lang/String") (hn : as.length = n) (hst0 : st0 = as.reverse ++ .ref (sK E i) :: rest) (hroom : (rest.map fun v => v.category).sum ≤ 8) (hfr : z'.2.2.2.1 + 1 ≤ z.2.2.2.1) (hlo : 8 + (z'.1 + 11) + z'.2.2.2.2.1 ≤ z.2.2.2.2.1) (hcs : cs + z'.2.2.1.1 = cs') (hss : ss + z'.2.2.1.2 = ss') (hcm : cs' ≤ z.2.2.1.1) (hsm : ss' ≤ z.2.2.1.2) (hz : z.2.2.2.2.2 = [])
    (sp : Sp E y b' z' (.ref (sK E i) :: as) M (hGo E C own b z P cs' ss' (pc + 3) lv rest)) : G E C own b z P cs ss M pc lv st0 := by
  subst hcs
  subst hss
  subst hst0
  obtain ⟨p', l, e, s, m, args, below, meth, c, Q⟩ := C
  intro K H locs ls hP hS hlv
  obtain ⟨hx, hb, hr, hlk, hml, hown, hts, htab, hK, hF1, hst, hAm, hQ⟩ := id K
  obtain ⟨⟨w1, w2, w3, w4, w5⟩, w6, w7⟩ := lk
  have hM := sp (hN_go hAm.2) l hst
  rw [hWd_nil w4] at hM
  have hrun := vx_runV (e := e) (below := below) (meth := meth) (locs := locs) (g := F0 m pc ls (as.reverse ++ .ref (sK E i) :: rest)) (As := as) (rest := rest) (R := zRoom z) (cells := cs) (slots := ss) ⟨hx, hb, hml, hown, hts⟩ hM (cwV (C := y.cls) n hts (hGood (fun w hw => by
      rcases List.mem_append.mp hw with h | h
      · rcases List.mem_cons.mp h with rfl | h
        · exact w1
        · rcases List.mem_cons.mp h with rfl | h
          · exact w6
          · rcases List.mem_cons.mp h with rfl | h
            · exact w7
            · rcases List.mem_cons.mp h with rfl | h
              · exact w2
              · cases h
      · rcases List.mem_cons.mp h with rfl | h
        · exact w3
        · exact h)) rfl rfl rfl ⟨rfl, w5⟩ ⟨hfr, hlo⟩) ⟨hF_blind, sRecv hF1 hi hy hS, fun U hU hW2 => ⟨rfl, hRep_at hU hW2 hP hK hF1 hS⟩⟩ rfl hn hlv.1 rfl (lv_room hroom) d ⟨hcm, hsm⟩
  intro T hT X
  rcases hrun T hT X with ⟨v, st₀, t, T', L, h0, X', hL, e1, e2, ⟨v', M', hv, hPm, hPt, hFr⟩, stp⟩ | ⟨q, st₀, t, T', L, Xn, ce, h0, X', hL, e1, e2, ⟨M', hPm, hPt, hFr⟩, hce, hcv, hcl, stp⟩
  · cases hv
    obtain ⟨-, -, k3⟩ := vx_keep h0 e1 hS (fun _ _ h => h) (fun _ h => h) hL hFr
    obtain ⟨t2, a1, b1⟩ := hPm K T'.heap (locs ++ L) ls (by rw [e1]; exact hPt) k3 hlv T' rfl X'
    exact ⟨t2, stp t2 a1, b1⟩
  · obtain ⟨-, -, k3⟩ := vx_keep h0 e1 hS (fun _ _ h => h) (fun _ h => h) hL hFr
    obtain ⟨t2, a1, b1⟩ := vx_out (Qc := hQc E P) (XC := hXc E P) (mc := z.2.2.1.1) (ms := z.2.2.1.2) (free := hA E) (pc := pc) (ls := ls) (rest := rest) (fun x hx2 => by rw [htab, hz] at hx2; cases hx2) hlk (by rw [e1]; exact hce) hcv hcl (fun t3 ht3 _ => ⟨M', hPm, by rw [ht3, e1]; exact hPt, k3.F ht3⟩) k3.2.2 hcm hsm T' rfl X'
    exact ⟨t2, stp.trans a1, hQ _ b1⟩
theorem G_ldcS {index : Nat} (i : Nat) (d : decode b pc = .ok (.ldc index, 2)) (hi : i < 16) (h1 : hSo i = own) (h2 : hSk i = index) (g : G E C own b z P cs ss M (pc + 2) lv (.ref (sK E i) :: st)) : G E C own b z P cs ss M pc lv st := by
  obtain ⟨p', l, e, s, m, args, below, meth, c, Q⟩ := C
  intro K H locs ls hP hS hlv
  obtain ⟨hx, hb, hr, hlk, hml, hown, hts, htab, hK, hF1, hst, hAm, hQ⟩ := id K
  subst h1; subst h2
  exact va_ldcS hx hb hown (hF1.2.1 i hi) d (g K H locs ls hP hS hlv)
theorem G_sval {i : Nat} (d : decode b pc = .ok (.getfield 9, 3)) (hi : i < 16) (ho : own = "java/lang/String") (g : G E C own b z P cs ss M (pc + 3) lv (.ref (sV E i) :: st)) : G E C own b z P cs ss M pc lv (.ref (sK E i) :: st) := by
  obtain ⟨p', l, e, s, m, args, below, meth, c, Q⟩ := C
  intro K H locs ls hP hS hlv
  obtain ⟨hx, hb, hr, hlk, hml, hown, hts, htab, hK, hF1, hst, hAm, hQ⟩ := id K
  subst ho
  exact vk_getf (n := "value") (d := "[B") (o := "java/lang/String") (ref := "java/lang/String") hx hb (hF1.2.2.1 i hi).2.2.1 hS hown (hts _ (hq 854 (by decide +kernel) rfl)) (fun x h => h) d (g K H locs ls hP hS hlv)
theorem G_scod {i : Nat} (d : decode b pc = .ok (.getfield 15, 3)) (hi : i < 16) (ho : own = "java/lang/String") (g : G E C own b z P cs ss M (pc + 3) lv (.int 0 :: st)) : G E C own b z P cs ss M pc lv (.ref (sK E i) :: st) := by
  obtain ⟨p', l, e, s, m, args, below, meth, c, Q⟩ := C
  intro K H locs ls hP hS hlv
  obtain ⟨hx, hb, hr, hlk, hml, hown, hts, htab, hK, hF1, hst, hAm, hQ⟩ := id K
  subst ho
  exact vk_getf (n := "coder") (d := "B") (o := "java/lang/String") (ref := "java/lang/String") hx hb (hF1.2.2.1 i hi).2.1 hS hown (hts _ (hq 855 (by decide +kernel) rfl)) (fun x h => h) d (g K H locs ls hP hS hlv)
theorem G_scs (d : decode b pc = .ok (.getstatic 38, 3)) (ho : own = "java/lang/String") (g : G E C own b z P cs ss M (pc + 3) lv (.int 1 :: st)) : G E C own b z P cs ss M pc lv st := by
  obtain ⟨p', l, e, s, m, args, below, meth, c, Q⟩ := C
  intro K H locs ls hP hS hlv
  obtain ⟨hx, hb, hr, hlk, hml, hown, hts, htab, hK, hF1, hst, hAm, hQ⟩ := id K
  subst ho
  exact va_gets (C := "java/lang/String") (n := "COMPACT_STRINGS") (d := "Z") (ref := "java/lang/String") hx hb hF1.1.1 hS hown (hts _ (hq 377 (by decide +kernel) rfl)) (fun x h => h) d (g K H locs ls hP hS hlv)
theorem G_sio (d : decode b pc = .ok (.getstatic 1053, 3)) (ho : own = "java/lang/String") (g : ∀ v : Value, v.category = 1 → G E C own b z P cs ss M (pc + 3) lv (v :: st)) : G E C own b z P cs ss M pc lv st := by
  obtain ⟨p', l, e, s, m, args, below, meth, c, Q⟩ := C
  intro K H locs ls hP hS hlv
  obtain ⟨hx, hb, hr, hlk, hml, hown, hts, htab, hK, hF1, hst, hAm, hQ⟩ := id K
  subst ho
  rcases hF1.1.2 with h | ⟨t, h⟩
  · exact va_gets (C := "jdk/internal/util/Preconditions") (n := "SIOOBE_FORMATTER") (d := "Ljava/util/function/BiFunction;") (ref := "jdk/internal/util/Preconditions") hx hb h hS hown (hts _ (hq 393 (by decide +kernel) rfl)) (fun x h => h) d (g _ rfl K H locs ls hP hS hlv)
  · exact va_gets (C := "jdk/internal/util/Preconditions") (n := "SIOOBE_FORMATTER") (d := "Ljava/util/function/BiFunction;") (ref := "jdk/internal/util/Preconditions") hx hb h hS hown (hts _ (hq 393 (by decide +kernel) rfl)) (fun x h => h) d (g _ rfl K H locs ls hP hS hlv)
theorem G_slen {i : Nat} (d : decode b pc = .ok (.arraylength, 1)) (hi : i < 16) (g : G E C own b z P cs ss M (pc + 1) lv (.int (nI (hSb2 i).length) :: st)) : G E C own b z P cs ss M pc lv (.ref (sV E i) :: st) := by
  obtain ⟨p', l, e, s, m, args, below, meth, c, Q⟩ := C
  intro K H locs ls hP hS hlv
  obtain ⟨hx, hb, hr, hlk, hml, hown, hts, htab, hK, hF1, hst, hAm, hQ⟩ := id K
  exact va_tlen hx hb (hF1.2.2.1 i hi).2.2.2 hS rfl d (g K H locs ls hP hS hlv)
theorem G_sbald {i a : Nat} {x : Int32} (d : decode b pc = .ok (.baload, 1)) (hi : i < 16) (hx2 : x = nI a) (ha : a < (hSb2 i).length) (hl : (hSb2 i).length < 2 ^ 31) (g : G E C own b z P cs ss M (pc + 1) lv (.int ((hSb2 i).getD a 0) :: st)) : G E C own b z P cs ss M pc lv (.int x :: .ref (sV E i) :: st) := by
  obtain ⟨p', l, e, s, m, args, below, meth, c, Q⟩ := C
  intro K H locs ls hP hS hlv
  obtain ⟨hx, hb, hr, hlk, hml, hown, hts, htab, hK, hF1, hst, hAm, hQ⟩ := id K
  subst hx2
  exact va_tb hx hb (hF1.2.2.1 i hi).2.2.2 hS (nI_in ha hl) (v := .int ((hSb2 i).getD a 0)) (by rw [nI_clamp (Nat.lt_trans ha hl)]) d (g K H locs ls hP hS hlv)
theorem G_i2c {x : Int32} (d : decode b pc = .ok (.i2c, 1)) (g : G E C own b z P cs ss M (pc + 1) lv (.int (x.toUInt32 % 65536).toInt32 :: st)) : G E C own b z P cs ss M pc lv (.int x :: st) := by
  obtain ⟨p', l, e, s, m, args, below, meth, c, Q⟩ := C
  intro K H locs ls hP hS hlv
  obtain ⟨hx, hb, hr, hlk, hml, hown, hts, htab, hK, hF1, hst, hAm, hQ⟩ := id K
  exact lv_i2c hx hb d rfl (g K H locs ls hP hS hlv)
def sch (i a : Nat) : Int32 := (hSb2 i).getD a 0
theorem sch_all : ∀ i, i < 16 → (hSb2 i).length < 100 ∧ ∀ a, a < (hSb2 i).length → ((sch i a &&& 255).toUInt32 % 65536).toInt32 = sch i a ∧ narrow .char (.int (sch i a)) = .int (sch i a) := by decide +kernel
theorem s_J0_coder {i : Nat} (hi : i < 16) (h : P (.inl (some (.int 0))) M) : Sp E yJ0_coder_7d493 cJ0_coder_7d493 zJ0_coder_7d493 [.ref (sK E i)] M P := by
  refine Sp_of (own := RJ0) (by decide) rfl rfl (Nat.le_of_ble_eq_true rfl) (fun C => ?_)
  refine G_scs dJ0_coder_7d493_0 rfl ?_
  refine G_if_eq (tgt := 13) dJ0_coder_7d493_3 (by decide) (fun c => absurd c (by decide)) (fun c => ?_)
  refine G_aload_n dJ0_coder_7d493_6 rfl ?_
  refine G_scod dJ0_coder_7d493_7 hi rfl ?_
  refine G_goto (tgt := 14) dJ0_coder_7d493_10 (by decide) ?_
  exact G_iret dJ0_coder_7d493_14 rfl rfl (Nat.le_of_ble_eq_true rfl) (Nat.le_of_ble_eq_true rfl) h
theorem s_J0_isLatin1 {i : Nat} (hi : i < 16) (h : P (.inl (some (.int 1))) M) : Sp E yJ0_isLatin1_aae02 cJ0_isLatin1_aae02 zJ0_isLatin1_aae02 [.ref (sK E i)] M P := by
  refine Sp_of (own := RJ0) (by decide) rfl rfl (Nat.le_of_ble_eq_true rfl) (fun C => ?_)
  refine G_scs dJ0_isLatin1_aae02_0 rfl ?_
  refine G_if_eq (tgt := 17) dJ0_isLatin1_aae02_3 (by decide) (fun c => absurd c (by decide)) (fun c => ?_)
  refine G_aload_n dJ0_isLatin1_aae02_6 rfl ?_
  refine G_scod dJ0_isLatin1_aae02_7 hi rfl ?_
  refine G_if_ne (tgt := 17) dJ0_isLatin1_aae02_10 (by decide) (fun c => absurd rfl c) (fun c => ?_)
  refine G_iconst (v := 1) dJ0_isLatin1_aae02_13 (by decide) ?_
  refine G_goto (tgt := 18) dJ0_isLatin1_aae02_14 (by decide) ?_
  exact G_iret dJ0_isLatin1_aae02_18 rfl rfl (Nat.le_of_ble_eq_true rfl) (Nat.le_of_ble_eq_true rfl) h
theorem s_J3_checkIndex {a n : Nat} {v : Value} (hv1 : v.category = 1) (han : a < n) (hn : n < 2 ^ 31) (h : P (.inl (some (.int (nI a)))) M) : Sp E yJ3_checkIndex_8e157 cJ3_checkIndex_8e157 zJ3_checkIndex_8e157 [.int (nI a), .int (nI n), v] M P := by
  refine Sp_of (own := RJ3) (by decide) rfl rfl ?_ (fun C => ?_)
  · cases v <;> first | exact Nat.le_of_ble_eq_true rfl | cases hv1
  refine G_iload_n (x := nI a) dJ3_checkIndex_8e157_0 rfl ?_
  refine G_if_lt (tgt := 9) dJ3_checkIndex_8e157_1 (by decide) (fun c => absurd c (nI_pos (by omega))) (fun c => ?_)
  refine G_iload_n (x := nI a) dJ3_checkIndex_8e157_4 rfl ?_
  refine G_iload_n (x := nI n) dJ3_checkIndex_8e157_5 rfl ?_
  refine G_icmp_lt (tgt := 16) dJ3_checkIndex_8e157_6 (by decide) (fun c => ?_) (fun c => absurd (nI_lt han hn) c)
  refine G_iload_n (x := nI a) dJ3_checkIndex_8e157_16 rfl ?_
  exact G_iret dJ3_checkIndex_8e157_17 rfl rfl (Nat.le_of_ble_eq_true rfl) (Nat.le_of_ble_eq_true rfl) h
theorem lk_J0_335 : hLV RJ0 335 yJ0_coder_7d493 cJ0_coder_7d493 zJ0_coder_7d493 0 := ⟨⟨(hq 373 (by decide +kernel) rfl), (hq 21 (by decide +kernel) rfl), (hq 376 (by decide +kernel) rfl), rfl, by decide, by decide, by decide +kernel⟩, (hq 374 (by decide +kernel) rfl), (hq 375 (by decide +kernel) rfl)⟩
theorem lk_J0_492 : hLV RJ0 492 yJ0_isLatin1_aae02 cJ0_isLatin1_aae02 zJ0_isLatin1_aae02 0 := ⟨⟨(hq 383 (by decide +kernel) rfl), (hq 21 (by decide +kernel) rfl), (hq 386 (by decide +kernel) rfl), rfl, by decide, by decide, by decide +kernel⟩, (hq 384 (by decide +kernel) rfl), (hq 385 (by decide +kernel) rfl)⟩
theorem lk_J0_495 : hLS RJ0 495 yJ1_charAt_3b067 cJ1_charAt_3b067 zJ1_charAt_3b067 2 := ⟨⟨(hq 387 (by decide +kernel) rfl), (hq 26 (by decide +kernel) rfl), (hq 389 (by decide +kernel) rfl), rfl, by decide, by decide, by decide +kernel⟩, (hq 388 (by decide +kernel) rfl)⟩
theorem lk_J0_1059 : hLS RJ0 1059 yJ3_checkIndex_8e157 cJ3_checkIndex_8e157 zJ3_checkIndex_8e157 3 := ⟨⟨(hq 395 (by decide +kernel) rfl), (hq 25 (by decide +kernel) rfl), (hq 397 (by decide +kernel) rfl), rfl, by decide, by decide, by decide +kernel⟩, (hq 396 (by decide +kernel) rfl)⟩
theorem lk_J1_9 : hLS RJ1 9 yJ0_checkIndex_df160 cJ0_checkIndex_df160 zJ0_checkIndex_df160 2 := ⟨⟨(hq 390 (by decide +kernel) rfl), (hq 21 (by decide +kernel) rfl), (hq 392 (by decide +kernel) rfl), rfl, by decide, by decide, by decide +kernel⟩, (hq 391 (by decide +kernel) rfl)⟩
theorem s_J0_length {i : Nat} (hi : i < 16) (h : P (.inl (some (.int (nI (hSb2 i).length)))) M) : Sp E yJ0_length_8abf5 cJ0_length_8abf5 zJ0_length_8abf5 [.ref (sK E i)] M P := by
  refine Sp_of (own := RJ0) (by decide) rfl rfl (Nat.le_of_ble_eq_true rfl) (fun C => ?_)
  refine G_aload_n dJ0_length_8abf5_0 rfl ?_
  refine G_sval dJ0_length_8abf5_1 hi rfl ?_
  refine G_slen dJ0_length_8abf5_4 hi ?_
  refine G_aload_n dJ0_length_8abf5_5 rfl ?_
  refine G_callVK (as := []) (rest := [.int (nI (hSb2 i).length)]) dJ0_length_8abf5_6 lk_J0_335 hi rfl rfl rfl (Nat.le_of_ble_eq_true rfl) (Nat.le_of_ble_eq_true rfl) (Nat.le_of_ble_eq_true rfl) rfl rfl (Nat.le_of_ble_eq_true rfl) (Nat.le_of_ble_eq_true rfl) rfl ?_
  refine s_J0_coder hi (hGo_i ?_)
  refine G_ishr dJ0_length_8abf5_9 ?_
  refine G_iret dJ0_length_8abf5_10 rfl rfl (Nat.le_of_ble_eq_true rfl) (Nat.le_of_ble_eq_true rfl) ?_
  have e : ∀ x : Int32, x >>> ((0 : Int32) &&& 31) = x := fun x => by
    apply Int32.toBitVec_inj.mp
    simp
  rw [e]
  exact h
theorem s_J0_checkIndex {a n : Nat} (han : a < n) (hn : n < 2 ^ 31) (h : P (.inl none) M) : Sp E yJ0_checkIndex_df160 cJ0_checkIndex_df160 zJ0_checkIndex_df160 [.int (nI a), .int (nI n)] M P := by
  refine Sp_of (own := RJ0) (by decide) rfl rfl (Nat.le_of_ble_eq_true rfl) (fun C => ?_)
  refine G_iload_n (x := nI a) dJ0_checkIndex_df160_0 rfl ?_
  refine G_iload_n (x := nI n) dJ0_checkIndex_df160_1 rfl ?_
  refine G_sio dJ0_checkIndex_df160_2 rfl (fun v hv => ?_)
  refine G_callS2 (as := [.int (nI a), .int (nI n), v]) (rest := []) dJ0_checkIndex_df160_5 lk_J0_1059 rfl rfl (Nat.le_of_ble_eq_true rfl) (Nat.le_of_ble_eq_true rfl) (Nat.le_of_ble_eq_true rfl) rfl rfl (Nat.le_of_ble_eq_true rfl) (Nat.le_of_ble_eq_true rfl) rfl ?_
  refine s_J3_checkIndex hv han hn (hGo_i ?_)
  refine G_pop dJ0_checkIndex_df160_8 rfl ?_
  exact G_vret dJ0_checkIndex_df160_9 rfl (Nat.le_of_ble_eq_true rfl) (Nat.le_of_ble_eq_true rfl) h
theorem s_J1_charAt {i a : Nat} (hi : i < 16) (ha : a < (hSb2 i).length) (h : P (.inl (some (.int (sch i a)))) M) : Sp E yJ1_charAt_3b067 cJ1_charAt_3b067 zJ1_charAt_3b067 [.ref (sV E i), .int (nI a)] M P := by
  have hl := (sch_all i hi).1
  refine Sp_of (own := RJ1) (by decide) rfl rfl (Nat.le_of_ble_eq_true rfl) (fun C => ?_)
  refine G_iload_n (x := nI a) dJ1_charAt_3b067_0 rfl ?_
  refine G_aload_n dJ1_charAt_3b067_1 rfl ?_
  refine G_slen dJ1_charAt_3b067_2 hi ?_
  refine G_callS2 (as := [.int (nI a), .int (nI (hSb2 i).length)]) (rest := []) dJ1_charAt_3b067_3 lk_J1_9 rfl rfl (Nat.le_of_ble_eq_true rfl) (Nat.le_of_ble_eq_true rfl) (Nat.le_of_ble_eq_true rfl) rfl rfl (Nat.le_of_ble_eq_true rfl) (Nat.le_of_ble_eq_true rfl) rfl ?_
  refine s_J0_checkIndex ha (by omega) (hGo_v ?_)
  refine G_aload_n dJ1_charAt_3b067_6 rfl ?_
  refine G_iload_n (x := nI a) dJ1_charAt_3b067_7 rfl ?_
  refine G_sbald dJ1_charAt_3b067_8 hi rfl ha (by omega) ?_
  refine G_sipush (v := 255) dJ1_charAt_3b067_9 (by decide) ?_
  refine G_iand dJ1_charAt_3b067_12 ?_
  refine G_i2c dJ1_charAt_3b067_13 ?_
  have e := (sch_all i hi).2 a ha
  rw [show ((((hSb2 i).getD a 0 &&& 255).toUInt32 % 65536).toInt32 : Int32) = sch i a from e.1]
  exact G_iret dJ1_charAt_3b067_14 rfl e.2 (Nat.le_of_ble_eq_true rfl) (Nat.le_of_ble_eq_true rfl) h
theorem s_J0_charAt {i a : Nat} (hi : i < 16) (ha : a < (hSb2 i).length) (h : P (.inl (some (.int (sch i a)))) M) : Sp E yJ0_charAt_5068e cJ0_charAt_5068e zJ0_charAt_5068e [.ref (sK E i), .int (nI a)] M P := by
  refine Sp_of (own := RJ0) (by decide) rfl rfl (Nat.le_of_ble_eq_true rfl) (fun C => ?_)
  refine G_aload_n dJ0_charAt_5068e_0 rfl ?_
  refine G_callVK (as := []) (rest := []) dJ0_charAt_5068e_1 lk_J0_492 hi rfl rfl rfl (Nat.le_of_ble_eq_true rfl) (Nat.le_of_ble_eq_true rfl) (Nat.le_of_ble_eq_true rfl) rfl rfl (Nat.le_of_ble_eq_true rfl) (Nat.le_of_ble_eq_true rfl) rfl ?_
  refine s_J0_isLatin1 hi (hGo_i ?_)
  refine G_if_eq (tgt := 16) dJ0_charAt_5068e_4 (by decide) (fun c => absurd c (by decide)) (fun c => ?_)
  refine G_aload_n dJ0_charAt_5068e_7 rfl ?_
  refine G_sval dJ0_charAt_5068e_8 hi rfl ?_
  refine G_iload_n (x := nI a) dJ0_charAt_5068e_11 rfl ?_
  refine G_callS2 (as := [.ref (sV E i), .int (nI a)]) (rest := []) dJ0_charAt_5068e_12 lk_J0_495 rfl rfl (Nat.le_of_ble_eq_true rfl) (Nat.le_of_ble_eq_true rfl) (Nat.le_of_ble_eq_true rfl) rfl rfl (Nat.le_of_ble_eq_true rfl) (Nat.le_of_ble_eq_true rfl) rfl ?_
  refine s_J1_charAt hi ha (hGo_i ?_)
  exact G_iret dJ0_charAt_5068e_15 rfl ((sch_all i hi).2 a ha).2 (Nat.le_of_ble_eq_true rfl) (Nat.le_of_ble_eq_true rfl) h
theorem lk_X6_65 : hLV RX6 65 yJ0_length_8abf5 cJ0_length_8abf5 zJ0_length_8abf5 0 := ⟨⟨(hq 369 (by decide +kernel) rfl), (hq 21 (by decide +kernel) rfl), (hq 372 (by decide +kernel) rfl), rfl, by decide, by decide, by decide +kernel⟩, (hq 370 (by decide +kernel) rfl), (hq 371 (by decide +kernel) rfl)⟩
theorem cv_X6_65 {i : Nat} (d : decode b pc = .ok (.invokevirtual 65, 3)) (hi : i < 16) (hroom : (st.map fun v => v.category).sum ≤ 8) (hfr : 2 ≤ z.2.2.2.1) (hlo : 40 ≤ z.2.2.2.2.1) (hcm : cs ≤ z.2.2.1.1) (hsm : ss ≤ z.2.2.1.2) (hz : z.2.2.2.2.2 = []) (g : G E C RX6 b z P cs ss M (pc + 3) lv (.int (nI (hSb2 i).length) :: st)) : G E C RX6 b z P cs ss M pc lv (.ref (sK E i) :: st) := G_callVK (as := []) (rest := st) d lk_X6_65 hi rfl rfl rfl hroom hfr hlo rfl rfl hcm hsm hz (s_J0_length hi (hGo_i g))
theorem lk_X6_70 : hLV RX6 70 yJ0_charAt_5068e cJ0_charAt_5068e zJ0_charAt_5068e 1 := ⟨⟨(hq 379 (by decide +kernel) rfl), (hq 21 (by decide +kernel) rfl), (hq 382 (by decide +kernel) rfl), rfl, by decide, by decide, by decide +kernel⟩, (hq 380 (by decide +kernel) rfl), (hq 381 (by decide +kernel) rfl)⟩
theorem cv_X6_70 {i a : Nat} {x : Int32} (d : decode b pc = .ok (.invokevirtual 70, 3)) (hi : i < 16) (ha : a < (hSb2 i).length) (hx : x = nI a) (hroom : (st.map fun v => v.category).sum ≤ 8) (hfr : 4 ≤ z.2.2.2.1) (hlo : 85 ≤ z.2.2.2.2.1) (hcm : cs ≤ z.2.2.1.1) (hsm : ss ≤ z.2.2.1.2) (hz : z.2.2.2.2.2 = []) (g : G E C RX6 b z P cs ss M (pc + 3) lv (.int (sch i a) :: st)) : G E C RX6 b z P cs ss M pc lv (.int x :: .ref (sK E i) :: st) := by
  subst hx
  exact G_callVK (as := [.int (nI a)]) (rest := st) d lk_X6_70 hi rfl rfl rfl hroom hfr hlo rfl rfl hcm hsm hz (s_J0_charAt hi ha (hGo_i g))
abbrev xIS : String := "java/lang/IllegalStateException"
abbrev xIA : String := "java/lang/IllegalArgumentException"
abbrev xIO : String := "java/lang/IndexOutOfBoundsException"
theorem G_wid {cs1 ss1 : Nat} (h1 : cs ≤ cs1) (h2 : ss ≤ ss1) (g : G E C own b z P cs1 ss1 M pc lv st) : G E C own b z P cs ss M pc lv st := by
  obtain ⟨p', l, e, s, m, args, below, meth, c, Q⟩ := C
  intro K H locs ls hP hS hlv
  exact W.widen h1 h2 (g K H locs ls hP hS hlv)
end HSTR
