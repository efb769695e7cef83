/-! ===== the law's feed ===== -/
section LFEED
variable {E : Ed} {M : Mm} {P : Res → Mm → Prop} {g : Gs}
theorem s8_or {a c : Nat} (ha : a < 2 ^ 23) (hc : c < 256) : (nI a <<< ((8 : Int32) &&& 31)) ||| nI c = nI (a * 256 + c) := by
  rw [show ((8 : Int32) &&& 31) = 8 by decide]
  apply Int32.toBitVec_inj.mp
  apply BitVec.eq_of_toNat_eq
  have h1 : a <<< 8 + c = a <<< 8 ||| c := Nat.shiftLeft_add_eq_or_of_lt hc a
  rw [Nat.shiftLeft_eq] at h1
  simp [nI, Int32.toBitVec_or, Int32.toBitVec_shiftLeft, Nat.shiftLeft_eq]
  rw [Nat.mod_eq_of_lt (a := c) (by omega), Nat.mod_eq_of_lt (a := a * 256 + c) (by omega), Nat.mod_eq_of_lt (a := a * 256) (by omega)]
  exact h1.symm
theorem b4_24 {V : Nat} (hV : V < 2 ^ 31) : ((nI V).toUInt32 >>> ((24 : Int32).toUInt32 &&& Int32.toUInt32 31)).toInt32 &&& 255 = nI (V / 2 ^ 24 % 256) := by
  rw [show ((24 : Int32).toUInt32 &&& Int32.toUInt32 31) = 24 by decide]
  apply Int32.toBitVec_inj.mp
  apply BitVec.eq_of_toNat_eq
  have e : ((nI V).toUInt32 >>> (24 : UInt32)).toInt32.toBitVec.toNat = V / 2 ^ 24 := by
    show ((nI V).toUInt32 >>> (24 : UInt32)).toNat = _
    rw [UInt32.toNat_shiftRight]
    have : (nI V).toUInt32.toNat = V := by
      show (BitVec.ofNat 32 V).toNat = V
      simp
      omega
    rw [this, Nat.shiftRight_eq_div_pow]
    rfl
  have e2 : (nI (V / 2 ^ 24 % 256)).toBitVec.toNat = V / 2 ^ 24 % 256 := by
    show (BitVec.ofNat 32 _).toNat = _
    simp
    omega
  rw [Int32.toBitVec_and, BitVec.toNat_and, e, e2]
  exact Nat.and_two_pow_sub_one_eq_mod _ 8
theorem b4_16 {V : Nat} (hV : V < 2 ^ 31) : ((nI V).toUInt32 >>> ((16 : Int32).toUInt32 &&& Int32.toUInt32 31)).toInt32 &&& 255 = nI (V / 2 ^ 16 % 256) := by
  rw [show ((16 : Int32).toUInt32 &&& Int32.toUInt32 31) = 16 by decide]
  apply Int32.toBitVec_inj.mp
  apply BitVec.eq_of_toNat_eq
  have e : ((nI V).toUInt32 >>> (16 : UInt32)).toInt32.toBitVec.toNat = V / 2 ^ 16 := by
    show ((nI V).toUInt32 >>> (16 : UInt32)).toNat = _
    rw [UInt32.toNat_shiftRight]
    have : (nI V).toUInt32.toNat = V := by
      show (BitVec.ofNat 32 V).toNat = V
      simp
      omega
    rw [this, Nat.shiftRight_eq_div_pow]
    rfl
  have e2 : (nI (V / 2 ^ 16 % 256)).toBitVec.toNat = V / 2 ^ 16 % 256 := by
    show (BitVec.ofNat 32 _).toNat = _
    simp
    omega
  rw [Int32.toBitVec_and, BitVec.toNat_and, e, e2]
  exact Nat.and_two_pow_sub_one_eq_mod _ 8
theorem b4_8 {V : Nat} (hV : V < 2 ^ 31) : ((nI V).toUInt32 >>> ((8 : Int32).toUInt32 &&& Int32.toUInt32 31)).toInt32 &&& 255 = nI (V / 2 ^ 8 % 256) := by
  rw [show ((8 : Int32).toUInt32 &&& Int32.toUInt32 31) = 8 by decide]
  apply Int32.toBitVec_inj.mp
  apply BitVec.eq_of_toNat_eq
  have e : ((nI V).toUInt32 >>> (8 : UInt32)).toInt32.toBitVec.toNat = V / 2 ^ 8 := by
    show ((nI V).toUInt32 >>> (8 : UInt32)).toNat = _
    rw [UInt32.toNat_shiftRight]
    have : (nI V).toUInt32.toNat = V := by
      show (BitVec.ofNat 32 V).toNat = V
      simp
      omega
    rw [this, Nat.shiftRight_eq_div_pow]
    rfl
  have e2 : (nI (V / 2 ^ 8 % 256)).toBitVec.toNat = V / 2 ^ 8 % 256 := by
    show (BitVec.ofNat 32 _).toNat = _
    simp
    omega
  rw [Int32.toBitVec_and, BitVec.toNat_and, e, e2]
  exact Nat.and_two_pow_sub_one_eq_mod _ 8
theorem b4_0 {V : Nat} (hV : V < 2 ^ 31) : ((nI V).toUInt32 >>> ((0 : Int32).toUInt32 &&& Int32.toUInt32 31)).toInt32 &&& 255 = nI (V / 2 ^ 0 % 256) := by
  rw [show ((0 : Int32).toUInt32 &&& Int32.toUInt32 31) = 0 by decide]
  apply Int32.toBitVec_inj.mp
  apply BitVec.eq_of_toNat_eq
  have e : ((nI V).toUInt32 >>> (0 : UInt32)).toInt32.toBitVec.toNat = V / 2 ^ 0 := by
    show ((nI V).toUInt32 >>> (0 : UInt32)).toNat = _
    rw [UInt32.toNat_shiftRight]
    have : (nI V).toUInt32.toNat = V := by
      show (BitVec.ofNat 32 V).toNat = V
      simp
      omega
    rw [this, Nat.shiftRight_eq_div_pow]
    rfl
  have e2 : (nI (V / 2 ^ 0 % 256)).toBitVec.toNat = V / 2 ^ 0 % 256 := by
    show (BitVec.ofNat 32 _).toNat = _
    simp
    omega
  rw [Int32.toBitVec_and, BitVec.toNat_and, e, e2]
  exact Nat.and_two_pow_sub_one_eq_mod _ 8
theorem by4_of {a b c d : Nat} (ha : a < 128) (hb : b < 128) (hc : c < 128) (hd : d < 128) : by4 (nI (((a * 256 + b) * 256 + c) * 256 + d)) = [nI a, nI b, nI c, nI d] := by
  unfold by4
  generalize hV : ((a * 256 + b) * 256 + c) * 256 + d = V
  rw [b4_24 (V := V) (by omega), b4_16 (V := V) (by omega), b4_8 (V := V) (by omega), b4_0 (V := V) (by omega), show V / 2 ^ 24 % 256 = a by omega, show V / 2 ^ 16 % 256 = b by omega, show V / 2 ^ 8 % 256 = c by omega, show V / 2 ^ 0 % 256 = d by omega]
theorem u_trunc {n : Nat} (hn : n ≤ g.L.length) (hl : g.L.length ≤ 500) (hC : CG M g) (h : ∀ M', CG M' (setL g (g.L.take n)) → M'.2 = M.2 → P (.inl (some (.int (nI n)))) M') : Sp E yX8_truncateText cX8_truncateText zX8_truncateText [.ref (ad E 0 0 0), .int (nI n)] M P := by
  have e : qTrunc g (nI n) = (setL g (g.L.take n), (0, nI n)) := by
    unfold qTrunc
    rw [if_pos (show inR (nI n) 0 (nI g.L.length) from ⟨nI_pos' (by omega), Int32.not_lt.mp (nI_nlt hn (by omega))⟩)]
    rw [show tn (nI n) = n from nI_clamp (by omega)]
  refine s_X8_truncateText hC (fun M' h1 h2 => ?_)
  rw [e] at h1 ⊢
  exact h M' h1 h2.1
theorem u_append {x : Int32} (hl : g.L.length ≤ 496) (hC : CG M g) (h : ∀ M', CG M' (setL g (g.L ++ by4 x)) → M'.2 = M.2 → P (.inl (some (.int (nI (g.L.length + 4))))) M') : Sp E yX8_appendText cX8_appendText zX8_appendText [.ref (ad E 0 0 0), .int x] M P := by
  have e : qAppend g x = (setL g (g.L ++ by4 x), (0, nI (g.L.length + 4))) := by
    unfold qAppend
    rw [if_neg (by omega)]
  refine s_X8_appendText hC (fun M' h1 h2 => ?_)
  rw [e] at h1 ⊢
  exact h M' h1 h2.1
/-- the text, filled up with blanks -/
def pad (L : List Int32) (i : Nat) : Int32 := if i < L.length then L.getD i 0 else 32
def pT (L : List Int32) (j : Nat) : List Int32 := (List.range (4 * j)).map (pad L)
theorem pT_len {L : List Int32} {j : Nat} : (pT L j).length = 4 * j := by simp [pT]
theorem pT_add {L : List Int32} {j : Nat} : pT L (j + 1) = pT L j ++ [pad L (4 * j), pad L (4 * j + 1), pad L (4 * j + 2), pad L (4 * j + 3)] := by
  unfold pT
  rw [show 4 * (j + 1) = 4 * j + 1 + 1 + 1 + 1 by omega, List.range_succ, List.range_succ, List.range_succ, List.range_succ]
  simp
theorem pT_take {L : List Int32} {j : Nat} (h : L.length ≤ 4 * j) : (pT L j).take L.length = L := by
  apply List.ext_getElem?
  intro i
  by_cases q : i < L.length
  · rw [List.getElem?_take_of_lt q]
    unfold pT
    rw [List.getElem?_map, List.getElem?_range (by omega)]
    show some (pad L i) = _
    unfold pad
    rw [if_pos q, List.getD_eq_getElem?_getD, List.getElem?_eq_getElem q]
    rfl
  · rw [List.getElem?_eq_none (by rw [List.length_take, pT_len]; omega), List.getElem?_eq_none (by omega)]
/-- four letters as one number -/
def acc4 (c : Nat → Nat) (k : Nat) : Nat → Nat
  | 0 => 0
  | i + 1 => acc4 c k i * 256 + c (k + i)
theorem acc4_lt {c : Nat → Nat} {k : Nat} (hc : ∀ i, c i < 128) : ∀ i, i < 4 → acc4 c k i < 2 ^ 23
  | 0, _ => by show 0 < 2 ^ 23; decide
  | 1, _ => by
    have h0 := hc (k + 0)
    show 0 * 256 + c (k + 0) < 2 ^ 23
    omega
  | 2, _ => by
    have h0 := hc (k + 0)
    have h1 := hc (k + 1)
    show (0 * 256 + c (k + 0)) * 256 + c (k + 1) < 2 ^ 23
    omega
  | 3, _ => by
    have h0 := hc (k + 0)
    have h1 := hc (k + 1)
    have h2 := hc (k + 2)
    show ((0 * 256 + c (k + 0)) * 256 + c (k + 1)) * 256 + c (k + 2) < 2 ^ 23
    omega
theorem l_feed {T : va_W} {s w : Nat} {f : Nat → Int32} {L : List Int32} (hC : CG M g) (hg : g.L = []) (hX : xOk E M.2) (hM : M.2 = stX E T s w L.length f) (hf : ∀ i, i < L.length → f i = L.getD i 0) (hL : L.length ≤ 190) (hc0 : ∀ i, i < L.length → ∃ c, c < 128 ∧ L.getD i 0 = nI c) (h : ∀ M', CG M' (setL g L) → M'.2 = M.2 → P (.inl none) M') : Sp E yL_feed cL_feed zL_feed [.ref (ad E 0 0 0), .ref s] M P := by
  obtain ⟨c, hcs⟩ : ∃ c : Nat → Nat, ∀ i, c i < 128 ∧ pad L i = nI (c i) := by
    refine ⟨fun i => (pad L i).toNatClampNeg, fun i => ?_⟩
    have : ∃ c, c < 128 ∧ pad L i = nI c := by
      unfold pad
      split
      · exact hc0 i (by assumption)
      · exact ⟨32, by decide, rfl⟩
    obtain ⟨c, h1, h2⟩ := this
    show (pad L i).toNatClampNeg < 128 ∧ pad L i = nI ((pad L i).toNatClampNeg)
    rw [h2, nI_clamp (by omega)]
    exact ⟨h1, rfl⟩
  refine Sp_of (own := RL) (by decide) rfl rfl (Nat.le_of_ble_eq_true rfl) (fun C => ?_)
  refine G_aload_n dL_feed_0 rfl ?_
  refine G_iconst (v := 0) dL_feed_1 (by decide) ?_
  refine cv_L_8 (cs' := 0) (ss' := 0) dL_feed_2  (Nat.le_of_ble_eq_true rfl) (Nat.le_of_ble_eq_true rfl) (Nat.le_of_ble_eq_true rfl) rfl rfl (Nat.le_of_ble_eq_true rfl) (Nat.le_of_ble_eq_true rfl) rfl ?_
  refine u_trunc (n := 0) (Nat.zero_le _) (by rw [hg]; decide) hC (fun M1 hC1 hE1 => hGo_i ?_)
  rw [List.take_zero] at hC1
  refine G_istore_n dL_feed_5 (Nat.le_of_ble_eq_true rfl) ?_
  refine G_iconst (v := 0) dL_feed_6 (by decide) ?_
  refine G_istore_n dL_feed_7 (Nat.le_of_ble_eq_true rfl) ?_
  obtain ⟨J, hJ⟩ : ∃ J, J = (L.length + 3) / 4 := ⟨_, rfl⟩
  refine G_lv (lv' := [(0, .ref (ad E 0 0 0)), (1, .ref s), (3, .int (nI (4 * 0)))]) ⟨rfl, rfl, rfl, trivial⟩ ?_
  have key : ∀ M1, CG M1 (setL g (pT L 0)) → M1.2 = M.2 → G E C RL cL_feed zL_feed P 0 0 M1 8 [(0, .ref (ad E 0 0 0)), (1, .ref s), (3, .int (nI (4 * 0)))] [] := by
    refine up0 (c := J) (H := fun j => ∀ M1, CG M1 (setL g (pT L j)) → M1.2 = M.2 → G E C RL cL_feed zL_feed P 0 0 M1 8 [(0, .ref (ad E 0 0 0)), (1, .ref s), (3, .int (nI (4 * j)))] []) (fun M1 hC1 hE1 => ?_) (fun j hj ih M1 hC1 hE1 => ?_)
    · have hX1 : xOk E M1.2 := hE1 ▸ hX
      have hM1 : M1.2 = stX E T s w L.length f := hE1.trans hM
      refine G_iload_n dL_feed_8 rfl ?_
      refine G_aload_n dL_feed_9 rfl ?_
      refine G_callVX (n := 0) (T := TJ0) (N := 4) (y := yJ0_length_8abf5) (b' := cJ0_length_8abf5) (z' := zJ0_length_8abf5) (as := []) (rest := [.int (nI (4 * J))]) (cs' := 0) (ss' := 0) hX1 (stX_at0 hM1) dL_feed_10 ⟨⟨(hqx 610 (by decide +kernel) rfl), (hqx 21 (by decide +kernel) rfl), (hqx 372 (by decide +kernel) rfl), rfl, by decide, by decide, by decide +kernel⟩, (hqx 370 (by decide +kernel) rfl), (hqx 371 (by decide +kernel) rfl)⟩ rfl rfl rfl (Nat.le_of_ble_eq_true rfl) (Nat.le_of_ble_eq_true rfl) (Nat.le_of_ble_eq_true rfl) rfl rfl (Nat.le_of_ble_eq_true rfl) (Nat.le_of_ble_eq_true rfl) rfl ?_
      refine x_length hX1 hM1 (hGo_i ?_)
      refine G_icmp_ge (tgt := 77) dL_feed_13 (by decide) (fun c13 => ?_) (fun c13 => ?_)
      · refine G_aload_n dL_feed_77 rfl ?_
        refine G_aload_n dL_feed_78 rfl ?_
        refine G_callVX (n := 0) (T := TJ0) (N := 4) (y := yJ0_length_8abf5) (b' := cJ0_length_8abf5) (z' := zJ0_length_8abf5) (as := []) (rest := [.ref (ad E 0 0 0)]) (cs' := 0) (ss' := 0) hX1 (stX_at0 hM1) dL_feed_79 ⟨⟨(hqx 610 (by decide +kernel) rfl), (hqx 21 (by decide +kernel) rfl), (hqx 372 (by decide +kernel) rfl), rfl, by decide, by decide, by decide +kernel⟩, (hqx 370 (by decide +kernel) rfl), (hqx 371 (by decide +kernel) rfl)⟩ rfl rfl rfl (Nat.le_of_ble_eq_true rfl) (Nat.le_of_ble_eq_true rfl) (Nat.le_of_ble_eq_true rfl) rfl rfl (Nat.le_of_ble_eq_true rfl) (Nat.le_of_ble_eq_true rfl) rfl ?_
        refine x_length hX1 hM1 (hGo_i ?_)
        refine cv_L_8 (cs' := 0) (ss' := 0) dL_feed_82  (Nat.le_of_ble_eq_true rfl) (Nat.le_of_ble_eq_true rfl) (Nat.le_of_ble_eq_true rfl) rfl rfl (Nat.le_of_ble_eq_true rfl) (Nat.le_of_ble_eq_true rfl) rfl ?_
        refine u_trunc (n := L.length) (by show L.length ≤ (pT L J).length; rw [pT_len]; omega) (by show (pT L J).length ≤ 500; rw [pT_len]; omega) hC1 (fun M2 hC2 hE2 => hGo_i ?_)
        have e9 : setL (setL g (pT L J)) ((setL g (pT L J)).L.take L.length) = setL g L := by
          show setL g ((pT L J).take L.length) = setL g L
          rw [pT_take (by omega)]
        rw [e9] at hC2
        refine G_istore_n dL_feed_85 (Nat.le_of_ble_eq_true rfl) ?_
        refine G_vret dL_feed_86 rfl (Nat.le_of_ble_eq_true rfl) (Nat.le_of_ble_eq_true rfl) ?_
        exact h M2 hC2 (hE2.trans hE1)
      · exact absurd c13 (fun z => z (Int32.not_lt.mp (nI_nlt (by omega) (by omega))))
    · have hX1 : xOk E M1.2 := hE1 ▸ hX
      have hM1 : M1.2 = stX E T s w L.length f := hE1.trans hM
      refine G_iload_n dL_feed_8 rfl ?_
      refine G_aload_n dL_feed_9 rfl ?_
      refine G_callVX (n := 0) (T := TJ0) (N := 4) (y := yJ0_length_8abf5) (b' := cJ0_length_8abf5) (z' := zJ0_length_8abf5) (as := []) (rest := [.int (nI (4 * j))]) (cs' := 0) (ss' := 0) hX1 (stX_at0 hM1) dL_feed_10 ⟨⟨(hqx 610 (by decide +kernel) rfl), (hqx 21 (by decide +kernel) rfl), (hqx 372 (by decide +kernel) rfl), rfl, by decide, by decide, by decide +kernel⟩, (hqx 370 (by decide +kernel) rfl), (hqx 371 (by decide +kernel) rfl)⟩ rfl rfl rfl (Nat.le_of_ble_eq_true rfl) (Nat.le_of_ble_eq_true rfl) (Nat.le_of_ble_eq_true rfl) rfl rfl (Nat.le_of_ble_eq_true rfl) (Nat.le_of_ble_eq_true rfl) rfl ?_
      refine x_length hX1 hM1 (hGo_i ?_)
      refine G_icmp_ge (tgt := 77) dL_feed_13 (by decide) (fun c13 => ?_) (fun c13 => ?_)
      · exact absurd c13 (nI_ge (by omega) (by omega))
      · refine G_iconst (v := 0) dL_feed_16 (by decide) ?_
        refine G_istore dL_feed_17 (Nat.le_of_ble_eq_true rfl) ?_
        refine G_iload_n dL_feed_19 rfl ?_
        refine G_istore dL_feed_20 (Nat.le_of_ble_eq_true rfl) ?_
        refine G_lv (lv' := [(0, .ref (ad E 0 0 0)), (1, .ref s), (3, .int (nI (4 * j))), (4, .int (nI (acc4 c (4 * j) 0))), (5, .int (nI (4 * j + 0)))]) ⟨rfl, rfl, rfl, rfl, rfl, trivial⟩ ?_
        refine up0 (c := 4) (H := fun i => G E C RL cL_feed zL_feed P 0 0 M1 22 [(0, .ref (ad E 0 0 0)), (1, .ref s), (3, .int (nI (4 * j))), (4, .int (nI (acc4 c (4 * j) i))), (5, .int (nI (4 * j + i)))] []) ?_ (fun i hi ih2 => ?_)
        · refine G_iload dL_feed_22 rfl ?_
          refine G_iload_n dL_feed_24 rfl ?_
          refine G_iconst (v := 4) dL_feed_25 (by decide) ?_
          refine G_iadd dL_feed_26 ?_
          rw [show nI (4 * j) + 4 = nI (4 * j + 4) from nI_add (4 * j) 4]
          refine G_icmp_ge (tgt := 64) dL_feed_27 (by decide) (fun c27 => ?_) (fun c27 => ?_)
          · refine G_aload_n dL_feed_64 rfl ?_
            refine G_iload dL_feed_65 rfl ?_
            refine cv_L_24 (cs' := 0) (ss' := 0) dL_feed_67  (Nat.le_of_ble_eq_true rfl) (Nat.le_of_ble_eq_true rfl) (Nat.le_of_ble_eq_true rfl) rfl rfl (Nat.le_of_ble_eq_true rfl) (Nat.le_of_ble_eq_true rfl) rfl ?_
            refine u_append (by show (pT L j).length ≤ 496; rw [pT_len]; omega) hC1 (fun M2 hC2 hE2 => hGo_i ?_)
            have e9 : setL (setL g (pT L j)) ((setL g (pT L j)).L ++ by4 (nI (acc4 c (4 * j) 4))) = setL g (pT L (j + 1)) := by
              show setL g (pT L j ++ by4 (nI ((((0 * 256 + c (4 * j + 0)) * 256 + c (4 * j + 1)) * 256 + c (4 * j + 2)) * 256 + c (4 * j + 3)))) = _
              rw [show 0 * 256 + c (4 * j + 0) = c (4 * j + 0) by omega, by4_of (hcs _).1 (hcs _).1 (hcs _).1 (hcs _).1, ← (hcs _).2, ← (hcs _).2, ← (hcs _).2, ← (hcs _).2, pT_add]
              rfl
            rw [e9] at hC2
            refine G_istore_n dL_feed_70 (Nat.le_of_ble_eq_true rfl) ?_
            refine G_iinc (v := 4) dL_feed_71 rfl (Nat.le_of_ble_eq_true rfl) (by decide) ?_
            refine G_goto (tgt := 8) dL_feed_74 (by decide) ?_
            exact G_lv2 (ih M2 hC2 (hE2.trans hE1)) ⟨rfl, rfl, lvi (nI_add (4 * j) 4), trivial⟩
          · exact absurd c27 (fun z => z (Int32.le_refl _))
        · have ha := acc4_lt (k := 4 * j) (fun i => (hcs i).1) i hi
          have fin : G E C RL cL_feed zL_feed P 0 0 M1 55 [(0, .ref (ad E 0 0 0)), (1, .ref s), (3, .int (nI (4 * j))), (4, .int (nI (acc4 c (4 * j) i))), (5, .int (nI (4 * j + i)))] [.int (nI (c (4 * j + i))), .int (nI (acc4 c (4 * j) i) <<< ((8 : Int32) &&& 31))] := by
            refine G_ior dL_feed_55 ?_
            rw [s8_or ha (by have := (hcs (4 * j + i)).1; omega)]
            refine G_istore dL_feed_56 (Nat.le_of_ble_eq_true rfl) ?_
            refine G_iinc (v := 1) dL_feed_58 rfl (Nat.le_of_ble_eq_true rfl) (by decide) ?_
            refine G_goto (tgt := 22) dL_feed_61 (by decide) ?_
            exact G_lv2 ih2 ⟨rfl, rfl, rfl, rfl, lvi (nI_1 _), trivial⟩
          refine G_iload dL_feed_22 rfl ?_
          refine G_iload_n dL_feed_24 rfl ?_
          refine G_iconst (v := 4) dL_feed_25 (by decide) ?_
          refine G_iadd dL_feed_26 ?_
          rw [show nI (4 * j) + 4 = nI (4 * j + 4) from nI_add (4 * j) 4]
          refine G_icmp_ge (tgt := 64) dL_feed_27 (by decide) (fun c27 => ?_) (fun c27 => ?_)
          · exact absurd c27 (nI_ge (by omega) (by omega))
          · refine G_iload dL_feed_30 rfl ?_
            refine G_bipush (v := 8) dL_feed_32 (by decide) ?_
            refine G_ishl dL_feed_34 ?_
            refine G_iload dL_feed_35 rfl ?_
            refine G_aload_n dL_feed_37 rfl ?_
            refine G_callVX (n := 0) (T := TJ0) (N := 4) (y := yJ0_length_8abf5) (b' := cJ0_length_8abf5) (z' := zJ0_length_8abf5) (as := []) (rest := [.int (nI (4 * j + i)), .int (nI (acc4 c (4 * j) i) <<< ((8 : Int32) &&& 31))]) (cs' := 0) (ss' := 0) hX1 (stX_at0 hM1) dL_feed_38 ⟨⟨(hqx 610 (by decide +kernel) rfl), (hqx 21 (by decide +kernel) rfl), (hqx 372 (by decide +kernel) rfl), rfl, by decide, by decide, by decide +kernel⟩, (hqx 370 (by decide +kernel) rfl), (hqx 371 (by decide +kernel) rfl)⟩ rfl rfl rfl (Nat.le_of_ble_eq_true rfl) (Nat.le_of_ble_eq_true rfl) (Nat.le_of_ble_eq_true rfl) rfl rfl (Nat.le_of_ble_eq_true rfl) (Nat.le_of_ble_eq_true rfl) rfl ?_
            refine x_length hX1 hM1 (hGo_i ?_)
            refine G_icmp_ge (tgt := 53) dL_feed_41 (by decide) (fun c41 => ?_) (fun c41 => ?_)
            · have q : ¬ 4 * j + i < L.length := fun z => nI_ge z (by omega) c41
              have e : pad L (4 * j + i) = 32 := by
                unfold pad
                rw [if_neg q]
              refine G_bipush (v := 32) dL_feed_53 (by decide) ?_
              rw [show (32 : Int32) = nI (c (4 * j + i)) from e.symm.trans (hcs _).2]
              exact G_lv2 fin ⟨rfl, rfl, rfl, rfl, rfl, trivial⟩
            · have q : 4 * j + i < L.length := by
                rcases Nat.lt_or_ge (4 * j + i) L.length with z | z
                · exact z
                · exact absurd (Int32.not_lt.mp (nI_nlt z (by omega))) c41
              have e : f (4 * j + i) = nI (c (4 * j + i)) := by
                rw [hf _ q, ← (hcs (4 * j + i)).2]
                unfold pad
                rw [if_pos q]
              refine G_aload_n dL_feed_44 rfl ?_
              refine G_iload dL_feed_45 rfl ?_
              refine G_callVX (n := 1) (T := TJ0) (N := 4) (y := yJ0_charAt_5068e) (b' := cJ0_charAt_5068e) (z' := zJ0_charAt_5068e) (as := [.int (nI (4 * j + i))]) (rest := [.int (nI (acc4 c (4 * j) i) <<< ((8 : Int32) &&& 31))]) (cs' := 0) (ss' := 0) hX1 (stX_at0 hM1) dL_feed_47 ⟨⟨(hqx 611 (by decide +kernel) rfl), (hqx 21 (by decide +kernel) rfl), (hqx 382 (by decide +kernel) rfl), rfl, by decide, by decide, by decide +kernel⟩, (hqx 380 (by decide +kernel) rfl), (hqx 381 (by decide +kernel) rfl)⟩ rfl rfl rfl (Nat.le_of_ble_eq_true rfl) (Nat.le_of_ble_eq_true rfl) (Nat.le_of_ble_eq_true rfl) rfl rfl (Nat.le_of_ble_eq_true rfl) (Nat.le_of_ble_eq_true rfl) rfl ?_
              refine x_charAt hX1 hM1 q (by omega) (hcs _).1 e (hGo_i ?_)
              refine G_goto (tgt := 55) dL_feed_50 (by decide) ?_
              exact G_lv2 fin ⟨rfl, rfl, rfl, rfl, rfl, trivial⟩
  exact key M1 hC1 hE1
end LFEED
