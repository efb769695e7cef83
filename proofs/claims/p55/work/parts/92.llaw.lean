/-! ===== the start's state; the law from its constructors' end on ===== -/
section LLAW
variable {E : Ed} {M : Mm} {P : Res → Mm → Prop} {g : Gs} {C : Cx}
def f0 (p t : Nat) : Int32 := (([[0, 0, 8, 3, 0, 30], [0, 1, 2, 9, 0, 30], [1, 0, 5, 5, 1, 30], [3, 3, 7, 7, 0, 30], [3, 4, 1, 6, 1, 30]] : List (List Int32)).getD p []).getD t 0
def A0 : Ab := (5, fun t => if t = 2 then 30 else if t = 3 then 4 else if t = 4 then 2 else if t = 5 then 1 else 0, f0, fun _ => [], [])
def g0 : Gs := (A0, [], fun _ => none, fun _ => 0, [], (0, -1), [])
theorem CR0 : CR MA 0 A0 := by
  refine ⟨⟨by decide +kernel, by decide⟩, (by decide +kernel : ∀ t, t < 5 → MA.1 7 0 0 (4 + t) = A0.g (1 + t)), (by decide +kernel : ∀ t, t < 10 → MA.1 11 0 0 t = A0.g (7 + t)), (by decide +kernel : ∀ p, p < 12 → MA.1 12 0 p 0 = nI p), (by decide +kernel : ∀ p, p < 5 → ∀ t, t < 10 → MA.1 12 0 p (pF t) = A0.f p t), fun q hq => ⟨(by decide +kernel : ∀ q, q < 10 → MA.1 13 0 q 1 = nI 0) q hq, Nat.zero_le _, fun k hk => absurd hk (Nat.not_lt_zero k)⟩, by decide +kernel, Nat.zero_le _, fun i hi => absurd hi (Nat.not_lt_zero i)⟩
theorem CG0 : CG MA g0 := by
  refine ⟨CR0, ⟨Nat.zero_le _, by decide +kernel, (by decide +kernel : ∀ r, r < 6 → ∀ p, p < 12 → MA.1 12 (2 + r) p 0 = nI p), 0, by decide, by decide +kernel, fun i hi => absurd hi (Nat.not_lt_zero i)⟩, fun s hs => ⟨(by decide +kernel : ∀ s, s < 2 → ∀ p, p < 12 → MA.1 12 (8 + s) p 0 = nI p) s hs, Or.inl ⟨rfl, (by decide +kernel : ∀ s, s < 2 → MA.1 18 0 0 s = 0) s hs⟩⟩, fun r h1 h2 => (by decide +kernel : ∀ r, r < 11 → MA.1 19 0 0 r = 0) r (by omega), ⟨⟨by decide +kernel, Nat.zero_le _, fun k hk => absurd hk (Nat.not_lt_zero k)⟩, by decide +kernel, by decide +kernel⟩, ⟨by decide +kernel, Nat.zero_le _, fun k hk => absurd hk (Nat.not_lt_zero k)⟩, (by decide +kernel : ∀ p, p < 12 → MA.1 12 1 p 0 = nI p)⟩
theorem Okg0 : Okg g0 := by
  refine ⟨⟨⟨by decide, by decide⟩, ⟨by decide, by decide, by decide⟩, fun p hp => ⟨(by decide +kernel : ∀ p, p < 5 → 1 ≤ f0 p 2 ∧ f0 p 2 ≤ 9) p hp, (by decide +kernel : ∀ p, p < 5 → 1 ≤ f0 p 3 ∧ f0 p 3 ≤ 9) p hp, (by decide +kernel : ∀ p, p < 5 → f0 p 4 = 0 ∨ f0 p 4 = 1) p hp, (by decide +kernel : ∀ p, p < 5 → 0 ≤ f0 p 8) p hp, fun _ => false, (by decide +kernel : ∀ p, p < 5 → f0 p 9 = bs (fun _ => false) 5) p hp⟩, fun q hq => ⟨Nat.zero_le _, fun k hk => absurd hk (Nat.not_lt_zero k)⟩, Nat.zero_le _, fun i hi => absurd hi (Nat.not_lt_zero i), fun i k hi => absurd hi (Nat.not_lt_zero i)⟩, fun i hi => absurd hi (Nat.not_lt_zero i), fun s hs B h => by cases h⟩
theorem Gd0 : Gd A0 := by
  have hb : ∀ p, p < 5 → (∃ r t, r ≤ 5 ∧ t ≤ 5 ∧ f0 p 0 = nI r ∧ f0 p 1 = nI t) := by
    intro p hp
    rcases (show p = 0 ∨ p = 1 ∨ p = 2 ∨ p = 3 ∨ p = 4 by omega) with rfl | rfl | rfl | rfl | rfl
    · exact ⟨0, 0, by decide, by decide, rfl, rfl⟩
    · exact ⟨0, 1, by decide, by decide, rfl, rfl⟩
    · exact ⟨1, 0, by decide, by decide, rfl, rfl⟩
    · exact ⟨3, 3, by decide, by decide, rfl, rfl⟩
    · exact ⟨3, 4, by decide, by decide, rfl, rfl⟩
  exact ⟨fun i hi => absurd hi (Nat.not_lt_zero i), hb, fun p q hp hq => (by decide +kernel : ∀ p, p < 5 → ∀ q, q < 5 → f0 p 0 = f0 q 0 → f0 p 1 = f0 q 1 → p = q) p hp q hq, by decide +kernel, fun p hp => (by decide +kernel : ∀ p, p < 5 → f0 p 8 ≤ 9) p hp⟩
theorem Bd0 : Bd 0 A0 := ⟨0, 0, 0, 0, ⟨rfl, rfl, rfl, rfl⟩, Nat.le_refl _, Nat.le_refl _, Nat.le_refl _, Nat.le_refl _⟩
theorem u_save1 (hC : CG M g) (hO : Okg g) (h : ∀ M', CG M' (setS g 1) → M'.2 = M.2 → P (.inl none) M') : Sp E yX8_save cX8_save zX8_save [.ref (ad E 0 0 0), .int 1] M P := by
  have e : qSave g 1 = (setS g 1, (0, 0)) := by
    unfold qSave
    rw [if_pos (show inR 1 0 1 from ⟨by decide, by decide⟩)]
    rfl
  refine s_X8_save hC hO (fun M' h1 h2 => ?_)
  rw [e] at h1 ⊢
  exact h M' h1 h2.1
theorem u_restore1 {B : Ab} (hC : CG M g) (hO : Okg g) (hB : g.S 1 = some B) (h : ∀ M', CG M' (B, [], g.2.2) → Okg (B, [], g.2.2) → M'.2 = M.2 → P (.inl none) M') : Sp E yX8_restore cX8_restore zX8_restore [.ref (ad E 0 0 0), .int 1] M P := by
  have e : qRestore g 1 = ((B, [], g.2.2), (0, 0)) := by
    unfold qRestore
    rw [if_pos (show inR 1 0 1 from ⟨by decide, by decide⟩)]
    show (match g.S 1 with | none => thr g 2 | some B => ((B, [], g.2.2), (0, 0))) = _
    rw [hB]
  have ho := qRestore_ok (x := 1) hO
  rw [e] at ho
  refine s_X8_restore hC hO (fun M' h1 h2 => ?_)
  rw [e] at h1 ⊢
  exact h M' h1 ho h2.1
theorem u_undo0 (hC : CG M g) (hO : Okg g) (hU : g.U = []) (h : ∀ M', CG M' g → M'.2 = M.2 → P (.inl (some (.int (-1)))) M') : Sp E yX8_undo cX8_undo zX8_undo [.ref (ad E 0 0 0)] M P := by
  have e : sUndo g = (g, -1) := by
    unfold sUndo
    rw [if_pos (by rw [hU]; rfl)]
  refine s_X8_undo hC hO (fun M' h1 h2 => ?_)
  rw [e] at h1 ⊢
  exact h M' h1 h2.1
theorem sLoad_good {v : Int32} {A1 : Ab} {S : Tks × Ab} (h : setupV g.L v A1 = S) (c : S.1.code = 0) : sLoad g v A1 = ((S.2, [], g.S, g.R, [], (S.1.code, S.1.pos), g.W), nI S.2.n) := by
  unfold sLoad
  rw [h, if_pos c]
theorem u_load1 {L : List Int32} {x y u w : Nat} {ps : List Pu} (hx : 10 ≤ x ∧ x ≤ 60) (hy : 1 ≤ y ∧ y ≤ 8) (hu : u ≤ 4) (hw : w ≤ 3) (hps : 2 ≤ ps.length ∧ ps.length ≤ 9) (hok : psOk ps) (hL : L = alT (hdT x y u w) ps) (hC : CG M g) (hg : g.L = L) (hO : Okg g) (h : ∀ M' g', CG M' g' → Okg g' → Gd g'.A → Bd 0 g'.A → M'.2 = M.2 → ∀ n, n < 2 ^ 31 → P (.inl (some (.int (nI n)))) M') : Sp E yX8_load cX8_load zX8_load [.ref (ad E 0 0 0)] M P := by
  refine s_X8_load hC (fun M' h1 h2 => ?_)
  generalize M.1 1 0 0 4 = v at h1 ⊢
  obtain ⟨c0, hI⟩ := setup_drawn (L := L) (v := v) hx hy hu hw hps hok hL
  have ho := sLoad_ok (v := v) (A0 := Ab0) hO
  obtain ⟨S, eS⟩ : ∃ S, setupV L v Ab0 = S := ⟨_, rfl⟩
  rw [eS] at c0 hI
  rw [sLoad_good (g := g) (v := v) (A1 := Ab0) (S := S) (by rw [hg]; exact eS) c0] at h1 ho ⊢
  exact h M' _ h1 ho (hI.gd hok hps.2) hI.bd h2.1 _ (by rw [hI.1]; omega)
abbrev zL_law : Zd := (5, ret, (600104, 7301313), 16, 646, [])
set_option maxHeartbeats 4000000 in
theorem law_G (hl : E.2.2.2.2 18 ≤ 260) (hend : ∀ (cs ss : Nat) (M : Mm) (lv : List (Nat × Value)), cs ≤ 600104 → ss ≤ 7301313 → G E C RL cL_law zL_law P cs ss M 146 lv [.int 1]) (hC : CG M g0) (hX : xOk E M.2) (hM : M.2 = [tC E 0]) : G E C RL cL_law zL_law P 695 9818 M 17 [(1, .ref (E.1 - 1)), (2, .ref (ad E 0 0 0))] [] := by
  refine G_aload_n dL_law_17 rfl ?_
  refine cv_L_236 (cs' := 695 + 8) (ss' := 9818 + 96) dL_law_18  (Nat.le_of_ble_eq_true rfl) (Nat.le_of_ble_eq_true rfl) (Nat.le_of_ble_eq_true rfl) rfl rfl (by show 695 + 8 ≤ 600104; omega) (by show 9818 + 96 ≤ 7301313; omega) rfl ?_
  refine l_isWhole hC Okg0 hX Gd0 (Bd0.ps (by decide)) (hGo_i ?_)
  refine G_if_eq (tgt := 32) dL_law_21 (by decide) (fun c21 => ?_) (fun c21 => ?_)
  · exact absurd c21 (by decide)
  · refine G_aload_n dL_law_24 rfl ?_
    refine cv_L_243 (cs' := 695 + 8) (ss' := 9818 + 96) dL_law_25  (Nat.le_of_ble_eq_true rfl) (Nat.le_of_ble_eq_true rfl) (Nat.le_of_ble_eq_true rfl) rfl rfl (by show 695 + 8 ≤ 600104; omega) (by show 9818 + 96 ≤ 7301313; omega) rfl ?_
    refine u_undo0 hC Okg0 rfl (fun M1 C1 E1 => hGo_i ?_)
    have hX1 : xOk E M1.2 := E1 ▸ hX
    have hM1 : M1.2 = [tC E 0] := E1.trans hM
    refine G_iconst (v := (-1)) dL_law_28 (by decide) ?_
    refine G_icmp_eq (tgt := 34) dL_law_29 (by decide) (fun c29 => ?_) (fun c29 => ?_)
    · refine G_aload_n dL_law_34 rfl ?_
      refine G_aload_n dL_law_35 rfl ?_
      refine cv_L_250 (cs' := 695 + 8 + 200) (ss' := 9818 + 96 + 200000) dL_law_36  (Nat.le_of_ble_eq_true rfl) (Nat.le_of_ble_eq_true rfl) (Nat.le_of_ble_eq_true rfl) rfl rfl (by show 695 + 8 + 200 ≤ 600104; omega) (by show 9818 + 96 + 200000 ≤ 7301313; omega) rfl ?_
      refine l_setup hX1 hM1 (by decide) hl (fun x y u w ps k1 s v f hx hy hu hw hps hok hk1 hlen hX2 hf => hGo_a ?_)
      obtain ⟨L, eL⟩ : ∃ L, L = alT (hdT x y u w) ps := ⟨_, rfl⟩
      rw [← eL] at hX2 hf hlen ⊢
      have hlet : ∀ i, i < L.length → ∃ c, c < 128 ∧ L.getD i 0 = nI c := fun i hi => by
        have hm : L.getD i 0 ∈ alT (hdT x y u w) ps := by
          rw [← eL, List.getD_eq_getElem?_getD, List.getElem?_eq_getElem hi]
          exact List.getElem_mem hi
        exact alT_mem hx.2 hy.2 hu hw hok hm
      refine cv_L_254 (cs' := 695 + 8 + 200) (ss' := 9818 + 96 + 200000) dL_law_39  (Nat.le_of_ble_eq_true rfl) (Nat.le_of_ble_eq_true rfl) (Nat.le_of_ble_eq_true rfl) rfl rfl (by show 695 + 8 + 200 ≤ 600104; omega) (by show 9818 + 96 + 200000 ≤ 7301313; omega) rfl ?_
      refine l_feed (M := M1.x (stX E [tC E k1] s v L.length f)) (CG.x C1) rfl hX2 rfl hf hlen hlet (fun M2 C2 E2 => hGo_v ?_)
      have oL : Okg (setL g0 L) := Okg0
      refine G_xdrop (X := [tC E k1]) (Y := [stC s v, byC E v L.length f]) hX2 E2 ?_
      have hX3 : xOk E (M2.x [tC E k1]).2 := xOk_left (Y := [stC s v, byC E v L.length f]) hX2
      refine G_aload_n dL_law_42 rfl ?_
      refine cv_L_258 (cs' := 695 + 8 + 200) (ss' := 9818 + 96 + 200000) dL_law_43  (Nat.le_of_ble_eq_true rfl) (Nat.le_of_ble_eq_true rfl) (Nat.le_of_ble_eq_true rfl) rfl rfl (by show 695 + 8 + 200 ≤ 600104; omega) (by show 9818 + 96 + 200000 ≤ 7301313; omega) rfl ?_
      refine u_load1 (M := M2.x [tC E k1]) hx hy hu hw hps hok eL (CG.x C2) rfl oL (fun M3 g3 C3 o3 d3 b3 E3 n hn => hGo_i ?_)
      have hX4 : xOk E M3.2 := E3 ▸ hX3
      have hM4 : M3.2 = [tC E k1] := E3
      refine G_if_lt (tgt := 56) dL_law_46 (by decide) (fun c46 => ?_) (fun c46 => ?_)
      · exact absurd c46 (nI_pos hn)
      · refine G_aload_n dL_law_49 rfl ?_
        refine cv_L_236 (cs' := 695 + 8 + 200 + 8) (ss' := 9818 + 96 + 200000 + 96) dL_law_50  (Nat.le_of_ble_eq_true rfl) (Nat.le_of_ble_eq_true rfl) (Nat.le_of_ble_eq_true rfl) rfl rfl (by show 695 + 8 + 200 + 8 ≤ 600104; omega) (by show 9818 + 96 + 200000 + 96 ≤ 7301313; omega) rfl ?_
        refine l_isWhole C3 o3 hX4 d3 (b3.ps (by decide)) (hGo_i ?_)
        refine G_if_ne (tgt := 58) dL_law_53 (by decide) (fun c53 => ?_) (fun c53 => ?_)
        · refine G_iconst (v := 0) dL_law_58 (by decide) ?_
          refine G_istore_n dL_law_59 (Nat.le_of_ble_eq_true rfl) ?_
          refine G_wid (cs1 := 911 + 70 * 0) (ss1 := 210010 + 4500 * 0) (by decide) (by decide) ?_
          refine G_lv (lv' := [(1, .ref (E.1 - 1)), (2, .ref (ad E 0 0 0)), (3, .int (nI 0))]) ⟨rfl, rfl, rfl, trivial⟩ ?_
          have key : ∀ (k : Nat) (M : Mm) (g : Gs), CG M g → Okg g → Gd g.A → Bd 0 g.A → M.2 = tC E k :: [] → xOk E M.2 → k ≤ 50 + 4 * 0 → G E C RL cL_law zL_law P (911 + 70 * 0) (210010 + 4500 * 0) M 60 [(1, .ref (E.1 - 1)), (2, .ref (ad E 0 0 0)), (3, .int (nI 0))] [] := by
            refine up0 (c := 28) (H := fun i => ∀ (k : Nat) (M : Mm) (g : Gs), CG M g → Okg g → Gd g.A → Bd i g.A → M.2 = tC E k :: [] → xOk E M.2 → k ≤ 50 + 4 * i → G E C RL cL_law zL_law P (911 + 70 * i) (210010 + 4500 * i) M 60 [(1, .ref (E.1 - 1)), (2, .ref (ad E 0 0 0)), (3, .int (nI i))] []) (fun k M g hC hO hG hB hM hX hk => ?_) (fun i hi ih k M g hC hO hG hB hM hX hk => ?_)
            · refine G_wid (cs1 := 2871) (ss1 := 336010) (by decide) (by decide) ?_
              refine G_iload_n dL_law_60 rfl ?_
              refine G_bipush (v := 28) dL_law_61 (by decide) ?_
              refine G_icmp_ge (tgt := 82) dL_law_63 (by decide) (fun c63 => ?_) (fun c63 => ?_)
              · skip
                refine G_aload_n dL_law_82 rfl ?_
                refine cv_L_229 (cs' := 2871 + 1) (ss' := 336010 + 900) dL_law_83  (Nat.le_of_ble_eq_true rfl) (Nat.le_of_ble_eq_true rfl) (Nat.le_of_ble_eq_true rfl) rfl rfl (by show 2871 + 1 ≤ 600104; omega) (by show 336010 + 900 ≤ 7301313; omega) rfl ?_
                refine l_digest hC hO hX (fun r1 hX5 => hGo_a ?_)
                rw [hM] at hX5
                obtain ⟨Z, eZ⟩ : ∃ Z, Z = ([(r1, .inl (E.2.2.1 0, 900, .inl (rowF (digL g.A))))] : va_W) := ⟨_, rfl⟩
                have eX : xI E (tC E k :: []) r1 900 (rowF (digL g.A)) = tC E k :: Z := by rw [eZ]; rfl
                have z0 : (tC E k :: Z)[1]? = some (r1, .inl (E.2.2.1 0, 900, .inl (rowF (digL g.A)))) := by rw [eZ]; rfl
                rw [eX] at hX5
                refine G_st (M' := M.x (tC E k :: Z)) rfl rfl (by rw [hM, eX]) ?_
                refine G_astore_n dL_law_86 (Nat.le_of_ble_eq_true rfl) ?_
                refine G_aload_n dL_law_87 rfl ?_
                refine G_iconst (v := 1) dL_law_88 (by decide) ?_
                refine cv_L_265 (cs' := 2871 + 1) (ss' := 336010 + 900) dL_law_89  (Nat.le_of_ble_eq_true rfl) (Nat.le_of_ble_eq_true rfl) (Nat.le_of_ble_eq_true rfl) rfl rfl (by show 2871 + 1 ≤ 600104; omega) (by show 336010 + 900 ≤ 7301313; omega) rfl ?_
                refine u_save1 (M := M.x (tC E k :: Z)) (CG.x hC) hO (fun M6 C6 E6 => hGo_v ?_)
                have o6 : Okg (setS g 1) := qSave_ok (x := 1) hO
                have a6 : (setS g 1).A = g.A := rfl
                have s6 : (setS g 1).S 1 = some g.A := rfl
                have hX6 : xOk E M6.2 := E6 ▸ hX5
                have hM6 : M6.2 = tC E k :: Z := E6
                have hG6 : Gd (setS g 1).A := hG
                have hB6 : Bd 28 (setS g 1).A := hB
                generalize setS g 1 = g6 at C6 o6 a6 s6 hG6 hB6
                refine G_iconst (v := 0) dL_law_92 (by decide) ?_
                refine G_istore dL_law_93 (Nat.le_of_ble_eq_true rfl) ?_
                refine G_wid (cs1 := 2872 + 70 * 0) (ss1 := 336910 + 4500 * 0) (by decide) (by decide) ?_
                refine G_lv (lv' := [(1, .ref (E.1 - 1)), (2, .ref (ad E 0 0 0)), (3, .ref r1), (4, .int (nI 0))]) ⟨rfl, rfl, rfl, rfl, trivial⟩ ?_
                have key2 : ∀ (k : Nat) (M : Mm) (g' : Gs), CG M g' → Okg g' → Gd g'.A → Bd (28 + 0) g'.A → g'.S 1 = some g.A → M.2 = tC E k :: Z → xOk E M.2 → k ≤ 162 + 4 * 0 → G E C RL cL_law zL_law P (2872 + 70 * 0) (336910 + 4500 * 0) M 95 [(1, .ref (E.1 - 1)), (2, .ref (ad E 0 0 0)), (3, .ref r1), (4, .int (nI 0))] [] := by
                  refine up0 (c := 5) (H := fun i => ∀ (k : Nat) (M : Mm) (g' : Gs), CG M g' → Okg g' → Gd g'.A → Bd (28 + i) g'.A → g'.S 1 = some g.A → M.2 = tC E k :: Z → xOk E M.2 → k ≤ 162 + 4 * i → G E C RL cL_law zL_law P (2872 + 70 * i) (336910 + 4500 * i) M 95 [(1, .ref (E.1 - 1)), (2, .ref (ad E 0 0 0)), (3, .ref r1), (4, .int (nI i))] []) (fun k2 M g' hC hO hG hB hS hM hX hk => ?_) (fun i hi ih2 k2 M g' hC hO hG hB hS hM hX hk => ?_)
                  · refine G_wid (cs1 := 3222) (ss1 := 359410) (by decide) (by decide) ?_
                    refine G_iload dL_law_95 rfl ?_
                    refine G_iconst (v := 5) dL_law_97 (by decide) ?_
                    refine G_icmp_ge (tgt := 117) dL_law_98 (by decide) (fun c98 => ?_) (fun c98 => ?_)
                    · skip
                      refine G_aload_n dL_law_117 rfl ?_
                      refine G_iconst (v := 1) dL_law_118 (by decide) ?_
                      refine cv_L_269 (cs' := 3222) (ss' := 359410) dL_law_119  (Nat.le_of_ble_eq_true rfl) (Nat.le_of_ble_eq_true rfl) (Nat.le_of_ble_eq_true rfl) rfl rfl (by show 3222 ≤ 600104; omega) (by show 359410 ≤ 7301313; omega) rfl ?_
                      refine u_restore1 hC hO hS (fun M7 C7 o7 E7 => hGo_v ?_)
                      have hX7 : xOk E M7.2 := E7 ▸ hX
                      have hM7 : M7.2 = tC E k2 :: Z := E7.trans hM
                      refine G_aload_n dL_law_122 rfl ?_
                      refine cv_L_229 (cs' := 3222 + 1) (ss' := 359410 + 900) dL_law_123  (Nat.le_of_ble_eq_true rfl) (Nat.le_of_ble_eq_true rfl) (Nat.le_of_ble_eq_true rfl) rfl rfl (by show 3222 + 1 ≤ 600104; omega) (by show 359410 + 900 ≤ 7301313; omega) rfl ?_
                      refine l_digest C7 o7 hX7 (fun r2 hX8 => hGo_a ?_)
                      have z1 : (xI E M7.2 r2 900 (rowF (digL g.A)))[1]? = some (r1, .inl (E.2.2.1 0, 900, .inl (rowF (digL g.A)))) := xI_old (by rw [hM7]; exact z0)
                      have z2 : (xI E M7.2 r2 900 (rowF (digL g.A)))[M7.2.length]? = some (r2, .inl (E.2.2.1 0, 900, .inl (rowF (digL g.A)))) := xI_at
                      have hX8 : xOk E (xI E M7.2 r2 900 (rowF (digL g.A))) := hX8
                      refine G_st (M' := M7.x (xI E M7.2 r2 900 (rowF (digL g.A)))) rfl rfl rfl ?_
                      generalize xI E M7.2 r2 900 (rowF (digL g.A)) = X9 at hX8 z1 z2
                      refine G_aload_n dL_law_126 rfl ?_
                      refine cv_L_239 (cs' := 3222 + 1) (ss' := 359410 + 900) dL_law_127  (Nat.le_of_ble_eq_true rfl) (Nat.le_of_ble_eq_true rfl) (Nat.le_of_ble_eq_true rfl) rfl rfl (by show 3222 + 1 ≤ 600104; omega) (by show 359410 + 900 ≤ 7301313; omega) rfl ?_
                      refine l_isSame (M := M7.x X9) hX8 z2 z1 (by decide) (fun _ => hGo_i ?_) (fun hd => absurd (fun q _ => rfl) hd)
                      refine G_if_eq (tgt := 145) dL_law_130 (by decide) (fun c130 => ?_) (fun c130 => ?_)
                      · exact absurd c130 (by decide)
                      · refine G_aload_n dL_law_133 rfl ?_
                        refine cv_L_243 (cs' := 3222 + 1) (ss' := 359410 + 900) dL_law_134  (Nat.le_of_ble_eq_true rfl) (Nat.le_of_ble_eq_true rfl) (Nat.le_of_ble_eq_true rfl) rfl rfl (by show 3222 + 1 ≤ 600104; omega) (by show 359410 + 900 ≤ 7301313; omega) rfl ?_
                        refine u_undo0 (M := M7.x X9) (CG.x C7) o7 rfl (fun M8 C8 E8 => hGo_i ?_)
                        refine G_iconst (v := (-1)) dL_law_137 (by decide) ?_
                        refine G_icmp_ne (tgt := 145) dL_law_138 (by decide) (fun c138 => ?_) (fun c138 => ?_)
                        · exact absurd rfl c138
                        · refine G_iconst (v := 1) dL_law_141 (by decide) ?_
                          refine G_goto (tgt := 146) dL_law_142 (by decide) ?_
                          exact hend _ _ _ _ (by decide) (by decide)
                    · exact absurd (show nI 5 ≤ nI 5 from Int32.le_refl _) c98
                  · refine G_iload dL_law_95 rfl ?_
                    refine G_iconst (v := 5) dL_law_97 (by decide) ?_
                    refine G_icmp_ge (tgt := 117) dL_law_98 (by decide) (fun c98 => ?_) (fun c98 => ?_)
                    · exact absurd (show nI 5 ≤ nI i from c98) (nI_ge hi (by decide))
                    · skip
                      refine G_aload_n dL_law_101 rfl ?_
                      refine G_aload_n dL_law_102 rfl ?_
                      refine cv_L_261 (cs' := 2872 + 70 * i + 70) (ss' := 336910 + 4500 * i + 4500) dL_law_103  (Nat.le_of_ble_eq_true rfl) (Nat.le_of_ble_eq_true rfl) (Nat.le_of_ble_eq_true rfl) rfl rfl (by show 2872 + 70 * i + 70 ≤ 600104; omega) (by show 336910 + 4500 * i + 4500 ≤ 7301313; omega) rfl ?_
                      refine l_isDoneAgain hC hO hX hM (by omega) hl hG hB (by omega) (fun M7 g7 C7 o7 d7 b7 s7 hM7 hX7 => hGo_i ?_)
                      refine G_if_ne (tgt := 111) dL_law_106 (by decide) (fun c106 => ?_) (fun c106 => ?_)
                      · refine G_iinc (v := 1) dL_law_111 rfl (Nat.le_of_ble_eq_true rfl) (by decide) ?_
                        refine G_goto (tgt := 95) dL_law_114 (by decide) ?_
                        refine G_wid (cs1 := 2872 + 70 * (i + 1)) (ss1 := 336910 + 4500 * (i + 1)) (by omega) (by omega) ?_
                        exact G_lv2 (ih2 (k2 + 4) M7 g7 C7 o7 d7 b7 (by rw [s7]; exact hS) hM7 hX7 (by omega)) ⟨rfl, rfl, rfl, lvi (nI_1 i), trivial⟩
                      · exact absurd c106 (by decide)
                exact key2 k M6 g6 C6 o6 hG6 hB6 s6 hM6 hX6 (by omega)
              · exact absurd (show nI 28 ≤ nI 28 from Int32.le_refl _) c63
            · refine G_iload_n dL_law_60 rfl ?_
              refine G_bipush (v := 28) dL_law_61 (by decide) ?_
              refine G_icmp_ge (tgt := 82) dL_law_63 (by decide) (fun c63 => ?_) (fun c63 => ?_)
              · exact absurd (show nI 28 ≤ nI i from c63) (nI_ge hi (by decide))
              · skip
                refine G_aload_n dL_law_66 rfl ?_
                refine G_aload_n dL_law_67 rfl ?_
                refine cv_L_261 (cs' := 911 + 70 * i + 70) (ss' := 210010 + 4500 * i + 4500) dL_law_68  (Nat.le_of_ble_eq_true rfl) (Nat.le_of_ble_eq_true rfl) (Nat.le_of_ble_eq_true rfl) rfl rfl (by show 911 + 70 * i + 70 ≤ 600104; omega) (by show 210010 + 4500 * i + 4500 ≤ 7301313; omega) rfl ?_
                refine l_isDoneAgain hC hO hX hM (by omega) hl hG hB (by omega) (fun M7 g7 C7 o7 d7 b7 s7 hM7 hX7 => hGo_i ?_)
                refine G_if_ne (tgt := 76) dL_law_71 (by decide) (fun c71 => ?_) (fun c71 => ?_)
                · refine G_iinc (v := 1) dL_law_76 rfl (Nat.le_of_ble_eq_true rfl) (by decide) ?_
                  refine G_goto (tgt := 60) dL_law_79 (by decide) ?_
                  refine G_wid (cs1 := 911 + 70 * (i + 1)) (ss1 := 210010 + 4500 * (i + 1)) (by omega) (by omega) ?_
                  exact G_lv2 (ih (k + 4) M7 g7 C7 o7 d7 b7 hM7 hX7 (by omega)) ⟨rfl, rfl, lvi (nI_1 i), trivial⟩
                · exact absurd c71 (by decide)
          exact key k1 M3 g3 C3 o3 d3 b3 hM4 hX4 (by omega)
        · exact absurd c53 (by decide)
    · exact absurd rfl c29
end LLAW
