/-! ===== HomeworkBarterModel: play ===== -/
section MPLAY
variable {E : Ed} {M M' M0 M1 : Mm} {P : Res → Mm → Prop} {L : List Int32} {T T' : Tks} {g : Gs}
theorem Sc.fm {Cs : List Cmd} (h : Sc M Cs) (f : Fm M M') : Sc M' Cs := by
  have k : ∀ t, M'.1 25 0 0 t = M.1 25 0 0 t := fun t => f.1.2 25 0 0 (fun q => q.2.2 rfl) t
  exact ⟨f.2.trans h.1, h.2.1, fun i hi => ⟨(k _).trans (h.2.2 i hi).1, (h.2.2 i hi).2.1, (h.2.2 i hi).2.2.1, fun t ht => (k _).trans ((h.2.2 i hi).2.2.2 t ht)⟩⟩
/-- the reader's fields, the commands: all else stays -/
theorem MG.play (h : MG M g) (f : Fy M M1) : MG (M1.up 20 0 0 7 0) (g.A, g.U, g.S, g.R, [], (M1.1 20 0 0 8, M1.1 20 0 0 9), g.W) := by
  obtain ⟨a, b, ⟨c1, c2, c3⟩, d, r, i, j, k1, k2, k3⟩ := h
  have e : ∀ k t, k ≠ 20 → k ≠ 25 → (M1.up 20 0 0 7 0).1 k 0 0 t = M.1 k 0 0 t := fun k t h1 h2 => (up_nk h1).trans (f.2 k 0 0 t (fun q => h1 q.1) h2)
  have e20 : ∀ t, (t = 3 ∨ t = 4 ∨ t = 17) → (M1.up 20 0 0 7 0).1 20 0 0 t = M.1 20 0 0 t := fun t ht => (up_nt (by omega)).trans (f.2 20 0 0 t (fun q => by omega) (by decide))
  have er : ∀ {o : Nat} {X : Ab}, MR M o X → MR (M1.up 20 0 0 7 0) o X := fun z => z.keep (fun t => e 21 t (by decide) (by decide))
  refine ⟨⟨(e20 3 (by omega)).trans a.1, a.2⟩, er b, ⟨c1, (e20 4 (by omega)).trans c2, fun i hi => er (c3 i hi)⟩, fun s hs => ?_, fun q r1 r2 => (e 23 q (by decide) (by decide)).trans (r q r1 r2), ⟨up_at, Nat.zero_le _, fun k hk => absurd hk (Nat.not_lt_zero k)⟩, ⟨up_nt (by decide), up_nt (by decide)⟩, (e20 17 (by omega)).trans k1, k2, fun k hk => (e 26 k (by decide) (by decide)).trans (k3 k hk)⟩
  rcases d s hs with ⟨x, y⟩ | ⟨B, x, y, z⟩
  · exact Or.inl ⟨x, (e 22 s (by decide) (by decide)).trans y⟩
  · exact Or.inr ⟨B, x, (e 22 s (by decide) (by decide)).trans y, er z⟩
/-- what play changes -/
def dPl : Nat → Nat → Nat → Prop := fun k _ _ => 20 ≤ k ∧ k ≤ 26
theorem Fm.pl (h : Fm M M') : Fr dPl M M' := h.1.mono (fun k j p q => ⟨q.1, q.2.1⟩)
theorem Fy.pl (h : Fy M M') : Fr dPl M M' := ⟨h.1, fun k j p hn t => h.2 k j p t (fun q => hn ⟨by omega, by omega⟩) (fun q => hn ⟨by omega, by omega⟩)⟩
theorem m_play (v : Int32) (hG : MG M g) (hO : Okg g) (h : ∀ M', MG M' (sPlay g v).1 → Fr dPl M M' → M'.1 20 0 0 5 = 0 → P (.inl (some (.int (sPlay g v).2))) M') : Sp E yX9_play cX9_play zX9_play [.ref (ad E 20 0 0)] M P := by
  refine Sp_of (own := RX9) (by decide) rfl rfl (Nat.le_of_ble_eq_true rfl) (fun C => ?_)
  refine G_aload_n dX9_play_0 rfl ?_
  refine G_iconst (v := 0) dX9_play_1 (by decide) ?_
  refine pf_X9_41 dX9_play_2  ?_
  have hG1 : MG (M.up 20 0 0 5 0) g := hG.thr
  have hT : (M.up 20 0 0 5 0).1 20 0 0 5 = 0 := up_at
  have hF : Fm M (M.up 20 0 0 5 0) := Fm.rfl.up ⟨by decide, by decide⟩
  generalize M.up 20 0 0 5 0 = M1 at hG1 hT hF ⊢
  have hR := hG1.1
  have hA := hG1.2.1
  have h12 := hA.n12
  unfold sPlay at h
  have hF := hF.pl
  have hok := scr_ok (L := g.L) (v := v)
  have epl : plG g v = (g.A, g.U, g.S, g.R, [], ((scrV g.L v).1.code, (scrV g.L v).1.pos), g.W) := rfl
  -- the commands are read
  have g35 : ∀ M3, TX M3 g.L (scrV g.L v).1 → ((scrV g.L v).1.code = 0 → Sc M3 (scrV g.L v).2) → Fy M1 M3 → G E C RX9 cX9_play zX9_play P 0 0 M3 35 [(0, .ref (ad E 20 0 0))] [] := fun M3 x3 s3 f3 => by
    have hG3 := hG1.play f3
    have hF3 : Fr dPl M (M3.up 20 0 0 7 0) := (hF.trans f3.pl).up ⟨by decide, by decide⟩
    have hT3 : (M3.up 20 0 0 7 0).1 20 0 0 5 = 0 := (up_nt (by decide)).trans ((f3.2 20 0 0 5 (fun q => by omega) (by decide)).trans hT)
    have ec : (M3.up 20 0 0 7 0).1 20 0 0 8 = (scrV g.L v).1.code := (up_nt (by decide)).trans x3.1
    have s4 : (scrV g.L v).1.code = 0 → Sc (M3.up 20 0 0 7 0) (scrV g.L v).2 := fun z => ⟨(up_nt (by decide)).trans (s3 z).1, (s3 z).2.1, fun i hi => ⟨(up_nk (by decide)).trans ((s3 z).2.2 i hi).1, ((s3 z).2.2 i hi).2.1, ((s3 z).2.2 i hi).2.2.1, fun t ht => (up_nk (by decide)).trans (((s3 z).2.2 i hi).2.2.2 t ht)⟩⟩
    rw [x3.1, x3.2.1, ← epl] at hG3
    have o4 : Okg (plG g v) := hO
    refine G_aload_n dX9_play_35 rfl ?_
    refine G_iconst (v := 0) dX9_play_36 (by decide) ?_
    refine pf_X9_155 dX9_play_37  ?_
    generalize M3.up 20 0 0 7 0 = M4 at hG3 hF3 hT3 ec s4 ⊢
    generalize plG g v = g0 at h hG3 o4
    generalize scrV g.L v = S at h hok ec s4
    refine G_aload_n dX9_play_40 rfl ?_
    refine gf_X9_181 dX9_play_41  ?_
    rw [ec]
    refine G_if_eq (tgt := 49) dX9_play_44 (by decide) (fun c44 => ?_) (fun c44 => ?_)
    rotate_left
    · rw [if_neg c44] at h
      refine G_iconst (v := (-1)) dX9_play_47 (by decide) ?_
      refine G_iret dX9_play_48 rfl rfl (Nat.le_of_ble_eq_true rfl) (Nat.le_of_ble_eq_true rfl) ?_
      exact h M4 hG3 hF3 hT3
    rw [if_pos c44] at h
    have hok := hok c44
    have s4 := s4 c44
    have h25 := s4.2.1
    -- the end
    have g103 : ∀ M5 (n : Nat), MG M5 (runC g0 S.2).1 → Fm M4 M5 → (runC g0 S.2).2 = n → ∀ lv, lvf lv 0 = some (.ref (ad E 20 0 0)) → lvf lv 1 = some (.int (nI n)) → G E C RX9 cX9_play zX9_play P 0 0 M5 103 lv [] := fun M5 n g5 f5 e lv a0 a1 => by
      refine G_lv (lv' := [(0, .ref (ad E 20 0 0)), (1, .int (nI n))]) ⟨a0, a1, trivial⟩ ?_
      rw [e] at h
      refine G_aload_n dX9_play_103 rfl ?_
      refine G_iconst (v := 0) dX9_play_104 (by decide) ?_
      refine pf_X9_41 dX9_play_105  ?_
      refine G_iload_n dX9_play_108 rfl ?_
      refine G_iret dX9_play_109 rfl rfl (Nat.le_of_ble_eq_true rfl) (Nat.le_of_ble_eq_true rfl) ?_
      exact h _ g5.thr ((hF3.trans f5.pl).up ⟨by decide, by decide⟩) up_at
    refine G_iconst (v := 0) dX9_play_49 (by decide) ?_
    refine G_istore_n dX9_play_50 (Nat.le_of_ble_eq_true rfl) ?_
    refine G_iconst (v := 1) dX9_play_51 (by decide) ?_
    refine G_istore_n dX9_play_52 (Nat.le_of_ble_eq_true rfl) ?_
    refine G_iconst (v := 0) dX9_play_53 (by decide) ?_
    refine G_istore_n dX9_play_54 (Nat.le_of_ble_eq_true rfl) ?_
    refine G_lv (lv' := [(0, .ref (ad E 20 0 0)), (1, .int (nI 0)), (2, .int 1), (3, .int (nI 0))]) ⟨rfl, rfl, rfl, rfl, trivial⟩ ?_
    refine up0 (c := S.2.length) (H := fun i => ∀ M5 gi, MG M5 gi → Okg gi → Fm M4 M5 → (runC g0 S.2).1 = (runC gi (S.2.drop i)).1 → (runC g0 S.2).2 = (runC gi (S.2.drop i)).2 + i → G E C RX9 cX9_play zX9_play P 0 0 M5 55 [(0, .ref (ad E 20 0 0)), (1, .int (nI i)), (2, .int 1), (3, .int (nI i))] []) (fun M5 gi g5 o5 f5 r1 r2 => ?_) (fun i hi ih M5 gi g5 o5 f5 r1 r2 => ?_) M4 g0 hG3 o4 ⟨Fr.rfl, rfl⟩ rfl rfl
    · rw [List.drop_length] at r1 r2
      have r1 : (runC g0 S.2).1 = gi := r1
      have r2 : (runC g0 S.2).2 = S.2.length := r2.trans (Nat.zero_add _)
      have s5 := s4.fm f5
      refine G_iload_n dX9_play_55 rfl ?_
      refine G_aload_n dX9_play_56 rfl ?_
      refine gf_X9_261 dX9_play_57  ?_
      rw [s5.1]
      refine G_icmp_ge (tgt := 103) dX9_play_60 (by decide) (fun c60 => ?_) (fun c60 => ?_)
      · exact g103 M5 _ (r1 ▸ g5) f5 r2 _ rfl rfl
      · exact absurd (Int32.le_refl _) c60
    · rw [cg_drop hi, runC_cons] at r1 r2
      have s5 := s4.fm f5
      refine G_iload_n dX9_play_55 rfl ?_
      refine G_aload_n dX9_play_56 rfl ?_
      refine gf_X9_261 dX9_play_57  ?_
      rw [s5.1]
      refine G_icmp_ge (tgt := 103) dX9_play_60 (by decide) (fun c60 => ?_) (fun c60 => ?_)
      · exact absurd c60 (nI_ge hi (by omega))
      refine G_iload_n dX9_play_63 rfl ?_
      refine G_if_eq (tgt := 103) dX9_play_64 (by decide) (fun c64 => ?_) (fun c64 => ?_)
      · exact absurd c64 (by decide)
      refine G_aload_n dX9_play_67 rfl ?_
      refine G_iconst (v := 5) dX9_play_68 (by decide) ?_
      refine G_iload_n dX9_play_69 rfl ?_
      refine G_imul dX9_play_70 ?_
      rw [show (5 : Int32) = nI 5 from rfl, pk_mul]
      refine cv_X9_285 (cs' := 0) (ss' := 0) dX9_play_71  (Nat.le_of_ble_eq_true rfl) (Nat.le_of_ble_eq_true rfl) (Nat.le_of_ble_eq_true rfl) rfl rfl (Nat.le_of_ble_eq_true rfl) (Nat.le_of_ble_eq_true rfl) rfl ?_
      refine s_X9_acts g5 o5 s5 hi (cOk_get hok hi) (fun M6 r g6 f6 e6 => hGo_i ?_)
      have f6 := f5.trans f6
      have bad : (sPerf gi (cg S.2 i)).2 < 0 → G E C RX9 cX9_play zX9_play P 0 0 M6 88 [(0, .ref (ad E 20 0 0)), (1, .int (nI i)), (3, .int (nI i))] [] := fun z => by
        rw [if_pos z] at r1 r2
        dsimp only at r1 r2
        rw [Nat.zero_add] at r2
        have s6 := s4.fm f6
        refine G_iconst (v := 0) dX9_play_88 (by decide) ?_
        refine G_istore_n dX9_play_89 (Nat.le_of_ble_eq_true rfl) ?_
        refine G_iload_n dX9_play_90 rfl ?_
        refine G_iload_n dX9_play_91 rfl ?_
        refine cv_X9_110 (cs' := 0) (ss' := 0) dX9_play_92  (Nat.le_of_ble_eq_true rfl) (Nat.le_of_ble_eq_true rfl) (Nat.le_of_ble_eq_true rfl) rfl rfl (Nat.le_of_ble_eq_true rfl) (Nat.le_of_ble_eq_true rfl) rfl ?_
        refine s_X9_one (Or.inl rfl) (hGo_i ?_)
        refine G_iadd dX9_play_95 ?_
        refine G_istore_n dX9_play_96 (Nat.le_of_ble_eq_true rfl) ?_
        refine G_iinc (v := 1) dX9_play_97 rfl (Nat.le_of_ble_eq_true rfl) (by decide) ?_
        refine G_goto (tgt := 55) dX9_play_100 (by decide) ?_
        rw [Int32.add_zero]
        refine G_iload_n dX9_play_55 rfl ?_
        refine G_aload_n dX9_play_56 rfl ?_
        refine gf_X9_261 dX9_play_57  ?_
        rw [s6.1]
        refine G_icmp_ge (tgt := 103) dX9_play_60 (by decide) (fun c60 => ?_) (fun c60 => ?_)
        · exact g103 M6 i (r1 ▸ g6) f6 r2 _ rfl rfl
        · refine G_iload_n dX9_play_63 rfl ?_
          refine G_if_eq (tgt := 103) dX9_play_64 (by decide) (fun c64 => ?_) (fun c64 => ?_)
          · exact g103 M6 i (r1 ▸ g6) f6 r2 _ rfl rfl
          · exact absurd rfl c64
      refine G_if_lt (tgt := 88) dX9_play_74 (by decide) (fun c74 => ?_) (fun c74 => ?_)
      · exact G_lv2 (bad (e6.mp (Or.inl c74))) ⟨rfl, rfl, rfl, trivial⟩
      · refine G_aload_n dX9_play_77 rfl ?_
        refine gf_X9_41 dX9_play_78  ?_
        refine G_if_ne (tgt := 88) dX9_play_81 (by decide) (fun c81 => ?_) (fun c81 => ?_)
        · exact G_lv2 (bad (e6.mp (Or.inr c81))) ⟨rfl, rfl, rfl, trivial⟩
        · have z : ¬ (sPerf gi (cg S.2 i)).2 < 0 := fun q => (e6.mpr q).elim c74 (fun y => y c81)
          rw [if_neg z] at r1 r2
          dsimp only at r1 r2
          refine G_iconst (v := 1) dX9_play_84 (by decide) ?_
          refine G_goto (tgt := 89) dX9_play_85 (by decide) ?_
          refine G_istore_n dX9_play_89 (Nat.le_of_ble_eq_true rfl) ?_
          refine G_iload_n dX9_play_90 rfl ?_
          refine G_iload_n dX9_play_91 rfl ?_
          refine cv_X9_110 (cs' := 0) (ss' := 0) dX9_play_92  (Nat.le_of_ble_eq_true rfl) (Nat.le_of_ble_eq_true rfl) (Nat.le_of_ble_eq_true rfl) rfl rfl (Nat.le_of_ble_eq_true rfl) (Nat.le_of_ble_eq_true rfl) rfl ?_
          refine s_X9_one (Or.inr rfl) (hGo_i ?_)
          refine G_iadd dX9_play_95 ?_
          refine G_istore_n dX9_play_96 (Nat.le_of_ble_eq_true rfl) ?_
          refine G_iinc (v := 1) dX9_play_97 rfl (Nat.le_of_ble_eq_true rfl) (by decide) ?_
          refine G_goto (tgt := 55) dX9_play_100 (by decide) ?_
          exact G_lv2 (ih M6 _ g6 (sPerf_ok o5 (cOk_get hok hi)) f6 r1 (by rw [r2]; omega)) ⟨rfl, lvi (nI_1 i), rfl, lvi (nI_1 i), trivial⟩
  have hX1 : MT M1 g.L := hG1.2.2.2.2.2.1
  have loop : ∀ (k : Nat) (T : Tks) (Cs : List Cmd) (M3 : Mm), MT M3 g.L → TX M3 g.L T → (T.code = 0 → Sc M3 Cs ∧ Cs.length + k = 26) → Fy M1 M3 → rcL g.L k T Cs = scrV g.L v → G E C RX9 cX9_play zX9_play P 0 0 M3 14 [(0, .ref (ad E 20 0 0))] [] := by
    intro k
    induction k with
    | zero =>
      intro T Cs M3 x3 t3 hs f3 e
      have e : (T, Cs) = scrV g.L v := e
      refine G_aload_n dX9_play_14 rfl ?_
      refine gf_X9_181 dX9_play_15  ?_
      rw [t3.1]
      refine G_if_ne (tgt := 35) dX9_play_18 (by decide) (fun c18 => ?_) (fun c18 => ?_)
      · exact G_lv2 (g35 M3 (by rw [← e]; exact t3) (fun z => absurd (show T.code = 0 by rw [← e] at z; exact z) c18) f3) ⟨rfl, trivial⟩
      · have := (hs c18).2
        have := (hs c18).1.2.1
        omega
    | succ k ih =>
      intro T Cs M3 x3 t3 hs f3 e
      refine G_aload_n dX9_play_14 rfl ?_
      refine gf_X9_181 dX9_play_15  ?_
      rw [t3.1]
      refine G_if_ne (tgt := 35) dX9_play_18 (by decide) (fun c18 => ?_) (fun c18 => ?_)
      · rw [rcL_bad c18] at e
        exact G_lv2 (g35 M3 (by rw [← e]; exact t3) (fun z => absurd (show T.code = 0 by rw [← e] at z; exact z) c18) f3) ⟨rfl, trivial⟩
      · obtain ⟨hs, hk⟩ := hs c18
        have e : (if T.code = 0 then (if T.kind = 0 then (T, Cs) else rcL g.L k (rcT g.L T Cs) (rcC g.L T Cs)) else (T, Cs)) = scrV g.L v := e
        rw [if_pos c18] at e
        refine G_aload_n dX9_play_21 rfl ?_
        refine gf_X9_174 dX9_play_22  ?_
        rw [(t3.2.2.2.2 c18).1]
        refine G_if_eq (tgt := 35) dX9_play_25 (by decide) (fun c25 => ?_) (fun c25 => ?_)
        · have k0 : T.kind = 0 := (nI_eq (b := 0) (by have := t3.2.2.1.2.2; omega) (by decide)).mp c25
          rw [if_pos k0] at e
          exact G_lv2 (g35 M3 (by rw [← e]; exact t3) (fun _ => by rw [← e]; exact hs) f3) ⟨rfl, trivial⟩
        · have k0 : ¬ T.kind = 0 := fun q => c25 (by rw [q]; rfl)
          rw [if_neg k0] at e
          refine G_aload_n dX9_play_28 rfl ?_
          refine cv_X9_282 (cs' := 0) (ss' := 0) dX9_play_29  (Nat.le_of_ble_eq_true rfl) (Nat.le_of_ble_eq_true rfl) (Nat.le_of_ble_eq_true rfl) rfl rfl (Nat.le_of_ble_eq_true rfl) (Nat.le_of_ble_eq_true rfl) rfl ?_
          refine s_X9_readsCommand x3 t3 c18 hs (fun M4 x4 t4 s4 f4 => hGo_v ?_)
          refine G_goto (tgt := 14) dX9_play_32 (by decide) ?_
          refine G_lv2 (ih _ _ M4 x4 t4 (fun z => ⟨s4 z, ?_⟩) (f3.trans f4) e) ⟨rfl, trivial⟩
          rw [rcC_n z]
          omega
  refine G_aload_n dX9_play_5 rfl ?_
  refine cv_X9_222 (cs' := 0) (ss' := 0) dX9_play_6  (Nat.le_of_ble_eq_true rfl) (Nat.le_of_ble_eq_true rfl) (Nat.le_of_ble_eq_true rfl) rfl rfl (Nat.le_of_ble_eq_true rfl) (Nat.le_of_ble_eq_true rfl) rfl ?_
  refine s_X9_starts v hX1 (fun M2 t2 f2 => hGo_v ?_)
  refine G_aload_n dX9_play_9 rfl ?_
  refine G_iconst (v := 0) dX9_play_10 (by decide) ?_
  refine pf_X9_261 dX9_play_11  ?_
  have f3 : Fy M1 (M2.up 20 0 0 15 0) := f2.fy.trans ⟨rfl, fun k j p t q r => by
    by_cases e : k = 20
    · subst e
      exact up_ft (fun y => q ⟨rfl, Or.inr y⟩)
    · exact up_nk e⟩
  refine G_lv2 (loop 26 (sT0 g.L v) [] _ ⟨(up_nt (by decide)).trans (hX1.fx f2).1, (hX1.fx f2).2.1, fun k hk => (up_nk (by decide)).trans ((hX1.fx f2).2.2 k hk)⟩ t2.k15 (fun _ => ⟨⟨up_at, Nat.zero_le _, fun i hi => absurd hi (Nat.not_lt_zero i)⟩, rfl⟩) f3 rfl) ⟨rfl, trivial⟩
end MPLAY
