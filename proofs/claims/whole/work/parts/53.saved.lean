/-! ===== HomeworkBarter: undo, saved states, output ===== -/
section CTXS
variable {E : Ed} {M M' : Mm} {P : Res → Mm → Prop} {A : Ab} {g : Gs}
def sUndo (g : Gs) : Gs × Int32 := if g.U.length = 0 then (g, -1) else ((ug g.U (g.U.length - 1), g.U.dropLast, g.2.2), nI (g.U.length - 1))
theorem sUndo_ok (h : Okg g) : Okg (sUndo g).1 := by
  unfold sUndo
  split
  · exact h
  · refine ⟨h.2.1 _ (by omega), fun i hi => ?_, h.2.2⟩
    have hi : i < g.U.dropLast.length := hi
    rw [List.length_dropLast] at hi
    show Ok (ug g.U.dropLast i)
    rw [ug_dl hi]
    exact h.2.1 i (by omega)
theorem s_X8_undo (hC : CG M g) (hO : Okg g) (h : ∀ M', CG M' (sUndo g).1 → Fr dCl M M' → P (.inl (some (.int (sUndo g).2))) M') : Sp E yX8_undo cX8_undo zX8_undo [.ref (ad E 0 0 0)] M P := by
  unfold sUndo at h
  have hU := hC.2.1
  have h6 := hU.1
  refine Sp_of (own := RX8) (by decide) rfl rfl (Nat.le_of_ble_eq_true rfl) (fun C => ?_)
  refine G_aload_n dX8_undo_0 rfl ?_
  refine gf_X8_36 dX8_undo_1  ?_
  refine gf_X8_191 dX8_undo_4  ?_
  rw [hU.2.1]
  refine G_if_ne (tgt := 12) dX8_undo_7 (by decide) (fun c7 => ?_) (fun c7 => ?_)
  · have hl : ¬ g.U.length = 0 := fun q => c7 (by rw [q]; rfl)
    rw [if_neg hl] at h
    refine G_aload_n dX8_undo_12 rfl ?_
    refine gf_X8_36 dX8_undo_13  ?_
    refine G_aload_n dX8_undo_16 rfl ?_
    refine gf_X8_26 dX8_undo_17  ?_
    refine cv_X8_428 (cs' := 0) (ss' := 0) dX8_undo_20  (Nat.le_of_ble_eq_true rfl) (Nat.le_of_ble_eq_true rfl) (Nat.le_of_ble_eq_true rfl) rfl rfl (Nat.le_of_ble_eq_true rfl) (Nat.le_of_ble_eq_true rfl) rfl ?_
    refine s_X7_bringBack hC.1.2.2.2.1 hU (by omega) (hO.2.1 _ (by omega)) (fun M1 u1 a1 f1 => hGo_v ?_)
    have g1 := hC.sch a1 u1 f1
    refine G_aload_n dX8_undo_23 rfl ?_
    refine gf_X8_36 dX8_undo_24  ?_
    refine gf_X8_191 dX8_undo_27  ?_
    rw [u1.2.1, List.length_dropLast]
    refine G_iret dX8_undo_30 rfl rfl (Nat.le_of_ble_eq_true rfl) (Nat.le_of_ble_eq_true rfl) ?_
    exact h M1 g1 (f1.mono (fun k j p q => by rcases q with q | q; (show k ≤ 19; omega); exact dC_Cl k j p q))
  · have hl : g.U.length = 0 := by
      rcases Nat.eq_zero_or_pos g.U.length with q | q
      · exact q
      · exact absurd c7 (nI_ne0 q (by omega))
    rw [if_pos hl] at h
    refine G_iconst (v := (-1)) dX8_undo_10 (by decide) ?_
    refine G_iret dX8_undo_11 rfl rfl (Nat.le_of_ble_eq_true rfl) (Nat.le_of_ble_eq_true rfl) ?_
    exact h M hC Fr.rfl
def setS (g : Gs) (s : Nat) : Gs := (g.A, g.U, fun k => if k = s then some g.A else g.S k, g.2.2.2)
def qSave (g : Gs) (x : Int32) : Gs × Qq := if inR x 0 1 then (setS g (tn x), (0, 0)) else thr g 1
/-- what a call without an answer tells -/
def rsv (X : Nat → String) (q : Qq) : Res := if q.1 = 0 then .inl none else .inr (X q.1)
theorem s_X8_save {x : Int32} (hC : CG M g) (hO : Okg g) (h : ∀ M', CG M' (qSave g x).1 → Fr dCl M M' → P (rsv xA (qSave g x).2) M') : Sp E yX8_save cX8_save zX8_save [.ref (ad E 0 0 0), .int x] M P := by
  unfold qSave at h
  refine Sp_of (own := RX8) (by decide) rfl rfl (Nat.le_of_ble_eq_true rfl) (fun C => ?_)
  refine G_iload_n dX8_save_0 rfl ?_
  refine G_iconst (v := 0) dX8_save_1 (by decide) ?_
  refine G_iconst (v := 1) dX8_save_2 (by decide) ?_
  refine cv_X8_86 (cs' := 1) (ss' := 6) dX8_save_3  (Nat.le_of_ble_eq_true rfl) (Nat.le_of_ble_eq_true rfl) (Nat.le_of_ble_eq_true rfl) rfl rfl (Nat.le_of_ble_eq_true rfl) (Nat.le_of_ble_eq_true rfl) rfl ?_
  refine s_X8_needRange (fun c1 => hGo_v ?_) (fun c1 => hGo_x (by rw [if_neg c1] at h; exact h M hC Fr.rfl))
  rw [if_pos c1] at h
  obtain ⟨s, -, hs, rfl, es⟩ := inR_ix (i := 0) (k := 1) (by decide) (by decide) c1
  rw [es] at h
  refine G_aload_n dX8_save_6 rfl ?_
  refine gf_X8_40 dX8_save_7  ?_
  refine G_iload_n dX8_save_10 rfl ?_
  refine G_aald dX8_save_11 ⟨by decide, rfl, rfl⟩ rfl rfl rfl (show s < 2 by omega) (by decide) rfl ?_
  refine G_aload_n dX8_save_12 rfl ?_
  refine gf_X8_26 dX8_save_13  ?_
  refine cv_X8_101 (cs' := 1) (ss' := 6) dX8_save_16 (show 8 + s < 10 by omega) (Nat.le_of_ble_eq_true rfl) (Nat.le_of_ble_eq_true rfl) (Nat.le_of_ble_eq_true rfl) rfl rfl (Nat.le_of_ble_eq_true rfl) (Nat.le_of_ble_eq_true rfl) rfl ?_
  refine s_X3_copyFrom (j := 8 + s) (j2 := 0) (by omega) (by decide) (by omega) hC.1 hO.1.spy ((hC.2.2.1 s (by omega)).1) (fun M1 a1 f1 => hGo_v ?_)
  refine G_aload_n dX8_save_19 rfl ?_
  refine gf_X8_44 dX8_save_20  ?_
  refine G_iload_n dX8_save_23 rfl ?_
  refine G_iconst (v := 1) dX8_save_24 (by decide) ?_
  refine G_zast dX8_save_25 ⟨by decide, rfl, rfl⟩ (fun _ => rfl) rfl (show s < 2 by omega) (by decide) ?_
  refine G_vret dX8_save_26 rfl (Nat.le_of_ble_eq_true rfl) (Nat.le_of_ble_eq_true rfl) ?_
  have f2 : Fr (fun k j _ => k = 18 ∨ (7 ≤ k ∧ k ≤ 14 ∧ j = 8 + s)) M (M1.up 18 0 0 s (vp_nar .boolean 1)) := (f1.mono (fun k j p q => Or.inr q)).up (Or.inl rfl)
  obtain ⟨a, b, c, d, e, f, i⟩ := id hC
  refine h _ ⟨a.frD f2 (fun k j p q z => by omega), b.fr f2 (fun k j p q z => by omega), fun t ht => ?_, d.fr f2 (fun k j p q z => by omega), e.fr f2 (fun k j p q z => by omega), f.fr f2 (fun k j p q z => by omega), fun p hp => (f2.at (fun q => by omega) 0).trans (i p hp)⟩ (f2.mono (fun k j p q => by show k ≤ 19; omega))
  have a1' : CR (M1.up 18 0 0 s (vp_nar .boolean 1)) (8 + s) g.A := a1.keep (fun k _ _ p t => up_nk (by omega))
  by_cases q : t = s
  · subst q
    exact ⟨a1'.2.2.2.1, Or.inr ⟨g.A, if_pos rfl, up_at, a1'⟩⟩
  · obtain ⟨b1, b2⟩ := c t ht
    refine ⟨fun p hp => (f2.at (fun q => by omega) 0).trans (b1 p hp), ?_⟩
    have e18 : (M1.up 18 0 0 s (vp_nar .boolean 1)).1 18 0 0 t = M.1 18 0 0 t := (up_t q).trans (f1.at (fun q => absurd q.2.1 (by decide)) t)
    have eS : (setS g s).S t = g.S t := if_neg q
    rcases b2 with ⟨x1, x2⟩ | ⟨B, x1, x2, x3⟩
    · exact Or.inl ⟨eS.trans x1, e18.trans x2⟩
    · exact Or.inr ⟨B, eS.trans x1, e18.trans x2, x3.frD f2 (fun k j p q z => by omega)⟩
theorem qSave_ok {x : Int32} (h : Okg g) : Okg (qSave g x).1 := by
  unfold qSave
  split
  · refine ⟨h.1, h.2.1, fun s hs B hB => ?_⟩
    have hB : (if s = tn x then some g.A else g.S s) = some B := hB
    split at hB
    · cases hB
      exact h.1
    · exact h.2.2 s hs B hB
  · exact h
def qRestore (g : Gs) (x : Int32) : Gs × Qq := if inR x 0 1 then (match g.S (tn x) with | none => thr g 2 | some B => ((B, [], g.2.2), (0, 0))) else thr g 1
theorem s_X8_restore {x : Int32} (hC : CG M g) (hO : Okg g) (h : ∀ M', CG M' (qRestore g x).1 → Fr dCl M M' → P (rsv xAS (qRestore g x).2) M') : Sp E yX8_restore cX8_restore zX8_restore [.ref (ad E 0 0 0), .int x] M P := by
  unfold qRestore at h
  refine Sp_of (own := RX8) (by decide) rfl rfl (Nat.le_of_ble_eq_true rfl) (fun C => ?_)
  refine G_iload_n dX8_restore_0 rfl ?_
  refine G_iconst (v := 0) dX8_restore_1 (by decide) ?_
  refine G_iconst (v := 1) dX8_restore_2 (by decide) ?_
  refine cv_X8_86 (cs' := 1) (ss' := 6) dX8_restore_3  (Nat.le_of_ble_eq_true rfl) (Nat.le_of_ble_eq_true rfl) (Nat.le_of_ble_eq_true rfl) rfl rfl (Nat.le_of_ble_eq_true rfl) (Nat.le_of_ble_eq_true rfl) rfl ?_
  refine s_X8_needRange (fun c1 => hGo_v ?_) (fun c1 => hGo_x (by rw [if_neg c1] at h; exact h M hC Fr.rfl))
  rw [if_pos c1] at h
  obtain ⟨s, -, hs, rfl, es⟩ := inR_ix (i := 0) (k := 1) (by decide) (by decide) c1
  rw [es] at h
  refine G_aload_n dX8_restore_6 rfl ?_
  refine gf_X8_44 dX8_restore_7  ?_
  refine G_iload_n dX8_restore_10 rfl ?_
  refine G_zald dX8_restore_11 ⟨by decide, rfl, rfl⟩ rfl rfl (show s < 2 by omega) (by decide) ?_
  obtain ⟨b1, b2⟩ := hC.2.2.1 s (by omega)
  rcases b2 with ⟨x1, x2⟩ | ⟨B, x1, x2, x3⟩
  · rw [x1] at h
    have h := h M hC Fr.rfl
    rw [x2]
    refine G_if_ne (tgt := 26) dX8_restore_12 (by decide) (fun c12 => ?_) (fun c12 => ?_)
    · exact absurd rfl c12
    · exact G_thrW 20 thIS dX8_restore_15 dX8_restore_18 dX8_restore_19 dX8_restore_22 dX8_restore_25 (by decide) rfl rfl rfl (Nat.le_of_ble_eq_true rfl) (Nat.le_of_ble_eq_true rfl) (Nat.le_of_ble_eq_true rfl) (Nat.le_of_ble_eq_true rfl) h
  · rw [x1] at h
    rw [x2]
    refine G_if_ne (tgt := 26) dX8_restore_12 (by decide) (fun c12 => ?_) (fun c12 => ?_)
    · refine G_aload_n dX8_restore_26 rfl ?_
      refine gf_X8_26 dX8_restore_27  ?_
      refine G_aload_n dX8_restore_30 rfl ?_
      refine gf_X8_40 dX8_restore_31  ?_
      refine G_iload_n dX8_restore_34 rfl ?_
      refine G_aald dX8_restore_35 ⟨by decide, rfl, rfl⟩ rfl rfl rfl (show s < 2 by omega) (by decide) rfl ?_
      refine cv_X8_101 (cs' := 1) (ss' := 6) dX8_restore_36 (by decide) (Nat.le_of_ble_eq_true rfl) (Nat.le_of_ble_eq_true rfl) (Nat.le_of_ble_eq_true rfl) rfl rfl (Nat.le_of_ble_eq_true rfl) (Nat.le_of_ble_eq_true rfl) rfl ?_
      refine s_X3_copyFrom (j := 0) (j2 := 8 + s) (by decide) (by omega) (by omega) x3 (hO.2.2 s (by omega) B x1).spy hC.1.2.2.2.1 (fun M1 a1 f1 => hGo_v ?_)
      have u1 : Und M1 g.U := hC.2.1.fr f1 (fun k j p q z => by have q' : 7 ≤ k ∧ k ≤ 14 ∧ j = 0 := q; omega)
      refine G_aload_n dX8_restore_39 rfl ?_
      refine gf_X8_36 dX8_restore_40  ?_
      refine cv_X8_105 (cs' := 1) (ss' := 6) dX8_restore_43  (Nat.le_of_ble_eq_true rfl) (Nat.le_of_ble_eq_true rfl) (Nat.le_of_ble_eq_true rfl) rfl rfl (Nat.le_of_ble_eq_true rfl) (Nat.le_of_ble_eq_true rfl) rfl ?_
      refine s_X7_forgetAll u1 (fun M2 u2 f2 => hGo_v ?_)
      refine G_vret dX8_restore_46 rfl (Nat.le_of_ble_eq_true rfl) (Nat.le_of_ble_eq_true rfl) ?_
      have a2 : CR M2 0 B := a1.frD f2 (fun k j p q z => by omega)
      exact h M2 (hC.sch a2 u2 ((f1.mono (fun k j p q => Or.inr q)).trans (f2.mono (fun k j p q => Or.inl q)))) ((f1.mono dC_Cl).trans (f2.mono (fun k j p q => by show k ≤ 19; omega)))
    · exact absurd c12 (by decide)
theorem qRestore_ok {x : Int32} (h : Okg g) : Okg (qRestore g x).1 := by
  unfold qRestore
  split
  · rename_i c
    have := inR_ix (i := 0) (k := 1) (by decide) (by decide) c
    obtain ⟨s, -, hs, -, es⟩ := this
    rw [es]
    split
    · exact h
    · rename_i B hB
      exact ⟨h.2.2 s (by omega) B hB, fun i hi => absurd hi (Nat.not_lt_zero i), h.2.2⟩
  · exact h
-- output
def mkW (L : List Int32) : List Int32 := L.map (fun m => 97 + m)
def num2 (v : Int32) : List Int32 := if 9 < v then [48 + v / 10, 48 + (v - v / 10 * 10)] else [48 + (v - v / 10 * 10)]
def dbW (d : List De) (i : Nat) : List Int32 := [32, 97 + dg d i 1, if dg d i 2 = 0 then 115 else 118] ++ num2 (dg d i 3)
def dbsW (d : List De) (x : Int32) : Nat → List Int32
  | 0 => []
  | k + 1 => dbsW d x k ++ (if dg d k 0 = x then dbW d k else [])
def wrV (A : Ab) (p : Nat) : List Int32 := mkW (A.s (2 * p)) ++ [47] ++ mkW (A.s (2 * p + 1)) ++ dbsW A.d (nI p) A.d.length
def qWrite (g : Gs) (x : Int32) : Gs × Qq := if inP g.A x then (setW g (wrV g.A (tn x)), (0, nI (wrV g.A (tn x)).length)) else thr g 1
theorem b255 {n : Nat} (h : n < 256) : nI n &&& 255 = nI n := by
  rw [pk_andN (by omega) 8 (by decide), Nat.mod_eq_of_lt h]
theorem num2_len {v : Int32} : (num2 v).length ≤ 2 := by
  unfold num2
  split <;> simp
theorem dbW_len {d : List De} {i : Nat} : (dbW d i).length ≤ 5 := by
  unfold dbW
  have := num2_len (v := dg d i 3)
  rw [List.length_append]
  show 3 + _ ≤ 5
  omega
theorem dbsW_len {d : List De} {x : Int32} : ∀ k, (dbsW d x k).length ≤ 5 * k
  | 0 => Nat.le_refl 0
  | k + 1 => by
    have := dbsW_len (d := d) (x := x) k
    have h2 := dbW_len (d := d) (i := k)
    unfold dbsW
    rw [List.length_append]
    split
    · omega
    · show _ + 0 ≤ _
      omega
theorem mkW_len {L : List Int32} : (mkW L).length = L.length := List.length_map _
theorem s_X8_writeMakers {q : Nat} {L W : List Int32} (hq : q < 24) (hs : Sat M 0 q L) (hm : mOk 12 L) (hW : Txt M 1 W) (hl : W.length ≤ 200) (h : ∀ M', Txt M' 1 (W ++ mkW L) → Fr (dX 1) M M' → P (.inl none) M') : Sp E yX8_writeMakers cX8_writeMakers zX8_writeMakers [.ref (ad E 0 0 0), .ref (ad E 13 0 q)] M P := by
  have h20 := hm.1
  refine Sp_of (own := RX8) (by decide) rfl rfl (Nat.le_of_ble_eq_true rfl) (fun C => ?_)
  refine G_iconst (v := 0) dX8_writeMakers_0 (by decide) ?_
  refine G_istore_n dX8_writeMakers_1 (Nat.le_of_ble_eq_true rfl) ?_
  refine G_lv (lv' := [(0, .ref (ad E 0 0 0)), (1, .ref (ad E 13 0 q)), (2, .int (nI 0))]) ⟨rfl, rfl, rfl, trivial⟩ ?_
  refine up0 (c := L.length) (H := fun i => ∀ M', Txt M' 1 (W ++ mkW (L.take i)) → Fr (dX 1) M M' → G E C RX8 cX8_writeMakers zX8_writeMakers P 0 0 M' 2 [(0, .ref (ad E 0 0 0)), (1, .ref (ad E 13 0 q)), (2, .int (nI i))] []) (fun M1 t1 f1 => ?_) (fun i hi ih M1 t1 f1 => ?_) M (by rw [List.take_zero]; show Txt M 1 (W ++ []); rw [List.append_nil]; exact hW) Fr.rfl
  · have s1 : Sat M1 0 q L := hs.keep (fun k hk t => f1.at (fun z => by have z' : (k = 2 ∨ k = 3) ∧ 0 = 1 := z; omega) t)
    rw [List.take_length] at t1
    refine G_iload_n dX8_writeMakers_2 rfl ?_
    refine G_aload_n dX8_writeMakers_3 rfl ?_
    refine gf_X8_238 dX8_writeMakers_4 (by decide) hq ?_
    rw [s1.1]
    refine G_icmp_ge (tgt := 31) dX8_writeMakers_7 (by decide) (fun c7 => ?_) (fun c7 => ?_)
    · refine G_vret dX8_writeMakers_31 rfl (Nat.le_of_ble_eq_true rfl) (Nat.le_of_ble_eq_true rfl) ?_
      exact h M1 t1 f1
    · exact absurd (Int32.le_refl _) c7
  · have s1 : Sat M1 0 q L := hs.keep (fun k hk t => f1.at (fun z => by have z' : (k = 2 ∨ k = 3) ∧ 0 = 1 := z; omega) t)
    obtain ⟨m, hm1, em⟩ := hm.2 i hi
    refine G_iload_n dX8_writeMakers_2 rfl ?_
    refine G_aload_n dX8_writeMakers_3 rfl ?_
    refine gf_X8_238 dX8_writeMakers_4 (by decide) hq ?_
    rw [s1.1]
    refine G_icmp_ge (tgt := 31) dX8_writeMakers_7 (by decide) (fun c7 => ?_) (fun c7 => ?_)
    · exact absurd c7 (nI_ge hi (by omega))
    · refine G_aload_n dX8_writeMakers_10 rfl ?_
      refine gf_X8_57 dX8_writeMakers_11  ?_
      refine G_bipush (v := 97) dX8_writeMakers_14 (by decide) ?_
      refine G_aload_n dX8_writeMakers_16 rfl ?_
      refine G_iload_n dX8_writeMakers_17 rfl ?_
      refine cv_X8_267 (cs' := 0) (ss' := 0) dX8_writeMakers_18 (by decide) hq (Nat.le_of_ble_eq_true rfl) (Nat.le_of_ble_eq_true rfl) (Nat.le_of_ble_eq_true rfl) rfl rfl (Nat.le_of_ble_eq_true rfl) (Nat.le_of_ble_eq_true rfl) rfl ?_
      refine s_X2_makerAt (by decide) hq s1 (hGo_i ?_)
      rw [atL_in hi (by omega), em]
      refine G_iadd dX8_writeMakers_21 ?_
      refine cv_X8_83 (cs' := 0) (ss' := 0) dX8_writeMakers_22 (by decide) (Nat.le_of_ble_eq_true rfl) (Nat.le_of_ble_eq_true rfl) (Nat.le_of_ble_eq_true rfl) rfl rfl (Nat.le_of_ble_eq_true rfl) (Nat.le_of_ble_eq_true rfl) rfl ?_
      have hlen : (W ++ mkW (L.take i)).length < tR 1 := by
        rw [List.length_append, mkW_len, List.length_take]
        show _ < 256
        omega
      refine s_X5_append (by decide) t1 hlen (fun M2 t2 f2 => hGo_v ?_)
      refine G_iinc (v := 1) dX8_writeMakers_25 rfl (Nat.le_of_ble_eq_true rfl) (by decide) ?_
      refine G_goto (tgt := 2) dX8_writeMakers_28 (by decide) ?_
      refine G_lv2 (ih M2 ?_ (f1.trans f2)) ⟨rfl, rfl, lvi (nI_1 i), trivial⟩
      have e : mkW (L.take (i + 1)) = mkW (L.take i) ++ [97 + nI m] := by
        unfold mkW
        rw [List.take_succ_eq_append_getElem hi, List.map_append]
        have : L[i] = nI m := by
          rw [← em, List.getD_eq_getElem?_getD, List.getElem?_eq_getElem hi]
          rfl
        rw [this]
        rfl
      rw [e, ← List.append_assoc]
      rw [show (97 : Int32) = nI 97 from rfl, nI_add, b255 (by omega)] at t2
      rw [show (97 : Int32) = nI 97 from rfl, nI_add]
      exact t2
theorem s_X8_writeDebt {i n : Nat} {W : List Int32} {d : List De} (hd : Dbt M 0 d) (hi : i < d.length) (hO : dOk n d) (hn : n ≤ 12) (hW : Txt M 1 W) (hl : W.length ≤ 250) (h : ∀ M', Txt M' 1 (W ++ dbW d i) → Fr (dX 1) M M' → P (.inl none) M') : Sp E yX8_writeDebt cX8_writeDebt zX8_writeDebt [.ref (ad E 0 0 0), .int (nI i)] M P := by
  have h30 := hO.1
  obtain ⟨-, ⟨c, hc, ec⟩, ⟨s, hs, es⟩, v, v1, v2, ev⟩ := hO.2.1 i hi
  have hd0 := hd.2.2 i hi
  have ed : dbW d i = [nI 32, nI (97 + c), if s = 0 then nI 115 else nI 118] ++ (if 9 < v then [nI (48 + v / 10), nI (48 + v % 10)] else [nI (48 + v % 10)]) := by
    unfold dbW num2
    rw [ec, es, ev, show (97 : Int32) = nI 97 from rfl, nI_add, show (10 : Int32) = nI 10 from rfl, pk_rem (by omega) (by decide) (by decide), pk_div (by omega) (by decide) (by decide), show (48 : Int32) = nI 48 from rfl, nI_add, nI_add]
    by_cases q : 9 < v
    · rw [if_pos q, if_pos (show (9 : Int32) < nI v from nI_lt (a := 9) q (by omega))]
      rcases (show s = 0 ∨ s = 1 by omega) with rfl | rfl <;> rfl
    · rw [if_neg q, if_neg (show ¬ (9 : Int32) < nI v from nI_nlt (b := v) (a := 9) (by omega) (by decide))]
      rcases (show s = 0 ∨ s = 1 by omega) with rfl | rfl <;> rfl
  rw [ed] at h
  have dk : ∀ {M1 : Mm}, Fr (dX 1) M M1 → ∀ t, t < 4 → M1.1 10 0 t i = dg d i t := fun hf t ht => (hf.at (fun z => by have z' : (10 = 2 ∨ 10 = 3) ∧ 0 = 1 := z; omega) i).trans (hd0 t ht)
  have i30 : i < 30 := by omega
  refine Sp_of (own := RX8) (by decide) rfl rfl (Nat.le_of_ble_eq_true rfl) (fun C => ?_)
  refine G_aload_n dX8_writeDebt_0 rfl ?_
  refine gf_X8_26 dX8_writeDebt_1  ?_
  refine gf_X8_174 dX8_writeDebt_4 (by decide) ?_
  refine gf_X8_285 dX8_writeDebt_7 (by decide) ?_
  refine G_iload_n dX8_writeDebt_10 rfl ?_
  refine G_iald dX8_writeDebt_11 ⟨by decide, by decide⟩ rfl rfl i30 (by decide) ?_
  rw [hd0 3 (by decide), ev]
  refine G_istore_n dX8_writeDebt_12 (Nat.le_of_ble_eq_true rfl) ?_
  refine G_aload_n dX8_writeDebt_13 rfl ?_
  refine gf_X8_57 dX8_writeDebt_14  ?_
  refine G_bipush (v := 32) dX8_writeDebt_17 (by decide) ?_
  refine cv_X8_83 (cs' := 0) (ss' := 0) dX8_writeDebt_19 (by decide) (Nat.le_of_ble_eq_true rfl) (Nat.le_of_ble_eq_true rfl) (Nat.le_of_ble_eq_true rfl) rfl rfl (Nat.le_of_ble_eq_true rfl) (Nat.le_of_ble_eq_true rfl) rfl ?_
  refine s_X5_append (by decide) hW (by show _ < 256; omega) (fun M1 t1 f1 => hGo_v ?_)
  refine G_aload_n dX8_writeDebt_22 rfl ?_
  refine gf_X8_57 dX8_writeDebt_23  ?_
  refine G_bipush (v := 97) dX8_writeDebt_26 (by decide) ?_
  refine G_aload_n dX8_writeDebt_28 rfl ?_
  refine gf_X8_26 dX8_writeDebt_29  ?_
  refine gf_X8_174 dX8_writeDebt_32 (by decide) ?_
  refine gf_X8_279 dX8_writeDebt_35 (by decide) ?_
  refine G_iload_n dX8_writeDebt_38 rfl ?_
  refine G_iald dX8_writeDebt_39 ⟨by decide, by decide⟩ rfl rfl i30 (by decide) ?_
  rw [dk f1 1 (by decide), ec]
  refine G_iadd dX8_writeDebt_40 ?_
  refine cv_X8_83 (cs' := 0) (ss' := 0) dX8_writeDebt_41 (by decide) (Nat.le_of_ble_eq_true rfl) (Nat.le_of_ble_eq_true rfl) (Nat.le_of_ble_eq_true rfl) rfl rfl (Nat.le_of_ble_eq_true rfl) (Nat.le_of_ble_eq_true rfl) rfl ?_
  rw [show (97 : Int32) = nI 97 from rfl, nI_add]
  rw [show (32 : Int32) = nI 32 from rfl, b255 (by decide)] at t1
  refine s_X5_append (by decide) t1 (by rw [List.length_append]; show _ + 1 < 256; omega) (fun M2 t2 f2 => hGo_v ?_)
  rw [b255 (by omega)] at t2
  have f12 := f1.trans f2
  refine G_aload_n dX8_writeDebt_44 rfl ?_
  refine gf_X8_57 dX8_writeDebt_45  ?_
  refine G_aload_n dX8_writeDebt_48 rfl ?_
  refine gf_X8_26 dX8_writeDebt_49  ?_
  refine gf_X8_174 dX8_writeDebt_52 (by decide) ?_
  refine gf_X8_282 dX8_writeDebt_55 (by decide) ?_
  refine G_iload_n dX8_writeDebt_58 rfl ?_
  refine G_iald dX8_writeDebt_59 ⟨by decide, by decide⟩ rfl rfl i30 (by decide) ?_
  rw [dk f12 2 (by decide), es]
  have l2 : (W ++ [nI 32] ++ [nI (97 + c)]).length = W.length + 2 := by simp
  have g70 : ∀ (x : Int32), x = (if s = 0 then nI 115 else nI 118) → ∀ lv, lvf lv 0 = some (.ref (ad E 0 0 0)) → lvf lv 2 = some (.int (nI v)) → G E C RX8 cX8_writeDebt zX8_writeDebt P 0 0 M2 70 lv [.int x, .ref (ad E 2 1 0)] := fun x hx lv a0 a2 => by
    refine G_lv (lv' := [(0, .ref (ad E 0 0 0)), (2, .int (nI v))]) ⟨a0, a2, trivial⟩ ?_
    refine cv_X8_83 (cs' := 0) (ss' := 0) dX8_writeDebt_70 (by decide) (Nat.le_of_ble_eq_true rfl) (Nat.le_of_ble_eq_true rfl) (Nat.le_of_ble_eq_true rfl) rfl rfl (Nat.le_of_ble_eq_true rfl) (Nat.le_of_ble_eq_true rfl) rfl ?_
    refine s_X5_append (by decide) t2 (by rw [l2]; show _ < 256; omega) (fun M3 t3 f3 => hGo_v ?_)
    have ex : x &&& 255 = x := by
      rw [hx]
      split <;> exact b255 (by decide)
    rw [ex, hx] at t3
    have f13 := f12.trans f3
    have l3 : (W ++ [nI 32] ++ [nI (97 + c)] ++ [if s = 0 then nI 115 else nI 118]).length = W.length + 3 := by simp
    have g93 : ∀ M4 X, Txt M4 1 X → X.length ≤ W.length + 4 → Fr (dX 1) M M4 → (∀ M', Txt M' 1 (X ++ [nI (48 + v % 10)]) → Fr (dX 1) M M' → P (.inl none) M') → ∀ lv, lvf lv 0 = some (.ref (ad E 0 0 0)) → lvf lv 2 = some (.int (nI v)) → G E C RX8 cX8_writeDebt zX8_writeDebt P 0 0 M4 93 lv [] := fun M4 X t4 l4 f4 hk lv a0 a2 => by
      refine G_lv (lv' := [(0, .ref (ad E 0 0 0)), (2, .int (nI v))]) ⟨a0, a2, trivial⟩ ?_
      refine G_aload_n dX8_writeDebt_93 rfl ?_
      refine gf_X8_57 dX8_writeDebt_94  ?_
      refine G_bipush (v := 48) dX8_writeDebt_97 (by decide) ?_
      refine G_iload_n dX8_writeDebt_99 rfl ?_
      refine G_bipush (v := 10) dX8_writeDebt_100 (by decide) ?_
      refine G_irem dX8_writeDebt_102 (by decide) ?_
      rw [show nI v - nI v / 10 * 10 = nI (v % 10) from pk_rem (d := 10) (by omega) (by decide) (by decide)]
      refine G_iadd dX8_writeDebt_103 ?_
      refine cv_X8_83 (cs' := 0) (ss' := 0) dX8_writeDebt_104 (by decide) (Nat.le_of_ble_eq_true rfl) (Nat.le_of_ble_eq_true rfl) (Nat.le_of_ble_eq_true rfl) rfl rfl (Nat.le_of_ble_eq_true rfl) (Nat.le_of_ble_eq_true rfl) rfl ?_
      rw [show (48 : Int32) = nI 48 from rfl, nI_add]
      refine s_X5_append (by decide) t4 (by show _ < 256; omega) (fun M5 t5 f5 => hGo_v ?_)
      rw [b255 (by omega)] at t5
      refine G_vret dX8_writeDebt_107 rfl (Nat.le_of_ble_eq_true rfl) (Nat.le_of_ble_eq_true rfl) ?_
      exact hk M5 t5 (f4.trans f5)
    refine G_iload_n dX8_writeDebt_73 rfl ?_
    refine G_bipush (v := 9) dX8_writeDebt_74 (by decide) ?_
    refine G_icmp_le (tgt := 93) dX8_writeDebt_76 (by decide) (fun c76 => ?_) (fun c76 => ?_)
    · have q : ¬ 9 < v := fun z => absurd (show (9 : Int32) < nI v from nI_lt (a := 9) z (by omega)) (Int32.not_lt.mpr c76)
      rw [if_neg q] at h
      refine g93 M3 _ t3 (by rw [l3]; omega) f13 (fun M' t' f' => h M' ?_ f') _ rfl rfl
      rw [List.append_assoc, List.append_assoc, List.append_assoc] at t'
      exact t'
    · have q : 9 < v := by
        rcases Nat.lt_or_ge 9 v with z | z
        · exact z
        · exact absurd (show nI v ≤ 9 from nI_le (b := 9) z (by decide)) c76
      rw [if_pos q] at h
      refine G_aload_n dX8_writeDebt_79 rfl ?_
      refine gf_X8_57 dX8_writeDebt_80  ?_
      refine G_bipush (v := 48) dX8_writeDebt_83 (by decide) ?_
      refine G_iload_n dX8_writeDebt_85 rfl ?_
      refine G_bipush (v := 10) dX8_writeDebt_86 (by decide) ?_
      refine G_idiv dX8_writeDebt_88 (by decide) ?_
      rw [show nI v / 10 = nI (v / 10) from pk_div (d := 10) (by omega) (by decide) (by decide)]
      refine G_iadd dX8_writeDebt_89 ?_
      refine cv_X8_83 (cs' := 0) (ss' := 0) dX8_writeDebt_90 (by decide) (Nat.le_of_ble_eq_true rfl) (Nat.le_of_ble_eq_true rfl) (Nat.le_of_ble_eq_true rfl) rfl rfl (Nat.le_of_ble_eq_true rfl) (Nat.le_of_ble_eq_true rfl) rfl ?_
      rw [show (48 : Int32) = nI 48 from rfl, nI_add]
      refine s_X5_append (by decide) t3 (by rw [l3]; show _ < 256; omega) (fun M4 t4 f4 => hGo_v ?_)
      rw [b255 (by omega)] at t4
      refine g93 M4 _ t4 (by rw [List.length_append, l3]; exact Nat.le_refl _) (f13.trans f4) (fun M' t' f' => h M' ?_ f') _ rfl rfl
      rw [List.append_assoc, List.append_assoc, List.append_assoc, List.append_assoc] at t'
      exact t'
  refine G_if_ne (tgt := 68) dX8_writeDebt_60 (by decide) (fun c60 => ?_) (fun c60 => ?_)
  · have q : ¬ s = 0 := fun z => c60 (by rw [z]; rfl)
    refine G_bipush (v := 118) dX8_writeDebt_68 (by decide) ?_
    exact g70 _ (by rw [if_neg q]; rfl) _ rfl rfl
  · have q : s = 0 := (nI_eq (b := 0) (by omega) (by decide)).mp c60
    refine G_bipush (v := 115) dX8_writeDebt_63 (by decide) ?_
    refine G_goto (tgt := 70) dX8_writeDebt_65 (by decide) ?_
    exact g70 _ (by rw [if_pos q]; rfl) _ rfl rfl
theorem s_X8_write {x : Int32} (hC : CG M g) (hO : Okg g) (h : ∀ M', CG M' (qWrite g x).1 → Fr dCl M M' → P (rs xP (qWrite g x).2) M') : Sp E yX8_write cX8_write zX8_write [.ref (ad E 0 0 0), .int x] M P := by
  unfold qWrite at h
  have hA := hC.1
  have h12 := hA.n12
  have hm : ∀ q, q < 2 * g.A.n → mOk 12 (g.A.s q) := fun q hq => ⟨(hO.1.2.2.2.1 q hq).1, fun k hk => by
    obtain ⟨m, m1, m2⟩ := (hO.1.2.2.2.1 q hq).2 k hk
    exact ⟨m, by omega, m2⟩⟩
  refine Sp_of (own := RX8) (by decide) rfl rfl (Nat.le_of_ble_eq_true rfl) (fun C => ?_)
  refine G_aload_n dX8_write_0 rfl ?_
  refine G_iload_n dX8_write_1 rfl ?_
  refine cv_X8_200 (cs' := 1) (ss' := 6) dX8_write_2  (Nat.le_of_ble_eq_true rfl) (Nat.le_of_ble_eq_true rfl) (Nat.le_of_ble_eq_true rfl) rfl rfl (Nat.le_of_ble_eq_true rfl) (Nat.le_of_ble_eq_true rfl) rfl ?_
  refine s_X8_needPupil hA (fun c1 => hGo_v ?_) (fun c1 => hGo_x (by rw [if_neg c1] at h; exact h M hC Fr.rfl))
  rw [if_pos c1] at h
  obtain ⟨p, hp, rfl, ep⟩ := in_ix c1 (by omega)
  rw [ep] at h
  have h30 := hO.1.2.2.2.2.1
  have l0 := (hm (2 * p) (by omega)).1
  have l1 := (hm (2 * p + 1) (by omega)).1
  refine G_aload_n dX8_write_5 rfl ?_
  refine gf_X8_57 dX8_write_6  ?_
  refine G_iconst (v := 0) dX8_write_9 (by decide) ?_
  refine cv_X8_90 (cs' := 1) (ss' := 6) dX8_write_10 (by decide) (Nat.le_of_ble_eq_true rfl) (Nat.le_of_ble_eq_true rfl) (Nat.le_of_ble_eq_true rfl) rfl rfl (Nat.le_of_ble_eq_true rfl) (Nat.le_of_ble_eq_true rfl) rfl ?_
  refine s_X5_cut (n := 0) (by decide) hC.2.2.2.2.2.1 (Nat.zero_le _) (fun M1 t1 f1 => hGo_v ?_)
  rw [List.take_zero] at t1
  have ck : ∀ {M2 : Mm}, Fr (dX 1) M M2 → CR M2 0 g.A := fun hf => hA.frD hf (fun k j p z y => by have z' : (k = 2 ∨ k = 3) ∧ j = 1 := z; omega)
  refine G_aload_n dX8_write_13 rfl ?_
  refine G_aload_n dX8_write_14 rfl ?_
  refine gf_X8_26 dX8_write_15  ?_
  refine gf_X8_203 dX8_write_18 (by decide) ?_
  refine G_iload_n dX8_write_21 rfl ?_
  refine G_aald dX8_write_22 ⟨by decide, rfl⟩ rfl rfl rfl (show p < 12 by omega) (by decide) rfl ?_
  refine gf_X8_234 dX8_write_23 (by decide) (show _ < 12 by omega) ?_
  refine cv_X8_418 (cs' := 1) (ss' := 6) dX8_write_26  (Nat.le_of_ble_eq_true rfl) (Nat.le_of_ble_eq_true rfl) (Nat.le_of_ble_eq_true rfl) rfl rfl (Nat.le_of_ble_eq_true rfl) (Nat.le_of_ble_eq_true rfl) rfl ?_
  refine s_X8_writeMakers (by omega) (show Sat M1 0 (2 * p) (g.A.s (2 * p)) from (ck f1).s hp (t := 0) (by decide)) (hm _ (by omega)) t1 (by decide) (fun M2 t2 f2 => hGo_v ?_)
  rw [List.nil_append] at t2
  refine G_aload_n dX8_write_29 rfl ?_
  refine gf_X8_57 dX8_write_30  ?_
  refine G_bipush (v := 47) dX8_write_33 (by decide) ?_
  refine cv_X8_83 (cs' := 1) (ss' := 6) dX8_write_35 (by decide) (Nat.le_of_ble_eq_true rfl) (Nat.le_of_ble_eq_true rfl) (Nat.le_of_ble_eq_true rfl) rfl rfl (Nat.le_of_ble_eq_true rfl) (Nat.le_of_ble_eq_true rfl) rfl ?_
  refine s_X5_append (by decide) t2 (by rw [mkW_len]; show _ < 256; omega) (fun M3 t3 f3 => hGo_v ?_)
  rw [show (47 : Int32) &&& 255 = 47 by decide] at t3
  have f13 := (f1.trans f2).trans f3
  refine G_aload_n dX8_write_38 rfl ?_
  refine G_aload_n dX8_write_39 rfl ?_
  refine gf_X8_26 dX8_write_40  ?_
  refine gf_X8_203 dX8_write_43 (by decide) ?_
  refine G_iload_n dX8_write_46 rfl ?_
  refine G_aald dX8_write_47 ⟨by decide, rfl⟩ rfl rfl rfl (show p < 12 by omega) (by decide) rfl ?_
  refine gf_X8_241 dX8_write_48 (by decide) (show _ < 12 by omega) ?_
  refine cv_X8_418 (cs' := 1) (ss' := 6) dX8_write_51  (Nat.le_of_ble_eq_true rfl) (Nat.le_of_ble_eq_true rfl) (Nat.le_of_ble_eq_true rfl) rfl rfl (Nat.le_of_ble_eq_true rfl) (Nat.le_of_ble_eq_true rfl) rfl ?_
  refine s_X8_writeMakers (by omega) ((ck f13).s hp (t := 1) (by decide)) (hm _ (by omega)) t3 (by rw [List.length_append, mkW_len]; show _ + 1 ≤ 200; omega) (fun M4 t4 f4 => hGo_v ?_)
  have f14 := f13.trans f4
  have lW : (mkW (g.A.s (2 * p)) ++ [47] ++ mkW (g.A.s (2 * p + 1))).length ≤ 41 := by
    rw [List.length_append, List.length_append, mkW_len, mkW_len]
    show (g.A.s (2 * p)).length + 1 + (g.A.s (2 * p + 1)).length ≤ 41
    omega
  refine G_iconst (v := 0) dX8_write_54 (by decide) ?_
  refine G_istore_n dX8_write_55 (Nat.le_of_ble_eq_true rfl) ?_
  refine G_lv (lv' := [(0, .ref (ad E 0 0 0)), (1, .int (nI p)), (2, .int (nI 0))]) ⟨rfl, rfl, rfl, trivial⟩ ?_
  refine up0 (c := g.A.d.length) (H := fun i => ∀ M', Txt M' 1 (mkW (g.A.s (2 * p)) ++ [47] ++ mkW (g.A.s (2 * p + 1)) ++ dbsW g.A.d (nI p) i) → Fr (dX 1) M M' → G E C RX8 cX8_write zX8_write P 1 6 M' 56 [(0, .ref (ad E 0 0 0)), (1, .int (nI p)), (2, .int (nI i))] []) (fun M5 t5 f5 => ?_) (fun i hi ih M5 t5 f5 => ?_) M4 (by show Txt M4 1 (_ ++ []); rw [List.append_nil]; exact t4) f14
  · refine G_iload_n dX8_write_56 rfl ?_
    refine G_aload_n dX8_write_57 rfl ?_
    refine gf_X8_26 dX8_write_58  ?_
    refine gf_X8_174 dX8_write_61 (by decide) ?_
    refine gf_X8_178 dX8_write_64 (by decide) ?_
    rw [(ck f5).d.1]
    refine G_icmp_ge (tgt := 97) dX8_write_67 (by decide) (fun c67 => ?_) (fun c67 => ?_)
    · refine G_aload_n dX8_write_97 rfl ?_
      refine gf_X8_57 dX8_write_98  ?_
      refine gf_X8_72 dX8_write_101 (by decide) ?_
      rw [t5.1]
      refine G_iret dX8_write_104 rfl rfl (Nat.le_of_ble_eq_true rfl) (Nat.le_of_ble_eq_true rfl) ?_
      exact h M5 (hC.out1 t5 f5) (f5.mono dX_Cl)
    · exact absurd (Int32.le_refl _) c67
  · have a5 := ck f5
    have ld := dbsW_len (d := g.A.d) (x := nI p) i
    refine G_iload_n dX8_write_56 rfl ?_
    refine G_aload_n dX8_write_57 rfl ?_
    refine gf_X8_26 dX8_write_58  ?_
    refine gf_X8_174 dX8_write_61 (by decide) ?_
    refine gf_X8_178 dX8_write_64 (by decide) ?_
    rw [a5.d.1]
    refine G_icmp_ge (tgt := 97) dX8_write_67 (by decide) (fun c67 => ?_) (fun c67 => ?_)
    · exact absurd c67 (nI_ge hi (by omega))
    · refine G_aload_n dX8_write_70 rfl ?_
      refine gf_X8_26 dX8_write_71  ?_
      refine gf_X8_174 dX8_write_74 (by decide) ?_
      refine gf_X8_276 dX8_write_77 (by decide) ?_
      refine G_iload_n dX8_write_80 rfl ?_
      refine G_iald dX8_write_81 ⟨by decide, by decide⟩ rfl rfl (show i < 30 by omega) (by decide) ?_
      rw [a5.d.2.2 i hi 0 (by decide)]
      have eD : dbsW g.A.d (nI p) (i + 1) = dbsW g.A.d (nI p) i ++ (if dg g.A.d i 0 = nI p then dbW g.A.d i else []) := rfl
      refine G_iload_n dX8_write_82 rfl ?_
      refine G_icmp_ne (tgt := 91) dX8_write_83 (by decide) (fun c83 => ?_) (fun c83 => ?_)
      · refine G_iinc (v := 1) dX8_write_91 rfl (Nat.le_of_ble_eq_true rfl) (by decide) ?_
        refine G_goto (tgt := 56) dX8_write_94 (by decide) ?_
        refine G_lv2 (ih M5 ?_ f5) ⟨rfl, rfl, lvi (nI_1 i), trivial⟩
        rw [eD, if_neg c83, List.append_nil]
        exact t5
      · refine G_aload_n dX8_write_86 rfl ?_
        refine G_iload_n dX8_write_87 rfl ?_
        refine cv_X8_422 (cs' := 1) (ss' := 6) dX8_write_88  (Nat.le_of_ble_eq_true rfl) (Nat.le_of_ble_eq_true rfl) (Nat.le_of_ble_eq_true rfl) rfl rfl (Nat.le_of_ble_eq_true rfl) (Nat.le_of_ble_eq_true rfl) rfl ?_
        refine s_X8_writeDebt a5.d hi hO.1.2.2.2.2 h12 t5 (by rw [List.length_append]; omega) (fun M6 t6 f6 => hGo_v ?_)
        refine G_iinc (v := 1) dX8_write_91 rfl (Nat.le_of_ble_eq_true rfl) (by decide) ?_
        refine G_goto (tgt := 56) dX8_write_94 (by decide) ?_
        refine G_lv2 (ih M6 ?_ (f5.trans f6)) ⟨rfl, rfl, lvi (nI_1 i), trivial⟩
        rw [eD, if_pos c83, ← List.append_assoc]
        exact t6
end CTXS
