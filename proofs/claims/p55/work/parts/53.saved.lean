/-! ===== HomeworkBarter: undo, saved states, output ===== -/
section CTXS
variable {E : Ed} {M M' : Mm} {P : Res → Mm → Prop} {A : Ab} {g : Gs}
def sUndo (g : Gs) : Gs × Int32 := if g.U.length = 0 then (g, -1) else ((ug g.U (g.U.length - 1), g.U.dropLast, g.2.2), nI (g.U.length - 1))
theorem sUndo_ok (h : Okg g) : Okg (sUndo g).1 := by
  unfold sUndo
  split
  · exact h
  · refine ⟨h.2.1 _ (by omega), fun i hi => ?_, h.2.2⟩
    have hi : i < g.U.dropLast.length := hi
    rw [List.length_dropLast] at hi
    show Ok (ug g.U.dropLast i)
    rw [ug_dl hi]
    exact h.2.1 i (by omega)
theorem s_X8_undo (hC : CG M g) (hO : Okg g) (h : ∀ M', CG M' (sUndo g).1 → Fr dCl M M' → P (.inl (some (.int (sUndo g).2))) M') : Sp E yX8_undo cX8_undo zX8_undo [.ref (ad E 0 0 0)] M P := by
  unfold sUndo at h
  have hU := hC.2.1
  have h6 := hU.1
  refine Sp_of (own := RX8) (by decide) rfl rfl (Nat.le_of_ble_eq_true rfl) (fun C => ?_)
  refine G_aload_n dX8_undo_0 rfl ?_
  refine gf_X8_36 dX8_undo_1  ?_
  refine gf_X8_191 dX8_undo_4  ?_
  rw [hU.2.1]
  refine G_if_ne (tgt := 12) dX8_undo_7 (by decide) (fun c7 => ?_) (fun c7 => ?_)
  · have hl : ¬ g.U.length = 0 := fun q => c7 (by rw [q]; rfl)
    rw [if_neg hl] at h
    refine G_aload_n dX8_undo_12 rfl ?_
    refine gf_X8_36 dX8_undo_13  ?_
    refine G_aload_n dX8_undo_16 rfl ?_
    refine gf_X8_26 dX8_undo_17  ?_
    refine cv_X8_428 (cs' := 0) (ss' := 0) dX8_undo_20  (Nat.le_of_ble_eq_true rfl) (Nat.le_of_ble_eq_true rfl) (Nat.le_of_ble_eq_true rfl) rfl rfl (Nat.le_of_ble_eq_true rfl) (Nat.le_of_ble_eq_true rfl) rfl ?_
    refine s_X7_bringBack hC.1.2.2.2.1 hU (by omega) (hO.2.1 _ (by omega)) (fun M1 u1 a1 f1 => hGo_v ?_)
    have g1 := hC.sch a1 u1 f1
    refine G_aload_n dX8_undo_23 rfl ?_
    refine gf_X8_36 dX8_undo_24  ?_
    refine gf_X8_191 dX8_undo_27  ?_
    rw [u1.2.1, List.length_dropLast]
    refine G_iret dX8_undo_30 rfl rfl (Nat.le_of_ble_eq_true rfl) (Nat.le_of_ble_eq_true rfl) ?_
    exact h M1 g1 (f1.mono (fun k j p q => by rcases q with q | q; (show k ≤ 19; omega); exact dC_Cl k j p q))
  · have hl : g.U.length = 0 := by
      rcases Nat.eq_zero_or_pos g.U.length with q | q
      · exact q
      · exact absurd c7 (nI_ne0 q (by omega))
    rw [if_pos hl] at h
    refine G_iconst (v := (-1)) dX8_undo_10 (by decide) ?_
    refine G_iret dX8_undo_11 rfl rfl (Nat.le_of_ble_eq_true rfl) (Nat.le_of_ble_eq_true rfl) ?_
    exact h M hC Fr.rfl
def setS (g : Gs) (s : Nat) : Gs := (g.A, g.U, fun k => if k = s then some g.A else g.S k, g.2.2.2)
def qSave (g : Gs) (x : Int32) : Gs × Qq := if inR x 0 1 then (setS g (tn x), (0, 0)) else thr g 1
/-- what a call without an answer tells -/
def rsv (X : Nat → String) (q : Qq) : Res := if q.1 = 0 then .inl none else .inr (X q.1)
theorem s_X8_save {x : Int32} (hC : CG M g) (hO : Okg g) (h : ∀ M', CG M' (qSave g x).1 → Fr dCl M M' → P (rsv xA (qSave g x).2) M') : Sp E yX8_save cX8_save zX8_save [.ref (ad E 0 0 0), .int x] M P := by
  unfold qSave at h
  refine Sp_of (own := RX8) (by decide) rfl rfl (Nat.le_of_ble_eq_true rfl) (fun C => ?_)
  refine G_iload_n dX8_save_0 rfl ?_
  refine G_iconst (v := 0) dX8_save_1 (by decide) ?_
  refine G_iconst (v := 1) dX8_save_2 (by decide) ?_
  refine cv_X8_86 (cs' := 0) (ss' := 0) dX8_save_3  (Nat.le_of_ble_eq_true rfl) (Nat.le_of_ble_eq_true rfl) (Nat.le_of_ble_eq_true rfl) rfl rfl (Nat.le_of_ble_eq_true rfl) (Nat.le_of_ble_eq_true rfl) rfl ?_
  refine s_X8_needRange (fun c1 => hGo_v ?_) (fun c1 => hGo_x (by rw [if_neg c1] at h; exact h M hC Fr.rfl))
  rw [if_pos c1] at h
  obtain ⟨s, -, hs, rfl, es⟩ := inR_ix (i := 0) (k := 1) (by decide) (by decide) c1
  rw [es] at h
  refine G_aload_n dX8_save_6 rfl ?_
  refine gf_X8_40 dX8_save_7  ?_
  refine G_iload_n dX8_save_10 rfl ?_
  refine G_aald dX8_save_11 ⟨by decide, rfl, rfl⟩ rfl rfl rfl (show s < 2 by omega) (by decide) rfl ?_
  refine G_aload_n dX8_save_12 rfl ?_
  refine gf_X8_26 dX8_save_13  ?_
  refine cv_X8_101 (cs' := 0) (ss' := 0) dX8_save_16 (show 8 + s < 10 by omega) (Nat.le_of_ble_eq_true rfl) (Nat.le_of_ble_eq_true rfl) (Nat.le_of_ble_eq_true rfl) rfl rfl (Nat.le_of_ble_eq_true rfl) (Nat.le_of_ble_eq_true rfl) rfl ?_
  refine s_X3_copyFrom (j := 8 + s) (j2 := 0) (by omega) (by decide) (by omega) hC.1 hO.1.spy ((hC.2.2.1 s (by omega)).1) (fun M1 a1 f1 => hGo_v ?_)
  refine G_aload_n dX8_save_19 rfl ?_
  refine gf_X8_44 dX8_save_20  ?_
  refine G_iload_n dX8_save_23 rfl ?_
  refine G_iconst (v := 1) dX8_save_24 (by decide) ?_
  refine G_zast dX8_save_25 ⟨by decide, rfl, rfl⟩ (fun _ => rfl) rfl (show s < 2 by omega) (by decide) ?_
  refine G_vret dX8_save_26 rfl (Nat.le_of_ble_eq_true rfl) (Nat.le_of_ble_eq_true rfl) ?_
  have f2 : Fr (fun k j _ => k = 18 ∨ (7 ≤ k ∧ k ≤ 14 ∧ j = 8 + s)) M (M1.up 18 0 0 s (vp_nar .boolean 1)) := (f1.mono (fun k j p q => Or.inr q)).up (Or.inl rfl)
  obtain ⟨a, b, c, d, e, f, i⟩ := id hC
  refine h _ ⟨a.frD f2 (fun k j p q z => by omega), b.fr f2 (fun k j p q z => by omega), fun t ht => ?_, d.fr f2 (fun k j p q z => by omega), e.fr f2 (fun k j p q z => by omega), f.fr f2 (fun k j p q z => by omega), fun p hp => (f2.at (fun q => by omega) 0).trans (i p hp)⟩ (f2.mono (fun k j p q => by show k ≤ 19; omega))
  have a1' : CR (M1.up 18 0 0 s (vp_nar .boolean 1)) (8 + s) g.A := a1.keep (fun k _ _ p t => up_nk (by omega))
  by_cases q : t = s
  · subst q
    exact ⟨a1'.2.2.2.1, Or.inr ⟨g.A, if_pos rfl, up_at, a1'⟩⟩
  · obtain ⟨b1, b2⟩ := c t ht
    refine ⟨fun p hp => (f2.at (fun q => by omega) 0).trans (b1 p hp), ?_⟩
    have e18 : (M1.up 18 0 0 s (vp_nar .boolean 1)).1 18 0 0 t = M.1 18 0 0 t := (up_t q).trans (f1.at (fun q => absurd q.2.1 (by decide)) t)
    have eS : (setS g s).S t = g.S t := if_neg q
    rcases b2 with ⟨x1, x2⟩ | ⟨B, x1, x2, x3⟩
    · exact Or.inl ⟨eS.trans x1, e18.trans x2⟩
    · exact Or.inr ⟨B, eS.trans x1, e18.trans x2, x3.frD f2 (fun k j p q z => by omega)⟩
theorem qSave_ok {x : Int32} (h : Okg g) : Okg (qSave g x).1 := by
  unfold qSave
  split
  · refine ⟨h.1, h.2.1, fun s hs B hB => ?_⟩
    have hB : (if s = tn x then some g.A else g.S s) = some B := hB
    split at hB
    · cases hB
      exact h.1
    · exact h.2.2 s hs B hB
  · exact h
def qRestore (g : Gs) (x : Int32) : Gs × Qq := if inR x 0 1 then (match g.S (tn x) with | none => thr g 2 | some B => ((B, [], g.2.2), (0, 0))) else thr g 1
theorem s_X8_restore {x : Int32} (hC : CG M g) (hO : Okg g) (h : ∀ M', CG M' (qRestore g x).1 → Fr dCl M M' → P (rsv xAS (qRestore g x).2) M') : Sp E yX8_restore cX8_restore zX8_restore [.ref (ad E 0 0 0), .int x] M P := by
  unfold qRestore at h
  refine Sp_of (own := RX8) (by decide) rfl rfl (Nat.le_of_ble_eq_true rfl) (fun C => ?_)
  refine G_iload_n dX8_restore_0 rfl ?_
  refine G_iconst (v := 0) dX8_restore_1 (by decide) ?_
  refine G_iconst (v := 1) dX8_restore_2 (by decide) ?_
  refine cv_X8_86 (cs' := 0) (ss' := 0) dX8_restore_3  (Nat.le_of_ble_eq_true rfl) (Nat.le_of_ble_eq_true rfl) (Nat.le_of_ble_eq_true rfl) rfl rfl (Nat.le_of_ble_eq_true rfl) (Nat.le_of_ble_eq_true rfl) rfl ?_
  refine s_X8_needRange (fun c1 => hGo_v ?_) (fun c1 => hGo_x (by rw [if_neg c1] at h; exact h M hC Fr.rfl))
  rw [if_pos c1] at h
  obtain ⟨s, -, hs, rfl, es⟩ := inR_ix (i := 0) (k := 1) (by decide) (by decide) c1
  rw [es] at h
  refine G_aload_n dX8_restore_6 rfl ?_
  refine gf_X8_44 dX8_restore_7  ?_
  refine G_iload_n dX8_restore_10 rfl ?_
  refine G_zald dX8_restore_11 ⟨by decide, rfl, rfl⟩ rfl rfl (show s < 2 by omega) (by decide) ?_
  obtain ⟨b1, b2⟩ := hC.2.2.1 s (by omega)
  rcases b2 with ⟨x1, x2⟩ | ⟨B, x1, x2, x3⟩
  · rw [x1] at h
    have h := h M hC Fr.rfl
    rw [x2]
    refine G_if_ne (tgt := 26) dX8_restore_12 (by decide) (fun c12 => ?_) (fun c12 => ?_)
    · exact absurd rfl c12
    · exact G_thrN h
  · rw [x1] at h
    rw [x2]
    refine G_if_ne (tgt := 26) dX8_restore_12 (by decide) (fun c12 => ?_) (fun c12 => ?_)
    · refine G_aload_n dX8_restore_26 rfl ?_
      refine gf_X8_26 dX8_restore_27  ?_
      refine G_aload_n dX8_restore_30 rfl ?_
      refine gf_X8_40 dX8_restore_31  ?_
      refine G_iload_n dX8_restore_34 rfl ?_
      refine G_aald dX8_restore_35 ⟨by decide, rfl, rfl⟩ rfl rfl rfl (show s < 2 by omega) (by decide) rfl ?_
      refine cv_X8_101 (cs' := 0) (ss' := 0) dX8_restore_36 (by decide) (Nat.le_of_ble_eq_true rfl) (Nat.le_of_ble_eq_true rfl) (Nat.le_of_ble_eq_true rfl) rfl rfl (Nat.le_of_ble_eq_true rfl) (Nat.le_of_ble_eq_true rfl) rfl ?_
      refine s_X3_copyFrom (j := 0) (j2 := 8 + s) (by decide) (by omega) (by omega) x3 (hO.2.2 s (by omega) B x1).spy hC.1.2.2.2.1 (fun M1 a1 f1 => hGo_v ?_)
      have u1 : Und M1 g.U := hC.2.1.fr f1 (fun k j p q z => by have q' : 7 ≤ k ∧ k ≤ 14 ∧ j = 0 := q; omega)
      refine G_aload_n dX8_restore_39 rfl ?_
      refine gf_X8_36 dX8_restore_40  ?_
      refine cv_X8_105 (cs' := 0) (ss' := 0) dX8_restore_43  (Nat.le_of_ble_eq_true rfl) (Nat.le_of_ble_eq_true rfl) (Nat.le_of_ble_eq_true rfl) rfl rfl (Nat.le_of_ble_eq_true rfl) (Nat.le_of_ble_eq_true rfl) rfl ?_
      refine s_X7_forgetAll u1 (fun M2 u2 f2 => hGo_v ?_)
      refine G_vret dX8_restore_46 rfl (Nat.le_of_ble_eq_true rfl) (Nat.le_of_ble_eq_true rfl) ?_
      have a2 : CR M2 0 B := a1.frD f2 (fun k j p q z => by omega)
      exact h M2 (hC.sch a2 u2 ((f1.mono (fun k j p q => Or.inr q)).trans (f2.mono (fun k j p q => Or.inl q)))) ((f1.mono dC_Cl).trans (f2.mono (fun k j p q => by show k ≤ 19; omega)))
    · exact absurd c12 (by decide)
theorem qRestore_ok {x : Int32} (h : Okg g) : Okg (qRestore g x).1 := by
  unfold qRestore
  split
  · rename_i c
    have := inR_ix (i := 0) (k := 1) (by decide) (by decide) c
    obtain ⟨s, -, hs, -, es⟩ := this
    rw [es]
    split
    · exact h
    · rename_i B hB
      exact ⟨h.2.2 s (by omega) B hB, fun i hi => absurd hi (Nat.not_lt_zero i), h.2.2⟩
  · exact h
-- output
def mkW (L : List Int32) : List Int32 := L.map (fun m => 97 + m)
def num2 (v : Int32) : List Int32 := if 9 < v then [48 + v / 10, 48 + (v - v / 10 * 10)] else [48 + (v - v / 10 * 10)]
def dbW (d : List De) (i : Nat) : List Int32 := [32, 97 + dg d i 1, if dg d i 2 = 0 then 115 else 118] ++ num2 (dg d i 3)
def dbsW (d : List De) (x : Int32) : Nat → List Int32
  | 0 => []
  | k + 1 => dbsW d x k ++ (if dg d k 0 = x then dbW d k else [])
def wrV (A : Ab) (p : Nat) : List Int32 := mkW (A.s (2 * p)) ++ [47] ++ mkW (A.s (2 * p + 1)) ++ dbsW A.d (nI p) A.d.length
def qWrite (g : Gs) (x : Int32) : Gs × Qq := if inP g.A x then (setW g (wrV g.A (tn x)), (0, nI (wrV g.A (tn x)).length)) else thr g 1
theorem b255 {n : Nat} (h : n < 256) : nI n &&& 255 = nI n := by
  rw [pk_andN (by omega) 8 (by decide), Nat.mod_eq_of_lt h]
theorem num2_len {v : Int32} : (num2 v).length ≤ 2 := by
  unfold num2
  split <;> simp
theorem dbW_len {d : List De} {i : Nat} : (dbW d i).length ≤ 5 := by
  unfold dbW
  have := num2_len (v := dg d i 3)
  rw [List.length_append]
  show 3 + _ ≤ 5
  omega
theorem dbsW_len {d : List De} {x : Int32} : ∀ k, (dbsW d x k).length ≤ 5 * k
  | 0 => Nat.le_refl 0
  | k + 1 => by
    have := dbsW_len (d := d) (x := x) k
    have h2 := dbW_len (d := d) (i := k)
    unfold dbsW
    rw [List.length_append]
    split
    · omega
    · show _ + 0 ≤ _
      omega
theorem mkW_len {L : List Int32} : (mkW L).length = L.length := List.length_map _
end CTXS
