/-! ===== the law's isWorking, isMoving ===== -/
section LMAKE
variable {E : Ed} {M : Mm} {P : Res → Mm → Prop} {g : Gs} {C : Cx}
theorem makeA_s {A : Ab} {x s n : Nat} : (makeA A x s n).s (2 * x + s) = A.s (2 * x + s) ++ List.replicate n (nI x) := if_pos rfl
theorem getD_rep {L : List Int32} {n : Nat} {v : Int32} (hn : 1 ≤ n) : (L ++ List.replicate n v).getD L.length 0 = v := by
  obtain ⟨m, rfl⟩ : ∃ m, n = m + 1 := ⟨n - 1, by omega⟩
  rw [List.getD_eq_getElem?_getD, List.getElem?_append_right (Nat.le_refl _), Nat.sub_self]
  rfl
theorem room20 {n l : Nat} (hn : n ≤ 20) (hl : l ≤ 20) (h : l + n ≤ 20) : nI n ≤ 20 - nI l := by
  rw [show (20 : Int32) - nI l = nI (20 - l) from pk_sub (a := 20) hl]
  exact nI_le (by omega) (by omega)
theorem l_isWorking {p s n : Nat} (hp : p < g.A.n) (hs : s ≤ 1) (hn1 : 1 ≤ n) (hn : n ≤ 20) (hC : CG M g) (hO : Okg g) (h : ∀ M', CG M' (sWork g p s n).1 → Fr dCl M M' → P (.inl (some (.int 1))) M') : Sp E yL_isWorking cL_isWorking zL_isWorking [.ref (ad E 0 0 0), .int (nI p), .int (nI s), .int (nI n)] M P := by
  have h12 := hC.1.n12
  have hl := (hO.1.2.2.2.1 (2 * p + s) (by omega)).1
  have e9 : (9 : Int32) + nI s = nI (9 + s) := nI_add 9 s
  have e2 : (2 : Int32) + nI s = nI (2 + s) := nI_add 2 s
  refine Sp_of (own := RL) (by decide) rfl rfl (Nat.le_of_ble_eq_true rfl) (fun C => ?_)
  have k65 : ∀ u : Int32, u = (sWork g p s n).2 → (u < 0 ∨ rMake g.A p s n = 0) → G E C RL cL_isWorking zL_isWorking P 0 0 M 65 [(0, .ref (ad E 0 0 0)), (1, .int (nI p)), (2, .int (nI s)), (3, .int (nI n)), (5, .int (nI (g.A.s (2 * p + s)).length))] [.int u] := fun u eu hu => by
    refine G_istore dL_isWorking_65 (Nat.le_of_ble_eq_true rfl) ?_
    refine G_aload_n dL_isWorking_67 rfl ?_
    refine G_iload_n dL_isWorking_68 rfl ?_
    refine G_iload_n dL_isWorking_69 rfl ?_
    refine G_iload_n dL_isWorking_70 rfl ?_
    refine cv_L_166 (cs' := 0) (ss' := 0) dL_isWorking_71  (Nat.le_of_ble_eq_true rfl) (Nat.le_of_ble_eq_true rfl) (Nat.le_of_ble_eq_true rfl) rfl rfl (Nat.le_of_ble_eq_true rfl) (Nat.le_of_ble_eq_true rfl) rfl ?_
    refine u_work hp hs hn1 hn hC hO (fun M1 g1 f1 => hGo_i ?_)
    refine G_iload dL_isWorking_74 rfl ?_
    refine G_icmp_ne (tgt := 116) dL_isWorking_76 (by decide) (fun c76 => ?_) (fun c76 => ?_)
    · exact absurd eu.symm c76
    · refine G_iload dL_isWorking_79 rfl ?_
      refine G_if_lt (tgt := 112) dL_isWorking_81 (by decide) (fun c81 => ?_) (fun c81 => ?_)
      · refine G_iconst (v := 1) dL_isWorking_112 (by decide) ?_
        refine G_goto (tgt := 117) dL_isWorking_113 (by decide) ?_
        refine G_iret dL_isWorking_117 rfl rfl (Nat.le_of_ble_eq_true rfl) (Nat.le_of_ble_eq_true rfl) ?_
        exact h M1 g1 f1
      · have hr : rMake g.A p s n = 0 := hu.resolve_left c81
        have eg : (sWork g p s n).1 = actG g (makeA g.A p s n) := by
          unfold sWork
          rw [if_pos hr]
        have hO1 : Okg (actG g (makeA g.A p s n)) := by
          rw [← eg]
          exact sWork_ok hO hp (by omega) hn
        have g2 : CG M1 (actG g (makeA g.A p s n)) := by
          rw [← eg]
          exact g1
        have hp1 : p < (actG g (makeA g.A p s n)).A.n := hp
        have hl2 := (hO1.1.2.2.2.1 (2 * p + s) (show 2 * p + s < 2 * g.A.n by omega)).1
        rw [show (actG g (makeA g.A p s n)).A.s (2 * p + s) = _ from makeA_s, List.length_append, List.length_replicate] at hl2
        refine G_aload_n dL_isWorking_84 rfl ?_
        refine G_iload_n dL_isWorking_85 rfl ?_
        refine G_bipush (v := 9) dL_isWorking_86 (by decide) ?_
        refine G_iload_n dL_isWorking_88 rfl ?_
        refine G_iadd dL_isWorking_89 ?_
        rw [e9]
        refine cv_L_59 (cs' := 0) (ss' := 0) dL_isWorking_90  (Nat.le_of_ble_eq_true rfl) (Nat.le_of_ble_eq_true rfl) (Nat.le_of_ble_eq_true rfl) rfl rfl (Nat.le_of_ble_eq_true rfl) (Nat.le_of_ble_eq_true rfl) rfl ?_
        refine u_pupil (k := 9 + s) hp1 (by omega) g2 hO1 (hGo_i ?_)
        rw [pupV_s hs, show (actG g (makeA g.A p s n)).A.s (2 * p + s) = _ from makeA_s, List.length_append, List.length_replicate, ← nI_add]
        refine G_iload dL_isWorking_93 rfl ?_
        refine G_iload_n dL_isWorking_95 rfl ?_
        refine G_iadd dL_isWorking_96 ?_
        refine G_icmp_ne (tgt := 116) dL_isWorking_97 (by decide) (fun c97 => ?_) (fun c97 => ?_)
        · exact absurd rfl c97
        · refine G_aload_n dL_isWorking_100 rfl ?_
          refine G_iload_n dL_isWorking_101 rfl ?_
          refine G_iload_n dL_isWorking_102 rfl ?_
          refine G_iload dL_isWorking_103 rfl ?_
          refine cv_L_80 (cs' := 0) (ss' := 0) dL_isWorking_105  (Nat.le_of_ble_eq_true rfl) (Nat.le_of_ble_eq_true rfl) (Nat.le_of_ble_eq_true rfl) rfl rfl (Nat.le_of_ble_eq_true rfl) (Nat.le_of_ble_eq_true rfl) rfl ?_
          refine u_piece (s := s) hp1 hs g2 (hGo_i ?_)
          rw [show (actG g (makeA g.A p s n)).A.s (2 * p + s) = _ from makeA_s, atL_in (by rw [List.length_append, List.length_replicate]; omega) (by rw [List.length_append, List.length_replicate]; omega), getD_rep hn1]
          refine G_iload_n dL_isWorking_108 rfl ?_
          refine G_icmp_ne (tgt := 116) dL_isWorking_109 (by decide) (fun c109 => ?_) (fun c109 => ?_)
          · exact absurd rfl c109
          · refine G_iconst (v := 1) dL_isWorking_112 (by decide) ?_
            refine G_goto (tgt := 117) dL_isWorking_113 (by decide) ?_
            refine G_iret dL_isWorking_117 rfl rfl (Nat.le_of_ble_eq_true rfl) (Nat.le_of_ble_eq_true rfl) ?_
            exact h M1 g1 f1
  refine G_aload_n dL_isWorking_0 rfl ?_
  refine G_iload_n dL_isWorking_1 rfl ?_
  refine G_iconst (v := 5) dL_isWorking_2 (by decide) ?_
  refine cv_L_59 (cs' := 0) (ss' := 0) dL_isWorking_3  (Nat.le_of_ble_eq_true rfl) (Nat.le_of_ble_eq_true rfl) (Nat.le_of_ble_eq_true rfl) rfl rfl (Nat.le_of_ble_eq_true rfl) (Nat.le_of_ble_eq_true rfl) rfl ?_
  refine u_pupil (k := 5) (by first | assumption | omega) (by first | decide | assumption | omega) hC hO (hGo_i ?_)
  refine G_istore dL_isWorking_6 (Nat.le_of_ble_eq_true rfl) ?_
  refine G_aload_n dL_isWorking_8 rfl ?_
  refine G_iload_n dL_isWorking_9 rfl ?_
  refine G_bipush (v := 9) dL_isWorking_10 (by decide) ?_
  refine G_iload_n dL_isWorking_12 rfl ?_
  refine G_iadd dL_isWorking_13 ?_
  rw [e9]
  refine cv_L_59 (cs' := 0) (ss' := 0) dL_isWorking_14  (Nat.le_of_ble_eq_true rfl) (Nat.le_of_ble_eq_true rfl) (Nat.le_of_ble_eq_true rfl) rfl rfl (Nat.le_of_ble_eq_true rfl) (Nat.le_of_ble_eq_true rfl) rfl ?_
  refine u_pupil (k := 9 + s) hp (by omega) hC hO (hGo_i ?_)
  rw [pupV_s hs]
  refine G_istore dL_isWorking_17 (Nat.le_of_ble_eq_true rfl) ?_
  refine G_iload_n dL_isWorking_19 rfl ?_
  refine G_bipush (v := 10) dL_isWorking_20 (by decide) ?_
  refine G_aload_n dL_isWorking_22 rfl ?_
  refine G_iload_n dL_isWorking_23 rfl ?_
  refine G_iconst (v := 2) dL_isWorking_24 (by decide) ?_
  refine G_iload_n dL_isWorking_25 rfl ?_
  refine G_iadd dL_isWorking_26 ?_
  rw [e2]
  refine cv_L_59 (cs' := 0) (ss' := 0) dL_isWorking_27  (Nat.le_of_ble_eq_true rfl) (Nat.le_of_ble_eq_true rfl) (Nat.le_of_ble_eq_true rfl) rfl rfl (Nat.le_of_ble_eq_true rfl) (Nat.le_of_ble_eq_true rfl) rfl ?_
  refine u_pupil (k := 2 + s) hp (by omega) hC hO (hGo_i ?_)
  rw [pupV_k hs]
  refine G_isub dL_isWorking_30 ?_
  refine G_imul dL_isWorking_31 ?_
  refine G_istore dL_isWorking_32 (Nat.le_of_ble_eq_true rfl) ?_
  refine G_iload dL_isWorking_34 rfl ?_
  refine G_iload dL_isWorking_36 rfl ?_
  refine G_icmp_le (tgt := 46) dL_isWorking_38 (by decide) (fun c38 => ?_) (fun c38 => ?_)
  · have c1 : ¬ g.A.f p 5 < nI n * (10 - g.A.f p (2 + s)) := Int32.not_lt.mpr c38
    refine G_iload dL_isWorking_46 rfl ?_
    refine G_iload_n dL_isWorking_48 rfl ?_
    refine G_iadd dL_isWorking_49 ?_
    rw [nI_add]
    refine G_bipush (v := 20) dL_isWorking_50 (by decide) ?_
    refine G_icmp_le (tgt := 60) dL_isWorking_52 (by decide) (fun c52 => ?_) (fun c52 => ?_)
    · have c2 := (nI_leI (by omega) (by decide)).mp (show nI ((g.A.s (2 * p + s)).length + n) ≤ nI 20 from c52)
      have hr : rMake g.A p s n = 0 := by
        unfold rMake
        rw [if_neg c1, if_pos (room20 hn hl c2)]
      refine G_iload dL_isWorking_60 rfl ?_
      refine G_iload dL_isWorking_62 rfl ?_
      refine G_isub dL_isWorking_64 ?_
      refine G_lv2 (k65 _ ?_ (Or.inr hr)) ⟨rfl, rfl, rfl, rfl, rfl, trivial⟩
      unfold sWork
      rw [if_pos hr]
      rfl
    · have c2 : ¬ nI n ≤ 20 - nI (g.A.s (2 * p + s)).length := fun q => c52 (nI_le (a := (g.A.s (2 * p + s)).length + n) (b := 20) (room_ok hn hl q) (by decide))
      have hr : rMake g.A p s n = 3 := by
        unfold rMake
        rw [if_neg c1, if_neg c2]
      refine G_bipush (v := (-3)) dL_isWorking_55 (by decide) ?_
      refine G_goto (tgt := 65) dL_isWorking_57 (by decide) ?_
      refine G_lv2 (k65 _ ?_ (Or.inl (by decide))) ⟨rfl, rfl, rfl, rfl, rfl, trivial⟩
      unfold sWork
      rw [hr]
      rfl
  · have hr : rMake g.A p s n = 2 := by
      unfold rMake
      rw [if_pos (show g.A.f p 5 < nI n * (10 - g.A.f p (2 + s)) from Int32.not_le.mp c38)]
    refine G_bipush (v := (-2)) dL_isWorking_41 (by decide) ?_
    refine G_goto (tgt := 65) dL_isWorking_43 (by decide) ?_
    refine G_lv2 (k65 _ ?_ (Or.inl (by decide))) ⟨rfl, rfl, rfl, rfl, rfl, trivial⟩
    unfold sWork
    rw [hr]
    rfl
end LMAKE
