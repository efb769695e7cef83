/-! ===== the law's loop ===== -/
section LLOOP
variable {E : Ed} {C : Cx} {P : Res → Mm → Prop} {a L : Nat} {xs : Nat → Int32}
theorem le5 {i : Nat} (hi : i < 4000) (hL : L ≤ 2560) (h : nI i ≤ nI L - 5) : i + 5 ≤ L := by
  rcases Nat.lt_or_ge L 5 with q | q
  · exfalso
    have h0 : (0 : Int32) ≤ nI L - 5 := Int32.le_trans (nI_pos' (by omega)) h
    rcases (show L = 0 ∨ L = 1 ∨ L = 2 ∨ L = 3 ∨ L = 4 by omega) with rfl | rfl | rfl | rfl | rfl <;> exact absurd h0 (by decide)
  · rw [show nI L - 5 = nI (L - 5) from nI_subN (a := 5) q] at h
    have := (nI_leI (by omega) (by omega)).mp h
    omega
theorem l_loop (hX : hSc E C a L xs) (hL : L ≤ 2560) (hend : ∀ (cs ss : Nat) (M : Mm) (lv : List (Nat × Value)), cs ≤ 601024 → ss ≤ 7293034 → G E C RL cL_law zLw P cs ss M 3395 lv [.int 1]) : ∀ (n i cs ss : Nat) (M : Mm) (g : Gs), L < i + 5 + 5 * n → i ≤ 3000 → i + 5 * n ≤ 3500 → cs + 4 * n ≤ 601024 → ss + 24 * n ≤ 7293034 → CG M g → MG M g → Okg g → G E C RL cL_law zLw P cs ss M 28 (lvL E a i) [] := by
  intro n
  induction n with
  | zero =>
    intro i cs ss M g h1 h2 h3 h4 h5 hC hG hO
    refine G_iload dL_law_28 rfl ?_
    refine G_aload_n dL_law_30 rfl ?_
    refine G_slenL dL_law_31 hX ?_
    refine G_iconst (v := 5) dL_law_32 (by decide) ?_
    refine G_isub dL_law_33 ?_
    refine G_icmp_gt (tgt := 3394) dL_law_34 (by decide) (fun c => ?_) (fun c => ?_)
    · refine G_iconst (v := 1) dL_law_3394 (by decide) ?_
      exact hend cs ss M _ (by omega) (by omega)
    · have := le5 (by omega) hL (Int32.not_lt.mp c)
      omega
  | succ n ih =>
    intro i cs ss M g h1 h2 h3 h4 h5 hC hG hO
    refine G_iload dL_law_28 rfl ?_
    refine G_aload_n dL_law_30 rfl ?_
    refine G_slenL dL_law_31 hX ?_
    refine G_iconst (v := 5) dL_law_32 (by decide) ?_
    refine G_isub dL_law_33 ?_
    refine G_icmp_gt (tgt := 3394) dL_law_34 (by decide) (fun c => ?_) (fun c => ?_)
    · refine G_iconst (v := 1) dL_law_3394 (by decide) ?_
      exact hend cs ss M _ (by omega) (by omega)
    · have hi := le5 (by omega) hL (Int32.not_lt.mp c)
      have next : ∀ (M' : Mm) (g' : Gs), CG M' g' → MG M' g' → Okg g' → G E C RL cL_law zLw P (cs + 4) (ss + 24) M' 3388 (lvL E a i) [] := by
        intro M' g' hC' hG' hO'
        refine G_iinc (v := 5) dL_law_3388 rfl (Nat.le_of_ble_eq_true rfl) (by decide) ?_
        refine G_goto (tgt := 28) dL_law_3391 (by decide) ?_
        exact G_lv2 (ih (i + 5) (cs + 4) (ss + 24) M' g' (by omega) (by omega) (by omega) (by omega) (by omega) hC' hG' hO') ⟨rfl, rfl, rfl, rfl, rfl, lvi (show nI i + 5 = nI (i + 5) from nI_add i 5), trivial⟩
      have hcs : cs + 4 ≤ 601024 := by omega
      have hss : ss + 24 ≤ 7293034 := by omega
      refine G_aload_n dL_law_37 rfl ?_
      refine G_iload dL_law_38 rfl ?_
      refine G_sld dL_law_40 hX rfl (by omega) (by omega) ?_
      refine G_bipush (v := 63) dL_law_41 (by decide) ?_
      refine G_iand dL_law_43 ?_
      generalize xs i &&& 63 = x
      by_cases hx : x.toInt < 0 ∨ 51 < x.toInt
      · refine G_tOut (tgt := 3388) dL_law_44 hx (by decide) ?_
        exact G_wid (by omega) (by omega) (next M g hC hG hO)
      · obtain ⟨k, hk, rfl⟩ : ∃ k : Nat, k ≤ 51 ∧ x = nI k := nI_of2 (M := 51) (n := 51) (by decide) (fun q => hx (Or.inl (Int32.lt_iff_toInt_lt.mp q))) (Int32.not_lt.mp (fun q => hx (Or.inr (Int32.lt_iff_toInt_lt.mp q))))
        clear hx
        rcases (show k = 0 ∨ k = 1 ∨ k = 2 ∨ k = 3 ∨ k = 4 ∨ k = 5 ∨ k = 6 ∨ k = 7 ∨ k = 8 ∨ k = 9 ∨ k = 10 ∨ k = 11 ∨ k = 12 ∨ k = 13 ∨ k = 14 ∨ k = 15 ∨ k = 16 ∨ k = 17 ∨ k = 18 ∨ k = 19 ∨ k = 20 ∨ k = 21 ∨ k = 22 ∨ k = 23 ∨ k = 24 ∨ k = 25 ∨ k = 26 ∨ k = 27 ∨ k = 28 ∨ k = 29 ∨ k = 30 ∨ k = 31 ∨ k = 32 ∨ k = 33 ∨ k = 34 ∨ k = 35 ∨ k = 36 ∨ k = 37 ∨ k = 38 ∨ k = 39 ∨ k = 40 ∨ k = 41 ∨ k = 42 ∨ k = 43 ∨ k = 44 ∨ k = 45 ∨ k = 46 ∨ k = 47 ∨ k = 48 ∨ k = 49 ∨ k = 50 ∨ k = 51 by omega) with rfl | rfl | rfl | rfl | rfl | rfl | rfl | rfl | rfl | rfl | rfl | rfl | rfl | rfl | rfl | rfl | rfl | rfl | rfl | rfl | rfl | rfl | rfl | rfl | rfl | rfl | rfl | rfl | rfl | rfl | rfl | rfl | rfl | rfl | rfl | rfl | rfl | rfl | rfl | rfl | rfl | rfl | rfl | rfl | rfl | rfl | rfl | rfl | rfl | rfl | rfl | rfl
        · refine G_tIn (off := 224) (tgt := 268) dL_law_44 (by decide) (by decide) rfl (by decide) ?_
          exact l_appendText hX hi hL hcs hss hC hG hO next
        · refine G_tIn (off := 280) (tgt := 324) dL_law_44 (by decide) (by decide) rfl (by decide) ?_
          exact l_truncateText hX hi hL hcs hss hC hG hO next
        · refine G_tIn (off := 336) (tgt := 380) dL_law_44 (by decide) (by decide) rfl (by decide) ?_
          exact l_load hX hi hL hcs hss hC hG hO next
        · refine G_tIn (off := 349) (tgt := 393) dL_law_44 (by decide) (by decide) rfl (by decide) ?_
          exact l_play hX hi hL hcs hss hC hG hO next
        · refine G_tIn (off := 362) (tgt := 406) dL_law_44 (by decide) (by decide) rfl (by decide) ?_
          exact l_errorCode hX hi hL hcs hss hC hG hO next
        · refine G_tIn (off := 375) (tgt := 419) dL_law_44 (by decide) (by decide) rfl (by decide) ?_
          exact l_errorPosition hX hi hL hcs hss hC hG hO next
        · refine G_tIn (off := 388) (tgt := 432) dL_law_44 (by decide) (by decide) rfl (by decide) ?_
          exact l_count hX hi hL hcs hss hC hG hO next
        · refine G_tIn (off := 444) (tgt := 488) dL_law_44 (by decide) (by decide) rfl (by decide) ?_
          exact l_tally hX hi hL hcs hss hC hG hO next
        · refine G_tIn (off := 500) (tgt := 544) dL_law_44 (by decide) (by decide) rfl (by decide) ?_
          exact l_pupil hX hi hL hcs hss hC hG hO next
        · refine G_tIn (off := 568) (tgt := 612) dL_law_44 (by decide) (by decide) rfl (by decide) ?_
          exact l_piece hX hi hL hcs hss hC hG hO next
        · refine G_tIn (off := 648) (tgt := 692) dL_law_44 (by decide) (by decide) rfl (by decide) ?_
          exact l_madeBy hX hi hL hcs hss hC hG hO next
        · refine G_tIn (off := 728) (tgt := 772) dL_law_44 (by decide) (by decide) rfl (by decide) ?_
          exact l_debt hX hi hL hcs hss hC hG hO next
        · refine G_tIn (off := 796) (tgt := 840) dL_law_44 (by decide) (by decide) rfl (by decide) ?_
          exact l_owes hX hi hL hcs hss hC hG hO next
        · refine G_tIn (off := 876) (tgt := 920) dL_law_44 (by decide) (by decide) rfl (by decide) ?_
          exact l_isNear hX hi hL hcs hss hC hG hO next
        · refine G_tIn (off := 951) (tgt := 995) dL_law_44 (by decide) (by decide) rfl (by decide) ?_
          exact l_witness hX hi hL hcs hss hC hG hO next
        · refine G_tIn (off := 1019) (tgt := 1063) dL_law_44 (by decide) (by decide) rfl (by decide) ?_
          exact l_bench hX hi hL hcs hss hC hG hO next
        · refine G_tIn (off := 1087) (tgt := 1131) dL_law_44 (by decide) (by decide) rfl (by decide) ?_
          exact l_seers hX hi hL hcs hss hC hG hO next
        · refine G_tIn (off := 1155) (tgt := 1199) dL_law_44 (by decide) (by decide) rfl (by decide) ?_
          exact l_why hX hi hL hcs hss hC hG hO next
        · refine G_tIn (off := 1223) (tgt := 1267) dL_law_44 (by decide) (by decide) rfl (by decide) ?_
          exact l_most hX hi hL hcs hss hC hG hO next
        · refine G_tIn (off := 1279) (tgt := 1323) dL_law_44 (by decide) (by decide) rfl (by decide) ?_
          exact l_ranked hX hi hL hcs hss hC hG hO next
        · refine G_tIn (off := 1347) (tgt := 1391) dL_law_44 (by decide) (by decide) rfl (by decide) ?_
          exact l_mostOf hX hi hL hcs hss hC hG hO next
        · refine G_tIn (off := 1403) (tgt := 1447) dL_law_44 (by decide) (by decide) rfl (by decide) ?_
          exact l_makers hX hi hL hcs hss hC hG hO next
        · refine G_tIn (off := 1471) (tgt := 1515) dL_law_44 (by decide) (by decide) rfl (by decide) ?_
          exact l_needs hX hi hL hcs hss hC hG hO next
        · refine G_tIn (off := 1539) (tgt := 1583) dL_law_44 (by decide) (by decide) rfl (by decide) ?_
          exact l_nearTo hX hi hL hcs hss hC hG hO next
        · refine G_tIn (off := 1607) (tgt := 1651) dL_law_44 (by decide) (by decide) rfl (by decide) ?_
          exact l_debtOf hX hi hL hcs hss hC hG hO next
        · refine G_tIn (off := 1675) (tgt := 1719) dL_law_44 (by decide) (by decide) rfl (by decide) ?_
          exact l_canPay hX hi hL hcs hss hC hG hO next
        · refine G_tIn (off := 1738) (tgt := 1782) dL_law_44 (by decide) (by decide) rfl (by decide) ?_
          exact l_refusals hX hi hL hcs hss hC hG hO next
        · refine G_tIn (off := 1794) (tgt := 1838) dL_law_44 (by decide) (by decide) rfl (by decide) ?_
          exact l_gap hX hi hL hcs hss hC hG hO next
        · refine G_tIn (off := 1807) (tgt := 1851) dL_law_44 (by decide) (by decide) rfl (by decide) ?_
          exact l_meanMarks hX hi hL hcs hss hC hG hO next
        · refine G_tIn (off := 1848) (tgt := 1892) dL_law_44 (by decide) (by decide) rfl (by decide) ?_
          exact l_ownShare hX hi hL hcs hss hC hG hO next
        · refine G_tIn (off := 1926) (tgt := 1970) dL_law_44 (by decide) (by decide) rfl (by decide) ?_
          exact l_couldMake hX hi hL hcs hss hC hG hO next
        · refine G_tIn (off := 1994) (tgt := 2038) dL_law_44 (by decide) (by decide) rfl (by decide) ?_
          exact l_ifWeek hX hi hL hcs hss hC hG hO next
        · refine G_tIn (off := 2062) (tgt := 2106) dL_law_44 (by decide) (by decide) rfl (by decide) ?_
          exact l_ifPassed hX hi hL hcs hss hC hG hO next
        · refine G_tIn (off := 2130) (tgt := 2174) dL_law_44 (by decide) (by decide) rfl (by decide) ?_
          exact l_freeIn hX hi hL hcs hss hC hG hO next
        · refine G_tIn (off := 2186) (tgt := 2230) dL_law_44 (by decide) (by decide) rfl (by decide) ?_
          exact l_ifMoved hX hi hL hcs hss hC hG hO next
        · refine G_tIn (off := 2266) (tgt := 2310) dL_law_44 (by decide) (by decide) rfl (by decide) ?_
          exact l_whySwap hX hi hL hcs hss hC hG hO next
        · refine G_tIn (off := 2358) (tgt := 2402) dL_law_44 (by decide) (by decide) rfl (by decide) ?_
          exact l_whyLend hX hi hL hcs hss hC hG hO next
        · refine G_tIn (off := 2450) (tgt := 2494) dL_law_44 (by decide) (by decide) rfl (by decide) ?_
          exact l_safestBench hX hi hL hcs hss hC hG hO next
        · refine G_tIn (off := 2506) (tgt := 2550) dL_law_44 (by decide) (by decide) rfl (by decide) ?_
          exact l_safestPartner hX hi hL hcs hss hC hG hO next
        · refine G_tIn (off := 2562) (tgt := 2606) dL_law_44 (by decide) (by decide) rfl (by decide) ?_
          exact l_drownsIn hX hi hL hcs hss hC hG hO next
        · refine G_tIn (off := 2630) (tgt := 2674) dL_law_44 (by decide) (by decide) rfl (by decide) ?_
          exact l_work hX hi hL hcs hss hC hG hO next
        · refine G_tIn (off := 2710) (tgt := 2754) dL_law_44 (by decide) (by decide) rfl (by decide) ?_
          exact l_swap hX hi hL hcs hss hC hG hO next
        · refine G_tIn (off := 2802) (tgt := 2846) dL_law_44 (by decide) (by decide) rfl (by decide) ?_
          exact l_lend hX hi hL hcs hss hC hG hO next
        · refine G_tIn (off := 2894) (tgt := 2938) dL_law_44 (by decide) (by decide) rfl (by decide) ?_
          exact l_payBack hX hi hL hcs hss hC hG hO next
        · refine G_tIn (off := 2986) (tgt := 3030) dL_law_44 (by decide) (by decide) rfl (by decide) ?_
          exact l_move hX hi hL hcs hss hC hG hO next
        · refine G_tIn (off := 3066) (tgt := 3110) dL_law_44 (by decide) (by decide) rfl (by decide) ?_
          exact l_confess hX hi hL hcs hss hC hG hO next
        · refine G_tIn (off := 3122) (tgt := 3166) dL_law_44 (by decide) (by decide) rfl (by decide) ?_
          exact l_pass hX hi hL hcs hss hC hG hO next
        · refine G_tIn (off := 3178) (tgt := 3222) dL_law_44 (by decide) (by decide) rfl (by decide) ?_
          exact l_write hX hi hL hcs hss hC hG hO next
        · refine G_tIn (off := 3234) (tgt := 3278) dL_law_44 (by decide) (by decide) rfl (by decide) ?_
          exact l_output hX hi hL hcs hss hC hG hO next
        · refine G_tIn (off := 3259) (tgt := 3303) dL_law_44 (by decide) (by decide) rfl (by decide) ?_
          exact l_undo hX hi hL hcs hss hC hG hO next
        · refine G_tIn (off := 3272) (tgt := 3316) dL_law_44 (by decide) (by decide) rfl (by decide) ?_
          exact l_save hX hi hL hcs hss hC hG hO next
        · refine G_tIn (off := 3308) (tgt := 3352) dL_law_44 (by decide) (by decide) rfl (by decide) ?_
          exact l_restore hX hi hL hcs hss hC hG hO next
end LLOOP
