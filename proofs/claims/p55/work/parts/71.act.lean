/-! ===== the law's act ===== -/
section LACT
variable {E : Ed} {M : Mm} {P : Res → Mm → Prop} {g : Gs} {C : Cx}
/-- a state behind an act that was done, or refused -/
def stp (g : Gs) (o : Option Ab) (k : Int32) : Gs := match o with
  | some B => actG g B
  | none => refG g k
def acPay (A : Ab) (x y s n : Nat) : Option Ab := if rPay A x y s n = 0 then some (payA A x y s n) else none
/-- what an act of the law makes of a school, where it isn't refused -/
def acR (A : Ab) (w a b : Nat) : Option Ab :=
  if w < 3 then (if rMake A (a % A.n) (a / 7 % 2) (1 + b / 5 % 6) = 0 then some (makeA A (a % A.n) (a / 7 % 2) (1 + b / 5 % 6)) else none)
  else if w < 6 then (if rSwap A (a % A.n) (b % A.n) (a / 3 % 4) (b / 3 % 4) = 0 then some (swapA A (a % A.n) (b % A.n) (a / 3 % 4) (b / 3 % 4)) else none)
  else if w < 8 then (if rLend A (a % A.n) (b % A.n) (a / 7 % 2) (1 + b / 5 % 6) = 0 then some (lendA A (a % A.n) (b % A.n) (a / 7 % 2) (1 + b / 5 % 6)) else none)
  else if w = 8 then (if 0 < A.d.length ∧ 0 < b % 3 then acPay A (tn (dg A.d (a % A.d.length) 0)) (tn (dg A.d (a % A.d.length) 1)) (tn (dg A.d (a % A.d.length) 2)) (1 + b / 5 % 6) else acPay A (a % A.n) (b % A.n) (a / 7 % 2) (1 + b / 5 % 6))
  else if w = 9 then (if rMove A (a % A.n) (nI (a / 3 % 6)) (nI (b / 3 % 6)) = 0 then some (seatA A (a % A.n) (nI (a / 3 % 6)) (nI (b / 3 % 6))) else none)
  else if w = 10 then (if A.f (a % A.n) 6 = 0 then none else some (admitA A (a % A.n)))
  else if 999 < A.g 1 + nI 1 then none else some (weekA A)
theorem acR_a {A : Ab} {w a b : Nat} (h : w < 3) : acR A w a b = (if rMake A (a % A.n) (a / 7 % 2) (1 + b / 5 % 6) = 0 then some (makeA A (a % A.n) (a / 7 % 2) (1 + b / 5 % 6)) else none) := by
  unfold acR
  rw [if_pos h]
theorem acR_b {A : Ab} {w a b : Nat} (h : ¬ w < 3 ∧ w < 6) : acR A w a b = (if rSwap A (a % A.n) (b % A.n) (a / 3 % 4) (b / 3 % 4) = 0 then some (swapA A (a % A.n) (b % A.n) (a / 3 % 4) (b / 3 % 4)) else none) := by
  unfold acR
  rw [if_neg h.1, if_pos h.2]
theorem acR_c {A : Ab} {w a b : Nat} (h : ¬ w < 6 ∧ w < 8) : acR A w a b = (if rLend A (a % A.n) (b % A.n) (a / 7 % 2) (1 + b / 5 % 6) = 0 then some (lendA A (a % A.n) (b % A.n) (a / 7 % 2) (1 + b / 5 % 6)) else none) := by
  unfold acR
  rw [if_neg (show ¬ w < 3 by omega), if_neg h.1, if_pos h.2]
theorem acR_d {A : Ab} {w a b : Nat} (h : w = 8) : acR A w a b = (if 0 < A.d.length ∧ 0 < b % 3 then acPay A (tn (dg A.d (a % A.d.length) 0)) (tn (dg A.d (a % A.d.length) 1)) (tn (dg A.d (a % A.d.length) 2)) (1 + b / 5 % 6) else acPay A (a % A.n) (b % A.n) (a / 7 % 2) (1 + b / 5 % 6)) := by
  unfold acR
  rw [if_neg (show ¬ w < 3 by omega), if_neg (show ¬ w < 6 by omega), if_neg (show ¬ w < 8 by omega), if_pos h]
theorem acR_e {A : Ab} {w a b : Nat} (h : w = 9) : acR A w a b = (if rMove A (a % A.n) (nI (a / 3 % 6)) (nI (b / 3 % 6)) = 0 then some (seatA A (a % A.n) (nI (a / 3 % 6)) (nI (b / 3 % 6))) else none) := by
  unfold acR
  rw [if_neg (show ¬ w < 3 by omega), if_neg (show ¬ w < 6 by omega), if_neg (show ¬ w < 8 by omega), if_neg (show ¬ w = 8 by omega), if_pos h]
theorem acR_f {A : Ab} {w a b : Nat} (h : w = 10) : acR A w a b = (if A.f (a % A.n) 6 = 0 then none else some (admitA A (a % A.n))) := by
  unfold acR
  rw [if_neg (show ¬ w < 3 by omega), if_neg (show ¬ w < 6 by omega), if_neg (show ¬ w < 8 by omega), if_neg (show ¬ w = 8 by omega), if_neg (show ¬ w = 9 by omega), if_pos h]
theorem acR_g {A : Ab} {w a b : Nat} (h : 10 < w) : acR A w a b = (if 999 < A.g 1 + nI 1 then none else some (weekA A)) := by
  unfold acR
  rw [if_neg (show ¬ w < 3 by omega), if_neg (show ¬ w < 6 by omega), if_neg (show ¬ w < 8 by omega), if_neg (show ¬ w = 8 by omega), if_neg (show ¬ w = 9 by omega), if_neg (show ¬ w = 10 by omega)]
theorem stp_S {o : Option Ab} {k : Int32} : (stp g o k).S = g.S := by cases o <;> rfl
theorem stp_A {o : Option Ab} {k : Int32} : (stp g o k).A = o.getD g.A := by cases o <;> rfl
theorem st_work {p s n : Nat} : ∃ k, (sWork g p s n).1 = stp g (if rMake g.A p s n = 0 then some (makeA g.A p s n) else none) k := by
  refine ⟨rMake g.A p s n, ?_⟩
  unfold sWork
  split <;> rfl
theorem st_swap {x y n m : Nat} : ∃ k, (sSwap g x y n m).1 = stp g (if rSwap g.A x y n m = 0 then some (swapA g.A x y n m) else none) k := by
  refine ⟨rSwap g.A x y n m, ?_⟩
  unfold sSwap
  split <;> rfl
theorem st_lend {x y s n : Nat} : ∃ k, (sLend g x y s n).1 = stp g (if rLend g.A x y s n = 0 then some (lendA g.A x y s n) else none) k := by
  refine ⟨rLend g.A x y s n, ?_⟩
  unfold sLend
  split <;> rfl
theorem st_pay {x y s n : Nat} : ∃ k, (sPay g x y s n).1 = stp g (acPay g.A x y s n) k := by
  refine ⟨rPay g.A x y s n, ?_⟩
  unfold sPay acPay
  split <;> rfl
theorem st_move {x : Nat} {r t : Int32} : ∃ k, (sMove g x r t).1 = stp g (if rMove g.A x r t = 0 then some (seatA g.A x r t) else none) k := by
  refine ⟨rMove g.A x r t, ?_⟩
  unfold sMove
  split <;> rfl
theorem st_confess {x : Nat} : ∃ k, (sConfess g x).1 = stp g (if g.A.f x 6 = 0 then none else some (admitA g.A x)) k := by
  refine ⟨8, ?_⟩
  unfold sConfess
  split <;> rfl
theorem st_pass : ∃ k, (sPass g 1).1 = stp g (if 999 < g.A.g 1 + nI 1 then none else some (weekA g.A)) k := by
  refine ⟨10, ?_⟩
  unfold sPass
  split <;> rfl
/-- what is known behind an act -/
def Aft (g : Gs) (w a b : Nat) (g' : Gs) : Prop := ∃ k, g' = stp g (acR g.A w a b) k
theorem l_act {w a b : Nat} (hw : w < 14) (ha : a < 100000) (hb : b < 100000) (hC : CG M g) (hO : Okg g) (hX : xOk E M.2) (hG : Gd g.A) (hW : ∃ v, v ≤ 900 ∧ g.A.g 1 = nI v) (h : ∀ M' g', Aft g w a b g' → CG M' g' → Okg g' → Fr dCl M M' → P (.inl (some (.int 1))) M') : Sp E yL_act cL_act zL_act [.ref (ad E 0 0 0), .int (nI w), .int (nI a), .int (nI b)] M P := by
  have h12 := hC.1.n12
  have h30 := hC.1.d.2.1
  have h2 := hO.1.1.1
  have hn : 0 < g.A.n := by omega
  have hp : a % g.A.n < g.A.n := Nat.mod_lt _ hn
  have hq : b % g.A.n < g.A.n := Nat.mod_lt _ hn
  have hj : a / 7 % 2 ≤ 1 := by omega
  have hm1 : 1 ≤ 1 + b / 5 % 6 := by omega
  have hm6 : 1 + b / 5 % 6 ≤ 6 := by omega
  have hne : ¬ nI g.A.n = 0 := nI_ne0 (by omega) (by omega)
  have er : ∀ t d : Nat, t < 2 ^ 31 → 0 < d → d < 2 ^ 31 → nI t - nI t / nI d * nI d = nI (t % d) := fun t d h1 h2 h3 => pk_rem h1 h2 h3
  have ed : ∀ t d : Nat, t < 2 ^ 31 → 0 < d → d < 2 ^ 31 → nI t / nI d = nI (t / d) := fun t d h1 h2 h3 => pk_div h1 h2 h3
  refine Sp_of (own := RL) (by decide) rfl rfl (Nat.le_of_ble_eq_true rfl) (fun C => ?_)
  -- the arms
  have k96 : w < 3 → G E C RL cL_act zL_act P 0 0 M 96 [(0, .ref (ad E 0 0 0)), (2, .int (nI a)), (3, .int (nI b)), (4, .int (nI (a % g.A.n))), (5, .int (nI (b % g.A.n))), (6, .int (nI (a / 7 % 2))), (7, .int (nI (1 + b / 5 % 6)))] [] := fun e => by
    refine G_aload_n dL_act_96 rfl ?_
    refine G_iload dL_act_97 rfl ?_
    refine G_iload dL_act_99 rfl ?_
    refine G_iload dL_act_101 rfl ?_
    refine cv_L_204 (cs' := 0) (ss' := 0) dL_act_103  (Nat.le_of_ble_eq_true rfl) (Nat.le_of_ble_eq_true rfl) (Nat.le_of_ble_eq_true rfl) rfl rfl (Nat.le_of_ble_eq_true rfl) (Nat.le_of_ble_eq_true rfl) rfl ?_
    refine l_isWorking hp hj hm1 (by omega) hC hO (fun M1 g1 f1 => hGo_i ?_)
    refine G_iret dL_act_106 rfl rfl (Nat.le_of_ble_eq_true rfl) (Nat.le_of_ble_eq_true rfl) ?_
    obtain ⟨k, ek⟩ := st_work (g := g) (p := a % g.A.n) (s := a / 7 % 2) (n := 1 + b / 5 % 6)
    exact h M1 _ ⟨k, by rw [ek, acR_a e]⟩ g1 (sWork_ok hO hp (by omega) (by omega)) f1
  have k107 : ¬ w < 3 → w < 6 → G E C RL cL_act zL_act P 0 0 M 107 [(0, .ref (ad E 0 0 0)), (2, .int (nI a)), (3, .int (nI b)), (4, .int (nI (a % g.A.n))), (5, .int (nI (b % g.A.n))), (6, .int (nI (a / 7 % 2))), (7, .int (nI (1 + b / 5 % 6)))] [] := fun e3 e => by
    refine G_aload_n dL_act_107 rfl ?_
    refine G_iload dL_act_108 rfl ?_
    refine G_iload dL_act_110 rfl ?_
    refine G_iload_n dL_act_112 rfl ?_
    refine G_iconst (v := 3) dL_act_113 (by decide) ?_
    refine G_idiv dL_act_114 (by decide) ?_
    rw [show nI a / 3 = nI (a / 3) from ed a 3 (by omega) (by decide) (by decide)]
    refine G_iconst (v := 4) dL_act_115 (by decide) ?_
    refine G_irem dL_act_116 (by decide) ?_
    rw [show nI (a / 3) - nI (a / 3) / 4 * 4 = nI (a / 3 % 4) from er (a / 3) 4 (by omega) (by decide) (by decide)]
    refine G_iload_n dL_act_117 rfl ?_
    refine G_iconst (v := 3) dL_act_118 (by decide) ?_
    refine G_idiv dL_act_119 (by decide) ?_
    rw [show nI b / 3 = nI (b / 3) from ed b 3 (by omega) (by decide) (by decide)]
    refine G_iconst (v := 4) dL_act_120 (by decide) ?_
    refine G_irem dL_act_121 (by decide) ?_
    rw [show nI (b / 3) - nI (b / 3) / 4 * 4 = nI (b / 3 % 4) from er (b / 3) 4 (by omega) (by decide) (by decide)]
    refine cv_L_208 (cs' := 0) (ss' := 0) dL_act_122  (Nat.le_of_ble_eq_true rfl) (Nat.le_of_ble_eq_true rfl) (Nat.le_of_ble_eq_true rfl) rfl rfl (Nat.le_of_ble_eq_true rfl) (Nat.le_of_ble_eq_true rfl) rfl ?_
    refine l_isSwapping hp hq (by omega) (by omega) hC hO hG (fun M1 g1 f1 => hGo_i ?_)
    refine G_iret dL_act_125 rfl rfl (Nat.le_of_ble_eq_true rfl) (Nat.le_of_ble_eq_true rfl) ?_
    obtain ⟨k, ek⟩ := st_swap (g := g) (x := a % g.A.n) (y := b % g.A.n) (n := a / 3 % 4) (m := b / 3 % 4)
    exact h M1 _ ⟨k, by rw [ek, acR_b ⟨e3, e⟩]⟩ g1 (sSwap_ok hO hp hq (by omega) (by omega)) f1
  have k126 : ¬ w < 6 → w < 8 → G E C RL cL_act zL_act P 0 0 M 126 [(0, .ref (ad E 0 0 0)), (2, .int (nI a)), (3, .int (nI b)), (4, .int (nI (a % g.A.n))), (5, .int (nI (b % g.A.n))), (6, .int (nI (a / 7 % 2))), (7, .int (nI (1 + b / 5 % 6)))] [] := fun e6 e => by
    refine G_aload_n dL_act_126 rfl ?_
    refine G_iload dL_act_127 rfl ?_
    refine G_iload dL_act_129 rfl ?_
    refine G_iload dL_act_131 rfl ?_
    refine G_iload dL_act_133 rfl ?_
    refine cv_L_212 (cs' := 0) (ss' := 0) dL_act_135  (Nat.le_of_ble_eq_true rfl) (Nat.le_of_ble_eq_true rfl) (Nat.le_of_ble_eq_true rfl) rfl rfl (Nat.le_of_ble_eq_true rfl) (Nat.le_of_ble_eq_true rfl) rfl ?_
    refine l_isLending hp hq hj hm1 hm6 hC hO hG (fun M1 g1 f1 => hGo_i ?_)
    refine G_iret dL_act_138 rfl rfl (Nat.le_of_ble_eq_true rfl) (Nat.le_of_ble_eq_true rfl) ?_
    obtain ⟨k, ek⟩ := st_lend (g := g) (x := a % g.A.n) (y := b % g.A.n) (s := a / 7 % 2) (n := 1 + b / 5 % 6)
    exact h M1 _ ⟨k, by rw [ek, acR_c ⟨e6, e⟩]⟩ g1 (sLend_ok (s := a / 7 % 2) hO hp hq (by omega) hm1 (by omega)) f1
  have k139 : w = 8 → G E C RL cL_act zL_act P 0 0 M 139 [(0, .ref (ad E 0 0 0)), (2, .int (nI a)), (3, .int (nI b)), (4, .int (nI (a % g.A.n))), (5, .int (nI (b % g.A.n))), (6, .int (nI (a / 7 % 2))), (7, .int (nI (1 + b / 5 % 6)))] [] := fun e => by
    have k200 : ¬ (0 < g.A.d.length ∧ 0 < b % 3) → G E C RL cL_act zL_act P 0 0 M 200 [(0, .ref (ad E 0 0 0)), (2, .int (nI a)), (3, .int (nI b)), (4, .int (nI (a % g.A.n))), (5, .int (nI (b % g.A.n))), (6, .int (nI (a / 7 % 2))), (7, .int (nI (1 + b / 5 % 6)))] [] := fun e2 => by
      refine G_aload_n dL_act_200 rfl ?_
      refine G_iload dL_act_201 rfl ?_
      refine G_iload dL_act_203 rfl ?_
      refine G_iload dL_act_205 rfl ?_
      refine G_iload dL_act_207 rfl ?_
      refine cv_L_215 (cs' := 0) (ss' := 0) dL_act_209  (Nat.le_of_ble_eq_true rfl) (Nat.le_of_ble_eq_true rfl) (Nat.le_of_ble_eq_true rfl) rfl rfl (Nat.le_of_ble_eq_true rfl) (Nat.le_of_ble_eq_true rfl) rfl ?_
      refine l_isPaying hp hq hj hm1 hm6 hC hO hG (fun M1 g1 f1 => hGo_i ?_)
      refine G_iret dL_act_212 rfl rfl (Nat.le_of_ble_eq_true rfl) (Nat.le_of_ble_eq_true rfl) ?_
      obtain ⟨k, ek⟩ := st_pay (g := g) (x := a % g.A.n) (y := b % g.A.n) (s := a / 7 % 2) (n := 1 + b / 5 % 6)
      exact h M1 _ ⟨k, by rw [ek, acR_d e, if_neg e2]⟩ g1 (sPay_ok (s := a / 7 % 2) hO hp hq (by omega) hm1 (by omega)) f1
    refine G_aload_n dL_act_139 rfl ?_
    refine G_bipush (v := 8) dL_act_140 (by decide) ?_
    refine cv_L_68 (cs' := 0) (ss' := 0) dL_act_142  (Nat.le_of_ble_eq_true rfl) (Nat.le_of_ble_eq_true rfl) (Nat.le_of_ble_eq_true rfl) rfl rfl (Nat.le_of_ble_eq_true rfl) (Nat.le_of_ble_eq_true rfl) rfl ?_
    refine u_count (k := 8) (by first | decide | assumption | omega) hC (hGo_i ?_)
    refine G_if_le (tgt := 200) dL_act_145 (by decide) (fun c145 => ?_) (fun c145 => ?_)
    · have e0 : ¬ 0 < g.A.d.length := fun z => absurd (show nI g.A.d.length ≤ 0 from c145) (nI_nle z (by omega))
      exact k200 (fun z => e0 z.1)
    · have e0 : 0 < g.A.d.length := by
        rcases Nat.eq_zero_or_pos g.A.d.length with z | z
        · exact absurd (show nI g.A.d.length ≤ 0 by rw [z]; exact Int32.le_refl _) c145
        · exact z
      refine G_iload_n dL_act_148 rfl ?_
      refine G_iconst (v := 3) dL_act_149 (by decide) ?_
      refine G_irem dL_act_150 (by decide) ?_
      rw [show nI b - nI b / 3 * 3 = nI (b % 3) from er b 3 (by omega) (by decide) (by decide)]
      refine G_if_le (tgt := 200) dL_act_151 (by decide) (fun c151 => ?_) (fun c151 => ?_)
      · have e1 : ¬ 0 < b % 3 := fun z => absurd c151 (nI_nle z (by omega))
        exact k200 (fun z => e1 z.2)
      · have e1 : 0 < b % 3 := by
          rcases Nat.eq_zero_or_pos (b % 3) with z | z
          · exact absurd (show nI (b % 3) ≤ 0 by rw [z]; exact Int32.le_refl _) c151
          · exact z
        have hi : a % g.A.d.length < g.A.d.length := Nat.mod_lt _ e0
        have hnd : ¬ nI g.A.d.length = 0 := nI_ne0 e0 (by omega)
        have erd : nI a - nI a / nI g.A.d.length * nI g.A.d.length = nI (a % g.A.d.length) := er a g.A.d.length (by omega) e0 (by omega)
        obtain ⟨⟨x, hx, ex⟩, ⟨y, hy, ey⟩, ⟨s, hs, es⟩, -⟩ := hO.1.2.2.2.2.2.1 _ hi
        refine G_aload_n dL_act_154 rfl ?_
        refine G_aload_n dL_act_155 rfl ?_
        refine G_iload_n dL_act_156 rfl ?_
        refine G_aload_n dL_act_157 rfl ?_
        refine G_bipush (v := 8) dL_act_158 (by decide) ?_
        refine cv_L_68 (cs' := 0) (ss' := 0) dL_act_160  (Nat.le_of_ble_eq_true rfl) (Nat.le_of_ble_eq_true rfl) (Nat.le_of_ble_eq_true rfl) rfl rfl (Nat.le_of_ble_eq_true rfl) (Nat.le_of_ble_eq_true rfl) rfl ?_
        refine u_count (k := 8) (by first | decide | assumption | omega) hC (hGo_i ?_)
        refine G_irem dL_act_163 hnd ?_
        refine G_st (st' := [.int (nI (a % g.A.d.length)), .ref (ad E 0 0 0), .ref (ad E 0 0 0)]) (by rw [← erd]; rfl) rfl rfl ?_
        refine G_iconst (v := 0) dL_act_164 (by decide) ?_
        refine cv_L_91 (cs' := 0) (ss' := 0) dL_act_165  (Nat.le_of_ble_eq_true rfl) (Nat.le_of_ble_eq_true rfl) (Nat.le_of_ble_eq_true rfl) rfl rfl (Nat.le_of_ble_eq_true rfl) (Nat.le_of_ble_eq_true rfl) rfl ?_
        refine u_debt (k := 0) (by first | assumption | omega) (by first | decide | assumption | omega) hC (hGo_i ?_)
        rw [ex]
        refine G_aload_n dL_act_168 rfl ?_
        refine G_iload_n dL_act_169 rfl ?_
        refine G_aload_n dL_act_170 rfl ?_
        refine G_bipush (v := 8) dL_act_171 (by decide) ?_
        refine cv_L_68 (cs' := 0) (ss' := 0) dL_act_173  (Nat.le_of_ble_eq_true rfl) (Nat.le_of_ble_eq_true rfl) (Nat.le_of_ble_eq_true rfl) rfl rfl (Nat.le_of_ble_eq_true rfl) (Nat.le_of_ble_eq_true rfl) rfl ?_
        refine u_count (k := 8) (by first | decide | assumption | omega) hC (hGo_i ?_)
        refine G_irem dL_act_176 hnd ?_
        refine G_st (st' := [.int (nI (a % g.A.d.length)), .ref (ad E 0 0 0), .int (nI x), .ref (ad E 0 0 0)]) (by rw [← erd]; rfl) rfl rfl ?_
        refine G_iconst (v := 1) dL_act_177 (by decide) ?_
        refine cv_L_91 (cs' := 0) (ss' := 0) dL_act_178  (Nat.le_of_ble_eq_true rfl) (Nat.le_of_ble_eq_true rfl) (Nat.le_of_ble_eq_true rfl) rfl rfl (Nat.le_of_ble_eq_true rfl) (Nat.le_of_ble_eq_true rfl) rfl ?_
        refine u_debt (k := 1) (by first | assumption | omega) (by first | decide | assumption | omega) hC (hGo_i ?_)
        rw [ey]
        refine G_aload_n dL_act_181 rfl ?_
        refine G_iload_n dL_act_182 rfl ?_
        refine G_aload_n dL_act_183 rfl ?_
        refine G_bipush (v := 8) dL_act_184 (by decide) ?_
        refine cv_L_68 (cs' := 0) (ss' := 0) dL_act_186  (Nat.le_of_ble_eq_true rfl) (Nat.le_of_ble_eq_true rfl) (Nat.le_of_ble_eq_true rfl) rfl rfl (Nat.le_of_ble_eq_true rfl) (Nat.le_of_ble_eq_true rfl) rfl ?_
        refine u_count (k := 8) (by first | decide | assumption | omega) hC (hGo_i ?_)
        refine G_irem dL_act_189 hnd ?_
        refine G_st (st' := [.int (nI (a % g.A.d.length)), .ref (ad E 0 0 0), .int (nI y), .int (nI x), .ref (ad E 0 0 0)]) (by rw [← erd]; rfl) rfl rfl ?_
        refine G_iconst (v := 2) dL_act_190 (by decide) ?_
        refine cv_L_91 (cs' := 0) (ss' := 0) dL_act_191  (Nat.le_of_ble_eq_true rfl) (Nat.le_of_ble_eq_true rfl) (Nat.le_of_ble_eq_true rfl) rfl rfl (Nat.le_of_ble_eq_true rfl) (Nat.le_of_ble_eq_true rfl) rfl ?_
        refine u_debt (k := 2) (by first | assumption | omega) (by first | decide | assumption | omega) hC (hGo_i ?_)
        rw [es]
        refine G_iload dL_act_194 rfl ?_
        refine cv_L_215 (cs' := 0) (ss' := 0) dL_act_196  (Nat.le_of_ble_eq_true rfl) (Nat.le_of_ble_eq_true rfl) (Nat.le_of_ble_eq_true rfl) rfl rfl (Nat.le_of_ble_eq_true rfl) (Nat.le_of_ble_eq_true rfl) rfl ?_
        refine l_isPaying hx hy (show s ≤ 1 by omega) hm1 hm6 hC hO hG (fun M1 g1 f1 => hGo_i ?_)
        refine G_iret dL_act_199 rfl rfl (Nat.le_of_ble_eq_true rfl) (Nat.le_of_ble_eq_true rfl) ?_
        obtain ⟨k, ek⟩ := st_pay (g := g) (x := x) (y := y) (s := s) (n := 1 + b / 5 % 6)
        exact h M1 _ ⟨k, by rw [ek, acR_d e, if_pos (show 0 < g.A.d.length ∧ 0 < b % 3 from ⟨e0, e1⟩), ex, ey, es, tn_nI (p := x) (by omega), tn_nI (p := y) (by omega), tn_nI (p := s) (by omega)]⟩ g1 (sPay_ok (s := s) hO hx hy hs hm1 (by omega)) f1
  have k213 : w = 9 → G E C RL cL_act zL_act P 0 0 M 213 [(0, .ref (ad E 0 0 0)), (2, .int (nI a)), (3, .int (nI b)), (4, .int (nI (a % g.A.n))), (5, .int (nI (b % g.A.n))), (6, .int (nI (a / 7 % 2))), (7, .int (nI (1 + b / 5 % 6)))] [] := fun e => by
    refine G_aload_n dL_act_213 rfl ?_
    refine G_iload dL_act_214 rfl ?_
    refine G_iload_n dL_act_216 rfl ?_
    refine G_iconst (v := 3) dL_act_217 (by decide) ?_
    refine G_idiv dL_act_218 (by decide) ?_
    rw [show nI a / 3 = nI (a / 3) from ed a 3 (by omega) (by decide) (by decide)]
    refine G_bipush (v := 6) dL_act_219 (by decide) ?_
    refine G_irem dL_act_221 (by decide) ?_
    rw [show nI (a / 3) - nI (a / 3) / 6 * 6 = nI (a / 3 % 6) from er (a / 3) 6 (by omega) (by decide) (by decide)]
    refine G_iload_n dL_act_222 rfl ?_
    refine G_iconst (v := 3) dL_act_223 (by decide) ?_
    refine G_idiv dL_act_224 (by decide) ?_
    rw [show nI b / 3 = nI (b / 3) from ed b 3 (by omega) (by decide) (by decide)]
    refine G_bipush (v := 6) dL_act_225 (by decide) ?_
    refine G_irem dL_act_227 (by decide) ?_
    rw [show nI (b / 3) - nI (b / 3) / 6 * 6 = nI (b / 3 % 6) from er (b / 3) 6 (by omega) (by decide) (by decide)]
    refine cv_L_218 (cs' := 0) (ss' := 0) dL_act_228  (Nat.le_of_ble_eq_true rfl) (Nat.le_of_ble_eq_true rfl) (Nat.le_of_ble_eq_true rfl) rfl rfl (Nat.le_of_ble_eq_true rfl) (Nat.le_of_ble_eq_true rfl) rfl ?_
    refine l_isMoving hp (by omega) (by omega) hC hO (fun M1 g1 f1 => hGo_i ?_)
    refine G_iret dL_act_231 rfl rfl (Nat.le_of_ble_eq_true rfl) (Nat.le_of_ble_eq_true rfl) ?_
    obtain ⟨k, ek⟩ := st_move (g := g) (x := a % g.A.n) (r := nI (a / 3 % 6)) (t := nI (b / 3 % 6))
    exact h M1 _ ⟨k, by rw [ek, acR_e e]⟩ g1 (sMove_ok hO) f1
  have k232 : w = 10 → G E C RL cL_act zL_act P 0 0 M 232 [(0, .ref (ad E 0 0 0)), (2, .int (nI a)), (3, .int (nI b)), (4, .int (nI (a % g.A.n))), (5, .int (nI (b % g.A.n))), (6, .int (nI (a / 7 % 2))), (7, .int (nI (1 + b / 5 % 6)))] [] := fun e => by
    obtain ⟨k, ek⟩ := st_confess (g := g) (x := a % g.A.n)
    have hO1 := sConfess_ok (x := a % g.A.n) hO
    have fin : ∀ M1, CG M1 (sConfess g (a % g.A.n)).1 → Fr dCl M M1 → P (.inl (some (.int 1))) M1 := fun M1 g1 f1 => h M1 _ ⟨k, by rw [ek, acR_f e]⟩ g1 hO1 f1
    by_cases c : g.A.f (a % g.A.n) 6 = 0
    · have es : sConfess g (a % g.A.n) = (refG g 8, -8) := by
        unfold sConfess
        rw [if_pos c]
      refine G_aload_n dL_act_232 rfl ?_
      refine G_iload dL_act_233 rfl ?_
      refine G_bipush (v := 6) dL_act_235 (by decide) ?_
      refine cv_L_59 (cs' := 0) (ss' := 0) dL_act_237  (Nat.le_of_ble_eq_true rfl) (Nat.le_of_ble_eq_true rfl) (Nat.le_of_ble_eq_true rfl) rfl rfl (Nat.le_of_ble_eq_true rfl) (Nat.le_of_ble_eq_true rfl) rfl ?_
      refine u_pupil (k := 6) (by first | assumption | omega) (by first | decide | assumption | omega) hC hO (hGo_i ?_)
      refine G_istore dL_act_240 (Nat.le_of_ble_eq_true rfl) ?_
      refine G_aload_n dL_act_242 rfl ?_
      refine G_iload dL_act_243 rfl ?_
      refine G_bipush (v := 7) dL_act_245 (by decide) ?_
      refine cv_L_59 (cs' := 0) (ss' := 0) dL_act_247  (Nat.le_of_ble_eq_true rfl) (Nat.le_of_ble_eq_true rfl) (Nat.le_of_ble_eq_true rfl) rfl rfl (Nat.le_of_ble_eq_true rfl) (Nat.le_of_ble_eq_true rfl) rfl ?_
      refine u_pupil (k := 7) (by first | assumption | omega) (by first | decide | assumption | omega) hC hO (hGo_i ?_)
      refine G_istore dL_act_250 (Nat.le_of_ble_eq_true rfl) ?_
      refine G_aload_n dL_act_252 rfl ?_
      refine G_iload dL_act_253 rfl ?_
      refine cv_L_221 (cs' := 0) (ss' := 0) dL_act_255  (Nat.le_of_ble_eq_true rfl) (Nat.le_of_ble_eq_true rfl) (Nat.le_of_ble_eq_true rfl) rfl rfl (Nat.le_of_ble_eq_true rfl) (Nat.le_of_ble_eq_true rfl) rfl ?_
      refine u_confess hp hC hO (fun M1 g1 f1 => hGo_i ?_)
      have g2 := g1
      rw [es] at g2 hO1 ⊢
      have hp1 : a % g.A.n < (refG g 8).A.n := hp
      have hf7 : (refG g 8).A.f (a % g.A.n) 7 = g.A.f (a % g.A.n) 7 := rfl
      refine G_iload dL_act_258 rfl ?_
      refine G_if_ne (tgt := 268) dL_act_260 (by decide) (fun c260 => ?_) (fun c260 => ?_)
      · exact absurd c c260
      · refine G_bipush (v := (-8)) dL_act_263 (by decide) ?_
        refine G_goto (tgt := 272) dL_act_265 (by decide) ?_
        refine G_icmp_ne (tgt := 303) dL_act_272 (by decide) (fun c272 => ?_) (fun c272 => ?_)
        · exact absurd rfl c272
        · refine G_aload_n dL_act_275 rfl ?_
          refine G_iload dL_act_276 rfl ?_
          refine G_bipush (v := 7) dL_act_278 (by decide) ?_
          refine cv_L_59 (cs' := 0) (ss' := 0) dL_act_280  (Nat.le_of_ble_eq_true rfl) (Nat.le_of_ble_eq_true rfl) (Nat.le_of_ble_eq_true rfl) rfl rfl (Nat.le_of_ble_eq_true rfl) (Nat.le_of_ble_eq_true rfl) rfl ?_
          refine u_pupil (k := 7) hp1 (by decide) g2 hO1 (hGo_i ?_)
          refine G_st (st' := [.int (g.A.f (a % g.A.n) 7)]) rfl rfl rfl ?_
          refine G_iload dL_act_283 rfl ?_
          refine G_iload dL_act_285 rfl ?_
          refine G_if_ne (tgt := 294) dL_act_287 (by decide) (fun c287 => ?_) (fun c287 => ?_)
          · exact absurd c c287
          · refine G_iconst (v := 0) dL_act_290 (by decide) ?_
            refine G_goto (tgt := 295) dL_act_291 (by decide) ?_
            refine G_iadd dL_act_295 ?_
            rw [show pupV g.A (a % g.A.n) 7 + 0 = g.A.f (a % g.A.n) 7 from Int32.add_zero _]
            refine G_icmp_ne (tgt := 303) dL_act_296 (by decide) (fun c296 => ?_) (fun c296 => ?_)
            · exact absurd rfl c296
            · refine G_iconst (v := 1) dL_act_299 (by decide) ?_
              refine G_goto (tgt := 304) dL_act_300 (by decide) ?_
              refine G_iret dL_act_304 rfl rfl (Nat.le_of_ble_eq_true rfl) (Nat.le_of_ble_eq_true rfl) ?_
              exact fin M1 g1 f1
    · have es : sConfess g (a % g.A.n) = (actG g (admitA g.A (a % g.A.n)), g.A.f (a % g.A.n) 6 / 2) := by
        unfold sConfess
        rw [if_neg c]
      refine G_aload_n dL_act_232 rfl ?_
      refine G_iload dL_act_233 rfl ?_
      refine G_bipush (v := 6) dL_act_235 (by decide) ?_
      refine cv_L_59 (cs' := 0) (ss' := 0) dL_act_237  (Nat.le_of_ble_eq_true rfl) (Nat.le_of_ble_eq_true rfl) (Nat.le_of_ble_eq_true rfl) rfl rfl (Nat.le_of_ble_eq_true rfl) (Nat.le_of_ble_eq_true rfl) rfl ?_
      refine u_pupil (k := 6) (by first | assumption | omega) (by first | decide | assumption | omega) hC hO (hGo_i ?_)
      refine G_istore dL_act_240 (Nat.le_of_ble_eq_true rfl) ?_
      refine G_aload_n dL_act_242 rfl ?_
      refine G_iload dL_act_243 rfl ?_
      refine G_bipush (v := 7) dL_act_245 (by decide) ?_
      refine cv_L_59 (cs' := 0) (ss' := 0) dL_act_247  (Nat.le_of_ble_eq_true rfl) (Nat.le_of_ble_eq_true rfl) (Nat.le_of_ble_eq_true rfl) rfl rfl (Nat.le_of_ble_eq_true rfl) (Nat.le_of_ble_eq_true rfl) rfl ?_
      refine u_pupil (k := 7) (by first | assumption | omega) (by first | decide | assumption | omega) hC hO (hGo_i ?_)
      refine G_istore dL_act_250 (Nat.le_of_ble_eq_true rfl) ?_
      refine G_aload_n dL_act_252 rfl ?_
      refine G_iload dL_act_253 rfl ?_
      refine cv_L_221 (cs' := 0) (ss' := 0) dL_act_255  (Nat.le_of_ble_eq_true rfl) (Nat.le_of_ble_eq_true rfl) (Nat.le_of_ble_eq_true rfl) rfl rfl (Nat.le_of_ble_eq_true rfl) (Nat.le_of_ble_eq_true rfl) rfl ?_
      refine u_confess hp hC hO (fun M1 g1 f1 => hGo_i ?_)
      have g2 := g1
      rw [es] at g2 hO1 ⊢
      have hp1 : a % g.A.n < (actG g (admitA g.A (a % g.A.n))).A.n := hp
      have hf7 : (admitA g.A (a % g.A.n)).f (a % g.A.n) 7 = g.A.f (a % g.A.n) 7 + 1 := if_pos ⟨rfl, rfl⟩
      refine G_iload dL_act_258 rfl ?_
      refine G_if_ne (tgt := 268) dL_act_260 (by decide) (fun c260 => ?_) (fun c260 => ?_)
      · refine G_iload dL_act_268 rfl ?_
        refine G_iconst (v := 2) dL_act_270 (by decide) ?_
        refine G_idiv dL_act_271 (by decide) ?_
        refine G_icmp_ne (tgt := 303) dL_act_272 (by decide) (fun c272 => ?_) (fun c272 => ?_)
        · exact absurd rfl c272
        · refine G_aload_n dL_act_275 rfl ?_
          refine G_iload dL_act_276 rfl ?_
          refine G_bipush (v := 7) dL_act_278 (by decide) ?_
          refine cv_L_59 (cs' := 0) (ss' := 0) dL_act_280  (Nat.le_of_ble_eq_true rfl) (Nat.le_of_ble_eq_true rfl) (Nat.le_of_ble_eq_true rfl) rfl rfl (Nat.le_of_ble_eq_true rfl) (Nat.le_of_ble_eq_true rfl) rfl ?_
          refine u_pupil (k := 7) hp1 (by decide) g2 hO1 (hGo_i ?_)
          refine G_st (st' := [.int (g.A.f (a % g.A.n) 7 + 1)]) (by rw [← hf7]; rfl) rfl rfl ?_
          refine G_iload dL_act_283 rfl ?_
          refine G_iload dL_act_285 rfl ?_
          refine G_if_ne (tgt := 294) dL_act_287 (by decide) (fun c287 => ?_) (fun c287 => ?_)
          · refine G_iconst (v := 1) dL_act_294 (by decide) ?_
            refine G_iadd dL_act_295 ?_
            refine G_icmp_ne (tgt := 303) dL_act_296 (by decide) (fun c296 => ?_) (fun c296 => ?_)
            · exact absurd rfl c296
            · refine G_iconst (v := 1) dL_act_299 (by decide) ?_
              refine G_goto (tgt := 304) dL_act_300 (by decide) ?_
              refine G_iret dL_act_304 rfl rfl (Nat.le_of_ble_eq_true rfl) (Nat.le_of_ble_eq_true rfl) ?_
              exact fin M1 g1 f1
          · exact absurd c287 c
      · exact absurd c260 c
  have k305 : 10 < w → G E C RL cL_act zL_act P 0 0 M 305 [(0, .ref (ad E 0 0 0)), (2, .int (nI a)), (3, .int (nI b)), (4, .int (nI (a % g.A.n))), (5, .int (nI (b % g.A.n))), (6, .int (nI (a / 7 % 2))), (7, .int (nI (1 + b / 5 % 6)))] [] := fun e => by
    refine G_wid (cs1 := 0) (ss1 := 0) (by omega) (by omega) ?_
    refine G_aload_n dL_act_305 rfl ?_
    refine cv_L_224 (cs' := 26) (ss' := 312) dL_act_306  (Nat.le_of_ble_eq_true rfl) (Nat.le_of_ble_eq_true rfl) (Nat.le_of_ble_eq_true rfl) rfl rfl (Nat.le_of_ble_eq_true rfl) (Nat.le_of_ble_eq_true rfl) rfl ?_
    refine l_isWeek hC hO hX hW (fun M1 g1 f1 => hGo_i ?_)
    refine G_iret dL_act_309 rfl rfl (Nat.le_of_ble_eq_true rfl) (Nat.le_of_ble_eq_true rfl) ?_
    obtain ⟨k, ek⟩ := st_pass (g := g)
    exact h M1 _ ⟨k, by rw [ek, acR_g e]⟩ g1 (sPass_ok hO) f1
  refine G_iload_n dL_act_0 rfl ?_
  refine G_aload_n dL_act_1 rfl ?_
  refine G_iconst (v := 0) dL_act_2 (by decide) ?_
  refine cv_L_68 (cs' := 0) (ss' := 0) dL_act_3  (Nat.le_of_ble_eq_true rfl) (Nat.le_of_ble_eq_true rfl) (Nat.le_of_ble_eq_true rfl) rfl rfl (Nat.le_of_ble_eq_true rfl) (Nat.le_of_ble_eq_true rfl) rfl ?_
  refine u_count (k := 0) (by first | decide | assumption | omega) hC (hGo_i ?_)
  refine G_irem dL_act_6 hne ?_
  refine G_st (st' := [.int (nI (a % g.A.n))]) (by rw [← er a g.A.n (by omega) hn (by omega)]; rfl) rfl rfl ?_
  refine G_istore dL_act_7 (Nat.le_of_ble_eq_true rfl) ?_
  refine G_iload_n dL_act_9 rfl ?_
  refine G_aload_n dL_act_10 rfl ?_
  refine G_iconst (v := 0) dL_act_11 (by decide) ?_
  refine cv_L_68 (cs' := 0) (ss' := 0) dL_act_12  (Nat.le_of_ble_eq_true rfl) (Nat.le_of_ble_eq_true rfl) (Nat.le_of_ble_eq_true rfl) rfl rfl (Nat.le_of_ble_eq_true rfl) (Nat.le_of_ble_eq_true rfl) rfl ?_
  refine u_count (k := 0) (by first | decide | assumption | omega) hC (hGo_i ?_)
  refine G_irem dL_act_15 hne ?_
  refine G_st (st' := [.int (nI (b % g.A.n))]) (by rw [← er b g.A.n (by omega) hn (by omega)]; rfl) rfl rfl ?_
  refine G_istore dL_act_16 (Nat.le_of_ble_eq_true rfl) ?_
  refine G_iload_n dL_act_18 rfl ?_
  refine G_bipush (v := 7) dL_act_19 (by decide) ?_
  refine G_idiv dL_act_21 (by decide) ?_
  rw [show nI a / 7 = nI (a / 7) from ed a 7 (by omega) (by decide) (by decide)]
  refine G_iconst (v := 2) dL_act_22 (by decide) ?_
  refine G_irem dL_act_23 (by decide) ?_
  rw [show nI (a / 7) - nI (a / 7) / 2 * 2 = nI (a / 7 % 2) from er (a / 7) 2 (by omega) (by decide) (by decide)]
  refine G_istore dL_act_24 (Nat.le_of_ble_eq_true rfl) ?_
  refine G_iconst (v := 1) dL_act_26 (by decide) ?_
  refine G_iload_n dL_act_27 rfl ?_
  refine G_iconst (v := 5) dL_act_28 (by decide) ?_
  refine G_idiv dL_act_29 (by decide) ?_
  rw [show nI b / 5 = nI (b / 5) from ed b 5 (by omega) (by decide) (by decide)]
  refine G_bipush (v := 6) dL_act_30 (by decide) ?_
  refine G_irem dL_act_32 (by decide) ?_
  rw [show nI (b / 5) - nI (b / 5) / 6 * 6 = nI (b / 5 % 6) from er (b / 5) 6 (by omega) (by decide) (by decide)]
  refine G_iadd dL_act_33 ?_
  rw [show (1 : Int32) + nI (b / 5 % 6) = nI (1 + b / 5 % 6) from nI_add 1 _]
  refine G_istore dL_act_34 (Nat.le_of_ble_eq_true rfl) ?_
  refine G_iload_n dL_act_36 rfl ?_
  rcases (show w = 0 ∨ w = 1 ∨ w = 2 ∨ w = 3 ∨ w = 4 ∨ w = 5 ∨ w = 6 ∨ w = 7 ∨ w = 8 ∨ w = 9 ∨ w = 10 ∨ w = 11 ∨ w = 12 ∨ w = 13 by omega) with rfl | rfl | rfl | rfl | rfl | rfl | rfl | rfl | rfl | rfl | rfl | rfl | rfl | rfl
  · refine G_tIn (off := 59) (tgt := 96) dL_act_37 (by decide) (by decide) rfl (by decide) ?_
    exact G_lv2 (k96 (by decide)) ⟨rfl, rfl, rfl, rfl, rfl, rfl, rfl, trivial⟩
  · refine G_tIn (off := 59) (tgt := 96) dL_act_37 (by decide) (by decide) rfl (by decide) ?_
    exact G_lv2 (k96 (by decide)) ⟨rfl, rfl, rfl, rfl, rfl, rfl, rfl, trivial⟩
  · refine G_tIn (off := 59) (tgt := 96) dL_act_37 (by decide) (by decide) rfl (by decide) ?_
    exact G_lv2 (k96 (by decide)) ⟨rfl, rfl, rfl, rfl, rfl, rfl, rfl, trivial⟩
  · refine G_tIn (off := 70) (tgt := 107) dL_act_37 (by decide) (by decide) rfl (by decide) ?_
    exact G_lv2 (k107 (by decide) (by decide)) ⟨rfl, rfl, rfl, rfl, rfl, rfl, rfl, trivial⟩
  · refine G_tIn (off := 70) (tgt := 107) dL_act_37 (by decide) (by decide) rfl (by decide) ?_
    exact G_lv2 (k107 (by decide) (by decide)) ⟨rfl, rfl, rfl, rfl, rfl, rfl, rfl, trivial⟩
  · refine G_tIn (off := 70) (tgt := 107) dL_act_37 (by decide) (by decide) rfl (by decide) ?_
    exact G_lv2 (k107 (by decide) (by decide)) ⟨rfl, rfl, rfl, rfl, rfl, rfl, rfl, trivial⟩
  · refine G_tIn (off := 89) (tgt := 126) dL_act_37 (by decide) (by decide) rfl (by decide) ?_
    exact G_lv2 (k126 (by decide) (by decide)) ⟨rfl, rfl, rfl, rfl, rfl, rfl, rfl, trivial⟩
  · refine G_tIn (off := 89) (tgt := 126) dL_act_37 (by decide) (by decide) rfl (by decide) ?_
    exact G_lv2 (k126 (by decide) (by decide)) ⟨rfl, rfl, rfl, rfl, rfl, rfl, rfl, trivial⟩
  · refine G_tIn (off := 102) (tgt := 139) dL_act_37 (by decide) (by decide) rfl (by decide) ?_
    exact G_lv2 (k139 rfl) ⟨rfl, rfl, rfl, rfl, rfl, rfl, rfl, trivial⟩
  · refine G_tIn (off := 176) (tgt := 213) dL_act_37 (by decide) (by decide) rfl (by decide) ?_
    exact G_lv2 (k213 rfl) ⟨rfl, rfl, rfl, rfl, rfl, rfl, rfl, trivial⟩
  · refine G_tIn (off := 195) (tgt := 232) dL_act_37 (by decide) (by decide) rfl (by decide) ?_
    exact G_lv2 (k232 rfl) ⟨rfl, rfl, rfl, rfl, rfl, rfl, rfl, trivial⟩
  · refine G_tOut (tgt := 305) dL_act_37 (by decide) (by decide) ?_
    exact G_lv2 (k305 (by decide)) ⟨rfl, rfl, rfl, rfl, rfl, rfl, rfl, trivial⟩
  · refine G_tOut (tgt := 305) dL_act_37 (by decide) (by decide) ?_
    exact G_lv2 (k305 (by decide)) ⟨rfl, rfl, rfl, rfl, rfl, rfl, rfl, trivial⟩
  · refine G_tOut (tgt := 305) dL_act_37 (by decide) (by decide) ?_
    exact G_lv2 (k305 (by decide)) ⟨rfl, rfl, rfl, rfl, rfl, rfl, rfl, trivial⟩
end LACT
