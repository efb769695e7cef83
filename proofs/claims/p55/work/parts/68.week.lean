/-! ===== the law's isWeek ===== -/
section LWEEK
variable {E : Ed} {M : Mm} {P : Res → Mm → Prop} {g : Gs} {C : Cx}
/-- a row filled up to k -/
def upto (f : Nat → Int32) (k : Nat) : Nat → Int32 := fun i => if i < k then f i else 0
theorem upto_0 {f : Nat → Int32} : upto f 0 = fun _ => 0 := by
  funext i
  exact if_neg (by omega)
theorem upto_up {f : Nat → Int32} {k : Nat} : upd (upto f k) k (f k) = upto f (k + 1) := by
  funext i
  unfold upd upto
  by_cases q : i = k
  · rw [if_pos q, if_pos (by omega), q]
  · rw [if_neg q]
    by_cases z : i < k
    · rw [if_pos z, if_pos (by omega)]
    · rw [if_neg z, if_neg (by omega)]
/-- two arrays of n ints behind the further cells -/
def x2 (E : Ed) (X : va_W) (a b n : Nat) (f f' : Nat → Int32) : va_W := xI E (xI E X a n f) b n f'
theorem x2_a {X : va_W} {a b n : Nat} {f f' : Nat → Int32} : (x2 E X a b n f f')[X.length]? = some (a, .inl (E.2.2.1 0, n, .inl f)) := by
  unfold x2 xI
  rw [List.getElem?_append_left (by simp)]
  exact x_at
theorem x2_b {X : va_W} {a b n : Nat} {f f' : Nat → Int32} : (x2 E X a b n f f')[X.length + 1]? = some (b, .inl (E.2.2.1 0, n, .inl f')) := by
  unfold x2 xI
  rw [List.getElem?_append_right (by simp)]
  simp
theorem x2_sa {X : va_W} {a b n : Nat} {f f' f2 : Nat → Int32} : (x2 E X a b n f f').set X.length (a, .inl (E.2.2.1 0, n, .inl f2)) = x2 E X a b n f2 f' := by
  unfold x2 xI
  rw [List.set_append_left _ _ (by simp), x_set]
theorem x2_sb {X : va_W} {a b n : Nat} {f f' f2 : Nat → Int32} : (x2 E X a b n f f').set (X.length + 1) (b, .inl (E.2.2.1 0, n, .inl f2)) = x2 E X a b n f f2 := by
  unfold x2 xI
  rw [List.set_append_right _ _ (by simp)]
  simp
theorem x2_ok {X : va_W} {a b n : Nat} {f f' f2 f3 : Nat → Int32} (h : xOk E (x2 E X a b n f f')) : xOk E (x2 E X a b n f2 f3) := by
  have h2 : xOk E (x2 E X a b n f2 f') := by
    rw [← x2_sa (f := f)]
    exact xOk_set h x2_a
  rw [← x2_sb (f' := f')]
  exact xOk_set h2 x2_b
theorem wk_200 {M1 : Mm} {a b : Nat} (hO : Okg g) (h12 : g.A.n ≤ 12) (hX2 : xOk E (x2 E M.2 a b g.A.n (upto (fun k => g.A.f k 7 + lackV g.A k) g.A.n) (upto (fun k => detV g.A k (g.A.f k 6 + growV g.A k)) g.A.n))) (h2 : M1.2 = (x2 E M.2 a b g.A.n (upto (fun k => g.A.f k 7 + lackV g.A k) g.A.n) (upto (fun k => detV g.A k (g.A.f k 6 + growV g.A k)) g.A.n))) (g1 : CG M1 (actG g (weekA g.A))) (hO1 : Okg (actG g (weekA g.A))) (h : P (.inl (some (.int 1))) (M1.x M.2)) : G E C RL cL_isWeek zL_isWeek P 26 312 M1 197 [(0, .ref (ad E 0 0 0)), (1, .int (nI g.A.n)), (2, .ref a), (3, .ref b)] [] := by
  have hX : xOk E M1.2 := by rw [h2]; exact hX2
  have ha : M1.2[M.2.length]? = some (a, .inl (E.2.2.1 0, g.A.n, .inl (upto (fun k => g.A.f k 7 + lackV g.A k) g.A.n))) := by rw [h2]; exact x2_a
  have hb : M1.2[M.2.length + 1]? = some (b, .inl (E.2.2.1 0, g.A.n, .inl (upto (fun k => detV g.A k (g.A.f k 6 + growV g.A k)) g.A.n))) := by rw [h2]; exact x2_b
  have hn1 : (actG g (weekA g.A)).A.n = g.A.n := weekA_n
  refine G_iconst (v := 0) dL_isWeek_197 (by decide) ?_
  refine G_istore dL_isWeek_198 (Nat.le_of_ble_eq_true rfl) ?_
  refine G_lv (lv' := [(0, .ref (ad E 0 0 0)), (1, .int (nI g.A.n)), (2, .ref a), (3, .ref b), (8, .int (nI 0))]) ⟨rfl, rfl, rfl, rfl, rfl, trivial⟩ ?_
  refine up0 (c := g.A.n) (H := fun i => G E C RL cL_isWeek zL_isWeek P 26 312 M1 200 [(0, .ref (ad E 0 0 0)), (1, .int (nI g.A.n)), (2, .ref a), (3, .ref b), (8, .int (nI i))] []) ?_ (fun i hi ih => ?_)
  · refine G_iload dL_isWeek_200 rfl ?_
    refine G_iload_n dL_isWeek_202 rfl ?_
    refine G_icmp_ge (tgt := 276) dL_isWeek_203 (by decide) (fun c203 => ?_) (fun c203 => ?_)
    · refine G_iconst (v := 1) dL_isWeek_276 (by decide) ?_
      refine G_xdrop (X := M.2) (Y := [(a, .inl (E.2.2.1 0, g.A.n, .inl (upto (fun k => g.A.f k 7 + lackV g.A k) g.A.n))), (b, .inl (E.2.2.1 0, g.A.n, .inl (upto (fun k => detV g.A k (g.A.f k 6 + growV g.A k)) g.A.n)))]) ?_ ?_ ?_
      · have e : M.2 ++ [(a, .inl (E.2.2.1 0, g.A.n, .inl (upto (fun k => g.A.f k 7 + lackV g.A k) g.A.n))), (b, .inl (E.2.2.1 0, g.A.n, .inl (upto (fun k => detV g.A k (g.A.f k 6 + growV g.A k)) g.A.n)))] = (x2 E M.2 a b g.A.n (upto (fun k => g.A.f k 7 + lackV g.A k) g.A.n) (upto (fun k => detV g.A k (g.A.f k 6 + growV g.A k)) g.A.n)) := by
          unfold x2 xI
          rw [List.append_assoc]
          rfl
        rw [e]
        exact hX2
      · rw [h2]
        unfold x2 xI
        rw [List.append_assoc]
        rfl
      · refine G_iret dL_isWeek_277 rfl rfl (Nat.le_of_ble_eq_true rfl) (Nat.le_of_ble_eq_true rfl) ?_
        exact h
    · exact absurd (show nI g.A.n ≤ nI g.A.n from Int32.le_refl _) c203
  · obtain ⟨w7, w8, w5, -⟩ := week_f hO.1 hi
    have hi1 : i < (actG g (weekA g.A)).A.n := by rw [hn1]; exact hi
    have um : upto (fun k => g.A.f k 7 + lackV g.A k) g.A.n i = g.A.f i 7 + lackV g.A i := if_pos hi
    have ud : upto (fun k => detV g.A k (g.A.f k 6 + growV g.A k)) g.A.n i = detV g.A i (g.A.f i 6 + growV g.A i) := if_pos hi
    have k270 : G E C RL cL_isWeek zL_isWeek P 26 312 M1 270 [(0, .ref (ad E 0 0 0)), (1, .int (nI g.A.n)), (2, .ref a), (3, .ref b), (8, .int (nI i))] [] := by
      refine G_iinc (v := 1) dL_isWeek_270 rfl (Nat.le_of_ble_eq_true rfl) (by decide) ?_
      refine G_goto (tgt := 200) dL_isWeek_273 (by decide) ?_
      exact G_lv2 ih ⟨rfl, rfl, rfl, rfl, lvi (nI_1 i), trivial⟩
    refine G_iload dL_isWeek_200 rfl ?_
    refine G_iload_n dL_isWeek_202 rfl ?_
    refine G_icmp_ge (tgt := 276) dL_isWeek_203 (by decide) (fun c203 => ?_) (fun c203 => ?_)
    · exact absurd (show nI g.A.n ≤ nI i from c203) (nI_ge hi (by omega))
    · refine G_aload_n dL_isWeek_206 rfl ?_
      refine G_iload dL_isWeek_207 rfl ?_
      refine G_bipush (v := 7) dL_isWeek_209 (by decide) ?_
      refine cv_L_59 (cs' := 26) (ss' := 312) dL_isWeek_211  (Nat.le_of_ble_eq_true rfl) (Nat.le_of_ble_eq_true rfl) (Nat.le_of_ble_eq_true rfl) rfl rfl (by show 26 ≤ 26; omega) (by show 312 ≤ 312; omega) rfl ?_
      refine u_pupil (k := 7) hi1 (by decide) g1 hO1 (hGo_i ?_)
      refine G_st (st' := [.int (g.A.f i 7 + lackV g.A i)]) (by rw [← w7]; rfl) rfl rfl ?_
      refine G_aload_n dL_isWeek_214 rfl ?_
      refine G_iload dL_isWeek_215 rfl ?_
      refine G_xiald hX ha dL_isWeek_217 rfl hi (by omega) ?_
      rw [um]
      refine G_icmp_ne (tgt := 268) dL_isWeek_218 (by decide) (fun c218 => ?_) (fun c218 => ?_)
      · exact absurd rfl c218
      · refine G_aload_n dL_isWeek_221 rfl ?_
        refine G_iload dL_isWeek_222 rfl ?_
        refine G_bipush (v := 8) dL_isWeek_224 (by decide) ?_
        refine cv_L_59 (cs' := 26) (ss' := 312) dL_isWeek_226  (Nat.le_of_ble_eq_true rfl) (Nat.le_of_ble_eq_true rfl) (Nat.le_of_ble_eq_true rfl) rfl rfl (by show 26 ≤ 26; omega) (by show 312 ≤ 312; omega) rfl ?_
        refine u_pupil (k := 8) hi1 (by decide) g1 hO1 (hGo_i ?_)
        refine G_st (st' := [.int (detV g.A i (g.A.f i 6 + growV g.A i))]) (by rw [← w8]; rfl) rfl rfl ?_
        refine G_aload_n dL_isWeek_229 rfl ?_
        refine G_iload dL_isWeek_230 rfl ?_
        refine G_xiald hX hb dL_isWeek_232 rfl hi (by omega) ?_
        rw [ud]
        refine G_icmp_ne (tgt := 268) dL_isWeek_233 (by decide) (fun c233 => ?_) (fun c233 => ?_)
        · exact absurd rfl c233
        · refine G_aload_n dL_isWeek_236 rfl ?_
          refine G_iload dL_isWeek_237 rfl ?_
          refine G_iconst (v := 5) dL_isWeek_239 (by decide) ?_
          refine cv_L_59 (cs' := 26) (ss' := 312) dL_isWeek_240  (Nat.le_of_ble_eq_true rfl) (Nat.le_of_ble_eq_true rfl) (Nat.le_of_ble_eq_true rfl) rfl rfl (by show 26 ≤ 26; omega) (by show 312 ≤ 312; omega) rfl ?_
          refine u_pupil (k := 5) hi1 (by decide) g1 hO1 (hGo_i ?_)
          refine G_st (st' := [.int (if 0 < detV g.A i (g.A.f i 6 + growV g.A i) then g.A.g 2 / 2 else g.A.g 2)]) (by rw [← w5]; rfl) rfl rfl ?_
          refine G_aload_n dL_isWeek_243 rfl ?_
          refine G_iload dL_isWeek_244 rfl ?_
          refine G_xiald hX hb dL_isWeek_246 rfl hi (by omega) ?_
          rw [ud]
          refine G_if_le (tgt := 260) dL_isWeek_247 (by decide) (fun c247 => ?_) (fun c247 => ?_)
          · have c : ¬ 0 < detV g.A i (g.A.f i 6 + growV g.A i) := Int32.not_lt.mpr c247
            rw [if_neg c]
            refine G_aload_n dL_isWeek_260 rfl ?_
            refine G_iconst (v := 2) dL_isWeek_261 (by decide) ?_
            refine cv_L_68 (cs' := 26) (ss' := 312) dL_isWeek_262  (Nat.le_of_ble_eq_true rfl) (Nat.le_of_ble_eq_true rfl) (Nat.le_of_ble_eq_true rfl) rfl rfl (by show 26 ≤ 26; omega) (by show 312 ≤ 312; omega) rfl ?_
            refine u_count (k := 2) (by decide) g1 (hGo_i ?_)
            refine G_st (st' := [.int (g.A.g 2), .int (g.A.g 2)]) (by rw [show cntV (actG g (weekA g.A)) 2 = (weekA g.A).g 2 from rfl, week_g (by decide) (by decide)]) rfl rfl ?_
            refine G_icmp_eq (tgt := 270) dL_isWeek_265 (by decide) (fun c265 => ?_) (fun c265 => ?_)
            · exact k270
            · exact absurd rfl c265
          · have c : 0 < detV g.A i (g.A.f i 6 + growV g.A i) := Int32.not_le.mp c247
            rw [if_pos c]
            refine G_aload_n dL_isWeek_250 rfl ?_
            refine G_iconst (v := 2) dL_isWeek_251 (by decide) ?_
            refine cv_L_68 (cs' := 26) (ss' := 312) dL_isWeek_252  (Nat.le_of_ble_eq_true rfl) (Nat.le_of_ble_eq_true rfl) (Nat.le_of_ble_eq_true rfl) rfl rfl (by show 26 ≤ 26; omega) (by show 312 ≤ 312; omega) rfl ?_
            refine u_count (k := 2) (by decide) g1 (hGo_i ?_)
            refine G_st (st' := [.int (g.A.g 2), .int (g.A.g 2 / 2)]) (by rw [show cntV (actG g (weekA g.A)) 2 = (weekA g.A).g 2 from rfl, week_g (by decide) (by decide)]) rfl rfl ?_
            refine G_iconst (v := 2) dL_isWeek_255 (by decide) ?_
            refine G_idiv dL_isWeek_256 (by decide) ?_
            refine G_goto (tgt := 265) dL_isWeek_257 (by decide) ?_
            refine G_icmp_eq (tgt := 270) dL_isWeek_265 (by decide) (fun c265 => ?_) (fun c265 => ?_)
            · exact k270
            · exact absurd rfl c265
theorem wk_121 {a b : Nat} (hO : Okg g) (hC : CG M g) (hW : ∃ v, v ≤ 900 ∧ g.A.g 1 = nI v) (hX2 : xOk E (x2 E M.2 a b g.A.n (upto (fun k => g.A.f k 7 + lackV g.A k) g.A.n) (upto (fun k => detV g.A k (g.A.f k 6 + growV g.A k)) g.A.n))) (h : ∀ M', CG M' (sPass g 1).1 → Fr dCl M M' → P (.inl (some (.int 1))) M') : G E C RL cL_isWeek zL_isWeek P 26 312 (M.x (x2 E M.2 a b g.A.n (upto (fun k => g.A.f k 7 + lackV g.A k) g.A.n) (upto (fun k => detV g.A k (g.A.f k 6 + growV g.A k)) g.A.n))) 121 [(0, .ref (ad E 0 0 0)), (1, .int (nI g.A.n)), (2, .ref a), (3, .ref b), (4, .int (sm g.A.n (fun p => if g.A.f p 6 + growV g.A p < g.A.g 3 then 0 else 1)))] [] := by
  have h12 := hC.1.n12
  obtain ⟨v, hv, ev⟩ := hW
  have es : sPass g 1 = (actG g (weekA g.A), 0 + wkP g.A) := by
    unfold sPass
    rw [ev, nI_add, if_neg (show ¬ (999 : Int32) < nI (v + 1) from nI_nlt (b := v + 1) (a := 999) (by omega) (by decide))]
    rfl
  have hO1 : Okg (actG g (weekA g.A)) := by
    have := sPass_ok (n := 1) hO
    rw [es] at this
    exact this
  refine G_aload_n dL_isWeek_121 rfl ?_
  refine G_iconst (v := 1) dL_isWeek_122 (by decide) ?_
  refine G_iconst (v := 1) dL_isWeek_123 (by decide) ?_
  refine cv_L_192 (cs' := 26) (ss' := 312) dL_isWeek_124  (Nat.le_of_ble_eq_true rfl) (Nat.le_of_ble_eq_true rfl) (Nat.le_of_ble_eq_true rfl) rfl rfl (by show 26 ≤ 26; omega) (by show 312 ≤ 312; omega) rfl ?_
  refine u_ifPassed (k := 1) (by decide) (CG.x hC) hO (fun M1 g1 f1 => hGo_i ?_)
  refine G_istore dL_isWeek_127 (Nat.le_of_ble_eq_true rfl) ?_
  refine G_aload_n dL_isWeek_129 rfl ?_
  refine G_iconst (v := 1) dL_isWeek_130 (by decide) ?_
  refine G_iconst (v := 2) dL_isWeek_131 (by decide) ?_
  refine cv_L_192 (cs' := 26) (ss' := 312) dL_isWeek_132  (Nat.le_of_ble_eq_true rfl) (Nat.le_of_ble_eq_true rfl) (Nat.le_of_ble_eq_true rfl) rfl rfl (by show 26 ≤ 26; omega) (by show 312 ≤ 312; omega) rfl ?_
  refine u_ifPassed (k := 2) (by decide) g1 hO (fun M2 g2 f2 => hGo_i ?_)
  refine G_istore dL_isWeek_135 (Nat.le_of_ble_eq_true rfl) ?_
  refine G_aload_n dL_isWeek_137 rfl ?_
  refine G_iconst (v := 1) dL_isWeek_138 (by decide) ?_
  refine G_iconst (v := 3) dL_isWeek_139 (by decide) ?_
  refine cv_L_192 (cs' := 26) (ss' := 312) dL_isWeek_140  (Nat.le_of_ble_eq_true rfl) (Nat.le_of_ble_eq_true rfl) (Nat.le_of_ble_eq_true rfl) rfl rfl (by show 26 ≤ 26; omega) (by show 312 ≤ 312; omega) rfl ?_
  refine u_ifPassed (k := 3) (by decide) g2 hO (fun M3 g3 f3 => hGo_i ?_)
  refine G_istore dL_isWeek_143 (Nat.le_of_ble_eq_true rfl) ?_
  refine G_aload_n dL_isWeek_145 rfl ?_
  refine G_iconst (v := 1) dL_isWeek_146 (by decide) ?_
  refine cv_L_189 (cs' := 26) (ss' := 312) dL_isWeek_147  (Nat.le_of_ble_eq_true rfl) (Nat.le_of_ble_eq_true rfl) (Nat.le_of_ble_eq_true rfl) rfl rfl (by show 26 ≤ 26; omega) (by show 312 ≤ 312; omega) rfl ?_
  refine u_pass g3 hO (fun M4 g4 f4 => hGo_i ?_)
  have hf := ((f1.trans f2).trans f3).trans f4
  rw [es] at g4 ⊢
  have h2 : M4.2 = (x2 E M.2 a b g.A.n (upto (fun k => g.A.f k 7 + lackV g.A k) g.A.n) (upto (fun k => detV g.A k (g.A.f k 6 + growV g.A k)) g.A.n)) := hf.1
  rw [show (0 : Int32) + wkP g.A = sm g.A.n (fun p => if g.A.f p 6 + growV g.A p < g.A.g 3 then 0 else 1) by rw [Int32.zero_add, week_P hO.1]]
  refine G_iload dL_isWeek_150 rfl ?_
  refine G_icmp_ne (tgt := 195) dL_isWeek_152 (by decide) (fun c152 => ?_) (fun c152 => ?_)
  · exact absurd rfl c152
  · refine G_aload_n dL_isWeek_155 rfl ?_
    refine G_bipush (v := 9) dL_isWeek_156 (by decide) ?_
    refine cv_L_68 (cs' := 26) (ss' := 312) dL_isWeek_158  (Nat.le_of_ble_eq_true rfl) (Nat.le_of_ble_eq_true rfl) (Nat.le_of_ble_eq_true rfl) rfl rfl (by show 26 ≤ 26; omega) (by show 312 ≤ 312; omega) rfl ?_
    refine u_count (k := 9) (by decide) g4 (hGo_i ?_)
    refine G_iload dL_isWeek_161 rfl ?_
    refine G_icmp_ne (tgt := 195) dL_isWeek_163 (by decide) (fun c163 => ?_) (fun c163 => ?_)
    · exact absurd rfl c163
    · refine G_aload_n dL_isWeek_166 rfl ?_
      refine G_bipush (v := 10) dL_isWeek_167 (by decide) ?_
      refine cv_L_68 (cs' := 26) (ss' := 312) dL_isWeek_169  (Nat.le_of_ble_eq_true rfl) (Nat.le_of_ble_eq_true rfl) (Nat.le_of_ble_eq_true rfl) rfl rfl (by show 26 ≤ 26; omega) (by show 312 ≤ 312; omega) rfl ?_
      refine u_count (k := 10) (by decide) g4 (hGo_i ?_)
      refine G_iload dL_isWeek_172 rfl ?_
      refine G_icmp_ne (tgt := 195) dL_isWeek_174 (by decide) (fun c174 => ?_) (fun c174 => ?_)
      · exact absurd rfl c174
      · refine G_aload_n dL_isWeek_177 rfl ?_
        refine G_bipush (v := 6) dL_isWeek_178 (by decide) ?_
        refine cv_L_68 (cs' := 26) (ss' := 312) dL_isWeek_180  (Nat.le_of_ble_eq_true rfl) (Nat.le_of_ble_eq_true rfl) (Nat.le_of_ble_eq_true rfl) rfl rfl (by show 26 ≤ 26; omega) (by show 312 ≤ 312; omega) rfl ?_
        refine u_count (k := 6) (by decide) g4 (hGo_i ?_)
        refine G_aload_n dL_isWeek_183 rfl ?_
        refine G_bipush (v := 7) dL_isWeek_184 (by decide) ?_
        refine cv_L_68 (cs' := 26) (ss' := 312) dL_isWeek_186  (Nat.le_of_ble_eq_true rfl) (Nat.le_of_ble_eq_true rfl) (Nat.le_of_ble_eq_true rfl) rfl rfl (by show 26 ≤ 26; omega) (by show 312 ≤ 312; omega) rfl ?_
        refine u_count (k := 7) (by decide) g4 (hGo_i ?_)
        refine G_iadd dL_isWeek_189 ?_
        refine G_iload dL_isWeek_190 rfl ?_
        refine G_icmp_eq (tgt := 197) dL_isWeek_192 (by decide) (fun c192 => ?_) (fun c192 => ?_)
        · refine G_lv2 (wk_200 hO h12 hX2 h2 g4 hO1 (h _ (by rw [es]; exact CG.x g4) ⟨rfl, hf.2⟩)) ⟨rfl, rfl, rfl, rfl, trivial⟩
        · exact absurd rfl c192
theorem l_isWeek (hC : CG M g) (hO : Okg g) (hX : xOk E M.2) (hW : ∃ v, v ≤ 900 ∧ g.A.g 1 = nI v) (h : ∀ M', CG M' (sPass g 1).1 → Fr dCl M M' → P (.inl (some (.int 1))) M') : Sp E yL_isWeek cL_isWeek zL_isWeek [.ref (ad E 0 0 0)] M P := by
  have h12 := hC.1.n12
  obtain ⟨v, hv, ev⟩ := id hW
  refine Sp_of (own := RL) (by decide) rfl rfl (Nat.le_of_ble_eq_true rfl) (fun C => ?_)
  refine G_aload_n dL_isWeek_0 rfl ?_
  refine G_iconst (v := 1) dL_isWeek_1 (by decide) ?_
  refine cv_L_68 (cs' := 0) (ss' := 0) dL_isWeek_2  (Nat.le_of_ble_eq_true rfl) (Nat.le_of_ble_eq_true rfl) (Nat.le_of_ble_eq_true rfl) rfl rfl (Nat.le_of_ble_eq_true rfl) (Nat.le_of_ble_eq_true rfl) rfl ?_
  refine u_count (k := 1) (by first | decide | assumption | omega) hC (hGo_i ?_)
  refine G_sipush (v := 999) dL_isWeek_5 (by decide) ?_
  refine G_icmp_ne (tgt := 27) dL_isWeek_8 (by decide) (fun c8 => ?_) (fun c8 => ?_)
  · refine G_aload_n dL_isWeek_27 rfl ?_
    refine G_iconst (v := 0) dL_isWeek_28 (by decide) ?_
    refine cv_L_68 (cs' := 0) (ss' := 0) dL_isWeek_29  (Nat.le_of_ble_eq_true rfl) (Nat.le_of_ble_eq_true rfl) (Nat.le_of_ble_eq_true rfl) rfl rfl (Nat.le_of_ble_eq_true rfl) (Nat.le_of_ble_eq_true rfl) rfl ?_
    refine u_count (k := 0) (by first | decide | assumption | omega) hC (hGo_i ?_)
    refine G_istore_n dL_isWeek_32 (Nat.le_of_ble_eq_true rfl) ?_
    refine G_iload_n dL_isWeek_33 rfl ?_
    refine G_xnewa (t0 := 0) (n := g.A.n) (atype := .int) (ty := .int) (a0 := (g.A.n, .inl (fun _ => 0))) (cs' := 1) (ss' := g.A.n) hX dL_isWeek_34 (hqx 96 (by decide +kernel) rfl) rfl (fun _ h => by cases h) rfl (fun _ => rfl) rfl (by omega) (by show g.A.n * 4 ≤ 536870912; omega) rfl (Nat.zero_add _) (Nat.le_of_ble_eq_true rfl) (by show g.A.n ≤ 312; omega) (fun a hX1 => ?_)
    have hXa : xOk E (xI E M.2 a g.A.n (fun _ => 0)) := hX1
    refine G_st (M' := M.x (xI E M.2 a g.A.n (fun _ => 0))) rfl rfl rfl ?_
    refine G_astore_n dL_isWeek_36 (Nat.le_of_ble_eq_true rfl) ?_
    refine G_iload_n dL_isWeek_37 rfl ?_
    refine G_xnewa (M := M.x (xI E M.2 a g.A.n (fun _ => 0))) (t0 := 0) (n := g.A.n) (atype := .int) (ty := .int) (a0 := (g.A.n, .inl (fun _ => 0))) (cs' := 2) (ss' := g.A.n + g.A.n) hXa dL_isWeek_38 (hqx 96 (by decide +kernel) rfl) rfl (fun _ h => by cases h) rfl (fun _ => rfl) rfl (by omega) (by show g.A.n * 4 ≤ 536870912; omega) rfl rfl (Nat.le_of_ble_eq_true rfl) (by show g.A.n + g.A.n ≤ 312; omega) (fun b hXb => ?_)
    have hX0 : xOk E (x2 E M.2 a b g.A.n (upto (fun k => g.A.f k 7 + lackV g.A k) 0) (upto (fun k => detV g.A k (g.A.f k 6 + growV g.A k)) 0)) := by
      rw [upto_0, upto_0]
      exact hXb
    refine G_st (M' := M.x (x2 E M.2 a b g.A.n (upto (fun k => g.A.f k 7 + lackV g.A k) 0) (upto (fun k => detV g.A k (g.A.f k 6 + growV g.A k)) 0))) rfl rfl (by rw [upto_0, upto_0]; rfl) ?_
    refine G_wid (cs1 := 2 + 2 * 0) (ss1 := 24 + 24 * 0) (by omega) (by omega) ?_
    refine G_astore_n dL_isWeek_40 (Nat.le_of_ble_eq_true rfl) ?_
    refine G_iconst (v := 0) dL_isWeek_41 (by decide) ?_
    refine G_istore dL_isWeek_42 (Nat.le_of_ble_eq_true rfl) ?_
    refine G_iconst (v := 0) dL_isWeek_44 (by decide) ?_
    refine G_istore dL_isWeek_45 (Nat.le_of_ble_eq_true rfl) ?_
    refine G_lv (lv' := [(0, .ref (ad E 0 0 0)), (1, .int (nI g.A.n)), (2, .ref a), (3, .ref b), (4, .int (sm 0 (fun p => if g.A.f p 6 + growV g.A p < g.A.g 3 then 0 else 1))), (5, .int (nI 0))]) ⟨rfl, rfl, rfl, rfl, rfl, rfl, trivial⟩ ?_
    refine up0 (c := g.A.n) (H := fun i => G E C RL cL_isWeek zL_isWeek P (2 + 2 * i) (24 + 24 * i) (M.x (x2 E M.2 a b g.A.n (upto (fun k => g.A.f k 7 + lackV g.A k) i) (upto (fun k => detV g.A k (g.A.f k 6 + growV g.A k)) i))) 47 [(0, .ref (ad E 0 0 0)), (1, .int (nI g.A.n)), (2, .ref a), (3, .ref b), (4, .int (sm i (fun p => if g.A.f p 6 + growV g.A p < g.A.g 3 then 0 else 1))), (5, .int (nI i))] []) ?_ (fun i hi ih => ?_)
    · refine G_iload dL_isWeek_47 rfl ?_
      refine G_iload_n dL_isWeek_49 rfl ?_
      refine G_icmp_ge (tgt := 121) dL_isWeek_50 (by decide) (fun c50 => ?_) (fun c50 => ?_)
      · exact G_wid (by omega) (by omega) (G_lv2 (wk_121 hO hC hW (x2_ok hX0) h) ⟨rfl, rfl, rfl, rfl, rfl, trivial⟩)
      · exact absurd (show nI g.A.n ≤ nI g.A.n from Int32.le_refl _) c50
    · have hXi : ∀ i j, xOk E (x2 E M.2 a b g.A.n (upto (fun k => g.A.f k 7 + lackV g.A k) i) (upto (fun k => detV g.A k (g.A.f k 6 + growV g.A k)) j)) := fun i j => x2_ok hX0
      have k112 : ∀ u : Int32, (if g.A.f i 6 + growV g.A i < g.A.g 3 then (0 : Int32) else 1) = u → G E C RL cL_isWeek zL_isWeek P (2 + 2 * i + 1 + 1) (24 + 24 * i + 12 + 12) (M.x (x2 E M.2 a b g.A.n (upto (fun k => g.A.f k 7 + lackV g.A k) (i + 1)) (upto (fun k => detV g.A k (g.A.f k 6 + growV g.A k)) (i + 1)))) 112 [(0, .ref (ad E 0 0 0)), (1, .int (nI g.A.n)), (2, .ref a), (3, .ref b), (4, .int (sm i (fun p => if g.A.f p 6 + growV g.A p < g.A.g 3 then 0 else 1))), (5, .int (nI i))] [.int u, .int (sm i (fun p => if g.A.f p 6 + growV g.A p < g.A.g 3 then 0 else 1))] := fun u eu => by
        refine G_iadd dL_isWeek_112 ?_
        refine G_istore dL_isWeek_113 (Nat.le_of_ble_eq_true rfl) ?_
        refine G_iinc (v := 1) dL_isWeek_115 rfl (Nat.le_of_ble_eq_true rfl) (by decide) ?_
        refine G_goto (tgt := 47) dL_isWeek_118 (by decide) ?_
        refine G_wid (cs1 := 2 + 2 * (i + 1)) (ss1 := 24 + 24 * (i + 1)) (by omega) (by omega) ?_
        exact G_lv2 ih ⟨rfl, rfl, rfl, rfl, lvi (sm_t eu), lvi (nI_1 i), trivial⟩
      refine G_iload dL_isWeek_47 rfl ?_
      refine G_iload_n dL_isWeek_49 rfl ?_
      refine G_icmp_ge (tgt := 121) dL_isWeek_50 (by decide) (fun c50 => ?_) (fun c50 => ?_)
      · exact absurd (show nI g.A.n ≤ nI i from c50) (nI_ge hi (by omega))
      · refine G_aload_n dL_isWeek_53 rfl ?_
        refine G_iload dL_isWeek_54 rfl ?_
        refine G_aload_n dL_isWeek_56 rfl ?_
        refine G_iload dL_isWeek_57 rfl ?_
        refine G_bipush (v := 7) dL_isWeek_59 (by decide) ?_
        refine cv_L_59 (cs' := 2 + 2 * i) (ss' := 24 + 24 * i) dL_isWeek_61  (Nat.le_of_ble_eq_true rfl) (Nat.le_of_ble_eq_true rfl) (Nat.le_of_ble_eq_true rfl) rfl rfl (by show 2 + 2 * i ≤ 26; omega) (by show 24 + 24 * i ≤ 312; omega) rfl ?_
        refine u_pupil (k := 7) hi (by decide) (CG.x hC) hO (hGo_i ?_)
        refine G_aload_n dL_isWeek_64 rfl ?_
        refine G_iload dL_isWeek_65 rfl ?_
        refine cv_L_122 (cs' := 2 + 2 * i) (ss' := 24 + 24 * i) dL_isWeek_67  (Nat.le_of_ble_eq_true rfl) (Nat.le_of_ble_eq_true rfl) (Nat.le_of_ble_eq_true rfl) rfl rfl (by show 2 + 2 * i ≤ 26; omega) (by show 24 + 24 * i ≤ 312; omega) rfl ?_
        refine l_marks hi (CG.x hC) hO (hGo_i ?_)
        refine G_iadd dL_isWeek_70 ?_
        refine G_xiast (M := M.x (x2 E M.2 a b g.A.n (upto (fun k => g.A.f k 7 + lackV g.A k) i) (upto (fun k => detV g.A k (g.A.f k 6 + growV g.A k)) i))) (hXi i i) x2_a dL_isWeek_71 rfl hi (by omega) (fun _ => ?_)
        have ea : (x2 E M.2 a b g.A.n (upto (fun k => g.A.f k 7 + lackV g.A k) i) (upto (fun k => detV g.A k (g.A.f k 6 + growV g.A k)) i)).set M.2.length (a, .inl (E.2.2.1 0, g.A.n, .inl (upd (upto (fun k => g.A.f k 7 + lackV g.A k) i) i (g.A.f i 7 + lackV g.A i)))) = (x2 E M.2 a b g.A.n (upto (fun k => g.A.f k 7 + lackV g.A k) (i + 1)) (upto (fun k => detV g.A k (g.A.f k 6 + growV g.A k)) i)) := x2_sa.trans (congrArg (fun f => x2 E M.2 a b g.A.n f (upto (fun k => detV g.A k (g.A.f k 6 + growV g.A k)) i)) (upto_up (f := (fun k => g.A.f k 7 + lackV g.A k)) (k := i)))
        refine G_st (M' := M.x (x2 E M.2 a b g.A.n (upto (fun k => g.A.f k 7 + lackV g.A k) (i + 1)) (upto (fun k => detV g.A k (g.A.f k 6 + growV g.A k)) i))) rfl rfl (by rw [← ea]; rfl) ?_
        refine G_aload_n dL_isWeek_72 rfl ?_
        refine G_iload dL_isWeek_73 rfl ?_
        refine G_aload_n dL_isWeek_75 rfl ?_
        refine G_iload dL_isWeek_76 rfl ?_
        refine cv_L_131 (cs' := 2 + 2 * i + 1) (ss' := 24 + 24 * i + 12) dL_isWeek_78  (Nat.le_of_ble_eq_true rfl) (Nat.le_of_ble_eq_true rfl) (Nat.le_of_ble_eq_true rfl) rfl rfl (by show 2 + 2 * i + 1 ≤ 26; omega) (by show 24 + 24 * i + 12 ≤ 312; omega) rfl ?_
        refine l_detention hi (CG.x hC) hO (hXi (i + 1) i) (hGo_i ?_)
        refine G_xiast (M := M.x (x2 E M.2 a b g.A.n (upto (fun k => g.A.f k 7 + lackV g.A k) (i + 1)) (upto (fun k => detV g.A k (g.A.f k 6 + growV g.A k)) i))) (hXi (i + 1) i) x2_b dL_isWeek_81 rfl hi (by omega) (fun _ => ?_)
        have eb : (x2 E M.2 a b g.A.n (upto (fun k => g.A.f k 7 + lackV g.A k) (i + 1)) (upto (fun k => detV g.A k (g.A.f k 6 + growV g.A k)) i)).set (M.2.length + 1) (b, .inl (E.2.2.1 0, g.A.n, .inl (upd (upto (fun k => detV g.A k (g.A.f k 6 + growV g.A k)) i) i (detV g.A i (g.A.f i 6 + growV g.A i))))) = (x2 E M.2 a b g.A.n (upto (fun k => g.A.f k 7 + lackV g.A k) (i + 1)) (upto (fun k => detV g.A k (g.A.f k 6 + growV g.A k)) (i + 1))) := x2_sb.trans (congrArg (fun f => x2 E M.2 a b g.A.n (upto (fun k => g.A.f k 7 + lackV g.A k) (i + 1)) f) (upto_up (f := (fun k => detV g.A k (g.A.f k 6 + growV g.A k))) (k := i)))
        refine G_st (M' := M.x (x2 E M.2 a b g.A.n (upto (fun k => g.A.f k 7 + lackV g.A k) (i + 1)) (upto (fun k => detV g.A k (g.A.f k 6 + growV g.A k)) (i + 1)))) rfl rfl (by rw [← eb]) ?_
        refine G_iload dL_isWeek_82 rfl ?_
        refine G_aload_n dL_isWeek_84 rfl ?_
        refine G_iload dL_isWeek_85 rfl ?_
        refine G_bipush (v := 6) dL_isWeek_87 (by decide) ?_
        refine cv_L_59 (cs' := 2 + 2 * i + 1) (ss' := 24 + 24 * i + 12) dL_isWeek_89  (Nat.le_of_ble_eq_true rfl) (Nat.le_of_ble_eq_true rfl) (Nat.le_of_ble_eq_true rfl) rfl rfl (by show 2 + 2 * i + 1 ≤ 26; omega) (by show 24 + 24 * i + 12 ≤ 312; omega) rfl ?_
        refine u_pupil (k := 6) hi (by decide) (CG.x hC) hO (hGo_i ?_)
        refine G_aload_n dL_isWeek_92 rfl ?_
        refine G_iload dL_isWeek_93 rfl ?_
        refine cv_L_87 (cs' := 2 + 2 * i + 1 + 1) (ss' := 24 + 24 * i + 12 + 12) dL_isWeek_95  (Nat.le_of_ble_eq_true rfl) (Nat.le_of_ble_eq_true rfl) (Nat.le_of_ble_eq_true rfl) rfl rfl (by show 2 + 2 * i + 1 + 1 ≤ 26; omega) (by show 24 + 24 * i + 12 + 12 ≤ 312; omega) rfl ?_
        refine l_growth hi (CG.x hC) hO (hXi (i + 1) (i + 1)) (hGo_i ?_)
        refine G_iadd dL_isWeek_98 ?_
        refine G_aload_n dL_isWeek_99 rfl ?_
        refine G_iconst (v := 3) dL_isWeek_100 (by decide) ?_
        refine cv_L_68 (cs' := 2 + 2 * i + 1 + 1) (ss' := 24 + 24 * i + 12 + 12) dL_isWeek_101  (Nat.le_of_ble_eq_true rfl) (Nat.le_of_ble_eq_true rfl) (Nat.le_of_ble_eq_true rfl) rfl rfl (by show 2 + 2 * i + 1 + 1 ≤ 26; omega) (by show 24 + 24 * i + 12 + 12 ≤ 312; omega) rfl ?_
        refine u_count (k := 3) (by decide) (CG.x hC) (hGo_i ?_)
        refine G_icmp_lt (tgt := 111) dL_isWeek_104 (by decide) (fun c104 => ?_) (fun c104 => ?_)
        · refine G_iconst (v := 0) dL_isWeek_111 (by decide) ?_
          exact k112 0 (if_pos c104)
        · refine G_iconst (v := 1) dL_isWeek_107 (by decide) ?_
          refine G_goto (tgt := 112) dL_isWeek_108 (by decide) ?_
          exact k112 1 (if_neg c104)
  · have : nI v = nI 999 := ev.symm.trans c8
    exact absurd ((nI_eq (by omega) (by decide)).mp this) (by omega)
end LWEEK
