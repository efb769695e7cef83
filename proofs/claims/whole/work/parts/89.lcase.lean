/-! ===== the law's cases ===== -/
section LCASE
variable {E : Ed} {C : Cx} {M : Mm} {P : Res → Mm → Prop} {g : Gs} {a L i cs ss : Nat} {xs : Nat → Int32}
abbrev zLw : Zd := (10, ret, (601024, 7293034), 13, 494, [])
abbrev lvL (E : Ed) (a i : Nat) : List (Nat × Value) := [(0, .ref a), (1, .ref (ad E 0 0 0)), (2, .ref (ad E 20 0 0)), (3, .ref (ad E 27 0 0)), (4, .ref (ad E 28 0 0)), (5, .int (nI i))]
theorem nI0 {n : Nat} (hn : n < 3) (h : nI n = 0) : n = 0 := by
  rcases (show n = 0 ∨ n = 1 ∨ n = 2 by omega) with rfl | rfl | rfl
  · rfl
  · exact absurd h (by decide)
  · exact absurd h (by decide)
theorem qWork_ok {x y z' : Int32} (h : Okg g) : Okg (qWork g x y z').1 := by
  have h12 := h.1.1.2
  unfold qWork
  split
  · rename_i q1
    split
    · rename_i q2
      obtain ⟨p, hp, -, e⟩ := in_ix q1 (by omega)
      obtain ⟨s, -, hs, -, es⟩ := inR_ix (i := 0) (k := 1) (by decide) (by decide) q2.1
      obtain ⟨n, -, hn, -, en⟩ := inR_ix (i := 1) (k := 20) (by decide) (by decide) q2.2
      show Okg (sWork g (tn x) (tn y) (tn z')).1
      rw [e, es, en]
      exact sWork_ok h hp (by omega) hn
    · exact h
  · exact h
theorem qSwap_ok {x y n m : Int32} (h : Okg g) : Okg (qSwap g x y n m).1 := by
  have h12 := h.1.1.2
  unfold qSwap
  split
  · rename_i q1
    split
    · rename_i q2
      obtain ⟨p, hp, -, e⟩ := in_ix q1.1 (by omega)
      obtain ⟨p2, hp2, -, e2⟩ := in_ix q1.2 (by omega)
      obtain ⟨s, -, hs, -, es⟩ := inR_ix (i := 0) (k := 20) (by decide) (by decide) q2.1
      obtain ⟨k, -, hn, -, en⟩ := inR_ix (i := 0) (k := 20) (by decide) (by decide) q2.2
      show Okg (sSwap g (tn x) (tn y) (tn n) (tn m)).1
      rw [e, e2, es, en]
      exact sSwap_ok h hp hp2 hs hn
    · exact h
  · exact h
theorem qLend_ok {x y n m : Int32} (h : Okg g) : Okg (qLend g x y n m).1 := by
  have h12 := h.1.1.2
  unfold qLend
  split
  · rename_i q1
    split
    · rename_i q2
      obtain ⟨p, hp, -, e⟩ := in_ix q1.1 (by omega)
      obtain ⟨p2, hp2, -, e2⟩ := in_ix q1.2 (by omega)
      obtain ⟨s, -, hs, -, es⟩ := inR_ix (i := 0) (k := 1) (by decide) (by decide) q2.1
      obtain ⟨k, hn1, hn, -, en⟩ := inR_ix (i := 1) (k := 20) (by decide) (by decide) q2.2
      show Okg (sLend g (tn x) (tn y) (tn n) (tn m)).1
      rw [e, e2, es, en]
      exact sLend_ok h hp hp2 (by omega) hn1 hn
    · exact h
  · exact h
theorem qPay_ok {x y n m : Int32} (h : Okg g) : Okg (qPay g x y n m).1 := by
  have h12 := h.1.1.2
  unfold qPay
  split
  · rename_i q1
    split
    · rename_i q2
      obtain ⟨p, hp, -, e⟩ := in_ix q1.1 (by omega)
      obtain ⟨p2, hp2, -, e2⟩ := in_ix q1.2 (by omega)
      obtain ⟨s, -, hs, -, es⟩ := inR_ix (i := 0) (k := 1) (by decide) (by decide) q2.1
      obtain ⟨k, hn1, hn, -, en⟩ := inR_ix (i := 1) (k := 20) (by decide) (by decide) q2.2
      show Okg (sPay g (tn x) (tn y) (tn n) (tn m)).1
      rw [e, e2, es, en]
      exact sPay_ok h hp hp2 (by omega) hn1 hn
    · exact h
  · exact h
theorem qMove_ok {x y z' : Int32} (h : Okg g) : Okg (qMove g x y z').1 := by
  unfold qMove
  split
  · split
    · exact sMove_ok h
    · exact h
  · exact h
theorem qConfess_ok {x : Int32} (h : Okg g) : Okg (qConfess g x).1 := by
  unfold qConfess
  split
  · exact sConfess_ok h
  · exact h
theorem qPass_ok {x : Int32} (h : Okg g) : Okg (qPass g x).1 := by
  unfold qPass
  split
  · exact sPass_ok h
  · exact h
theorem qAppend_ok {x : Int32} (h : Okg g) : Okg (qAppend g x).1 := by
  unfold qAppend
  split
  · exact h
  · exact h
theorem qTrunc_ok {x : Int32} (h : Okg g) : Okg (qTrunc g x).1 := by
  unfold qTrunc
  split
  · exact h
  · exact h
theorem qWrite_ok {x : Int32} (h : Okg g) : Okg (qWrite g x).1 := by
  unfold qWrite
  split
  · exact h
  · exact h
theorem lkw_159 : hLSH RL 159 yL_appendText cL_appendText zL_appendText 3 := ⟨(hq 818 (by decide +kernel) rfl), (hq 0 (by decide +kernel) rfl), (hq 820 (by decide +kernel) rfl), List.cons_ne_nil _ _, ⟨by decide, by decide, by decide +kernel⟩, (hq 819 (by decide +kernel) rfl)⟩
theorem lkw_169 : hLSH RL 169 yL_truncateText cL_truncateText zL_truncateText 3 := ⟨(hq 897 (by decide +kernel) rfl), (hq 0 (by decide +kernel) rfl), (hq 899 (by decide +kernel) rfl), List.cons_ne_nil _ _, ⟨by decide, by decide, by decide +kernel⟩, (hq 898 (by decide +kernel) rfl)⟩
theorem lkw_188 : hLSH RL 188 yL_count cL_count zL_count 3 := ⟨(hq 924 (by decide +kernel) rfl), (hq 0 (by decide +kernel) rfl), (hq 926 (by decide +kernel) rfl), List.cons_ne_nil _ _, ⟨by decide, by decide, by decide +kernel⟩, (hq 925 (by decide +kernel) rfl)⟩
theorem lkw_191 : hLSH RL 191 yL_tally cL_tally zL_tally 3 := ⟨(hq 945 (by decide +kernel) rfl), (hq 0 (by decide +kernel) rfl), (hq 947 (by decide +kernel) rfl), List.cons_ne_nil _ _, ⟨by decide, by decide, by decide +kernel⟩, (hq 946 (by decide +kernel) rfl)⟩
theorem lkw_194 : hLSH RL 194 yL_pupil cL_pupil zL_pupil 4 := ⟨(hq 952 (by decide +kernel) rfl), (hq 0 (by decide +kernel) rfl), (hq 954 (by decide +kernel) rfl), List.cons_ne_nil _ _, ⟨by decide, by decide, by decide +kernel⟩, (hq 953 (by decide +kernel) rfl)⟩
theorem lkw_198 : hLSH RL 198 yL_piece cL_piece zL_piece 5 := ⟨(hq 983 (by decide +kernel) rfl), (hq 0 (by decide +kernel) rfl), (hq 985 (by decide +kernel) rfl), List.cons_ne_nil _ _, ⟨by decide, by decide, by decide +kernel⟩, (hq 984 (by decide +kernel) rfl)⟩
theorem lkw_202 : hLSH RL 202 yL_madeBy cL_madeBy zL_madeBy 5 := ⟨(hq 998 (by decide +kernel) rfl), (hq 0 (by decide +kernel) rfl), (hq 1000 (by decide +kernel) rfl), List.cons_ne_nil _ _, ⟨by decide, by decide, by decide +kernel⟩, (hq 999 (by decide +kernel) rfl)⟩
theorem lkw_205 : hLSH RL 205 yL_debt cL_debt zL_debt 4 := ⟨(hq 1009 (by decide +kernel) rfl), (hq 0 (by decide +kernel) rfl), (hq 1011 (by decide +kernel) rfl), List.cons_ne_nil _ _, ⟨by decide, by decide, by decide +kernel⟩, (hq 1010 (by decide +kernel) rfl)⟩
theorem lkw_208 : hLSH RL 208 yL_owes cL_owes zL_owes 5 := ⟨(hq 1022 (by decide +kernel) rfl), (hq 0 (by decide +kernel) rfl), (hq 1024 (by decide +kernel) rfl), List.cons_ne_nil _ _, ⟨by decide, by decide, by decide +kernel⟩, (hq 1023 (by decide +kernel) rfl)⟩
theorem lkw_211 : hLSH RL 211 yL_isNear cL_isNear zL_isNear 4 := ⟨(hq 1030 (by decide +kernel) rfl), (hq 0 (by decide +kernel) rfl), (hq 1032 (by decide +kernel) rfl), List.cons_ne_nil _ _, ⟨by decide, by decide, by decide +kernel⟩, (hq 1031 (by decide +kernel) rfl)⟩
theorem lkw_214 : hLSH RL 214 yL_witness cL_witness zL_witness 4 := ⟨(hq 1038 (by decide +kernel) rfl), (hq 0 (by decide +kernel) rfl), (hq 1040 (by decide +kernel) rfl), List.cons_ne_nil _ _, ⟨by decide, by decide, by decide +kernel⟩, (hq 1039 (by decide +kernel) rfl)⟩
theorem lkw_217 : hLSH RL 217 yL_bench cL_bench zL_bench 4 := ⟨(hq 1048 (by decide +kernel) rfl), (hq 0 (by decide +kernel) rfl), (hq 1050 (by decide +kernel) rfl), List.cons_ne_nil _ _, ⟨by decide, by decide, by decide +kernel⟩, (hq 1049 (by decide +kernel) rfl)⟩
theorem lkw_220 : hLSH RL 220 yL_seers cL_seers zL_seers 4 := ⟨(hq 1059 (by decide +kernel) rfl), (hq 0 (by decide +kernel) rfl), (hq 1061 (by decide +kernel) rfl), List.cons_ne_nil _ _, ⟨by decide, by decide, by decide +kernel⟩, (hq 1060 (by decide +kernel) rfl)⟩
theorem lkw_223 : hLSH RL 223 yL_why cL_why zL_why 4 := ⟨(hq 1068 (by decide +kernel) rfl), (hq 0 (by decide +kernel) rfl), (hq 1070 (by decide +kernel) rfl), List.cons_ne_nil _ _, ⟨by decide, by decide, by decide +kernel⟩, (hq 1069 (by decide +kernel) rfl)⟩
theorem lkw_226 : hLSH RL 226 yL_most cL_most zL_most 3 := ⟨(hq 1102 (by decide +kernel) rfl), (hq 0 (by decide +kernel) rfl), (hq 1104 (by decide +kernel) rfl), List.cons_ne_nil _ _, ⟨by decide, by decide, by decide +kernel⟩, (hq 1103 (by decide +kernel) rfl)⟩
theorem lkw_229 : hLSH RL 229 yL_ranked cL_ranked zL_ranked 4 := ⟨(hq 1113 (by decide +kernel) rfl), (hq 0 (by decide +kernel) rfl), (hq 1115 (by decide +kernel) rfl), List.cons_ne_nil _ _, ⟨by decide, by decide, by decide +kernel⟩, (hq 1114 (by decide +kernel) rfl)⟩
theorem lkw_232 : hLSH RL 232 yL_mostOf cL_mostOf zL_mostOf 3 := ⟨(hq 1125 (by decide +kernel) rfl), (hq 0 (by decide +kernel) rfl), (hq 1127 (by decide +kernel) rfl), List.cons_ne_nil _ _, ⟨by decide, by decide, by decide +kernel⟩, (hq 1126 (by decide +kernel) rfl)⟩
theorem lkw_235 : hLSH RL 235 yL_makers cL_makers zL_makers 4 := ⟨(hq 1132 (by decide +kernel) rfl), (hq 0 (by decide +kernel) rfl), (hq 1134 (by decide +kernel) rfl), List.cons_ne_nil _ _, ⟨by decide, by decide, by decide +kernel⟩, (hq 1133 (by decide +kernel) rfl)⟩
theorem lkw_238 : hLSH RL 238 yL_needs cL_needs zL_needs 4 := ⟨(hq 1145 (by decide +kernel) rfl), (hq 0 (by decide +kernel) rfl), (hq 1147 (by decide +kernel) rfl), List.cons_ne_nil _ _, ⟨by decide, by decide, by decide +kernel⟩, (hq 1146 (by decide +kernel) rfl)⟩
theorem lkw_241 : hLSH RL 241 yL_nearTo cL_nearTo zL_nearTo 4 := ⟨(hq 1153 (by decide +kernel) rfl), (hq 0 (by decide +kernel) rfl), (hq 1155 (by decide +kernel) rfl), List.cons_ne_nil _ _, ⟨by decide, by decide, by decide +kernel⟩, (hq 1154 (by decide +kernel) rfl)⟩
theorem lkw_244 : hLSH RL 244 yL_debtOf cL_debtOf zL_debtOf 4 := ⟨(hq 1161 (by decide +kernel) rfl), (hq 0 (by decide +kernel) rfl), (hq 1163 (by decide +kernel) rfl), List.cons_ne_nil _ _, ⟨by decide, by decide, by decide +kernel⟩, (hq 1162 (by decide +kernel) rfl)⟩
theorem lkw_247 : hLSH RL 247 yL_canPay cL_canPay zL_canPay 3 := ⟨(hq 1172 (by decide +kernel) rfl), (hq 0 (by decide +kernel) rfl), (hq 1174 (by decide +kernel) rfl), List.cons_ne_nil _ _, ⟨by decide, by decide, by decide +kernel⟩, (hq 1173 (by decide +kernel) rfl)⟩
theorem lkw_250 : hLSH RL 250 yL_refusals cL_refusals zL_refusals 3 := ⟨(hq 1179 (by decide +kernel) rfl), (hq 0 (by decide +kernel) rfl), (hq 1181 (by decide +kernel) rfl), List.cons_ne_nil _ _, ⟨by decide, by decide, by decide +kernel⟩, (hq 1180 (by decide +kernel) rfl)⟩
theorem lkw_262 : hLSH RL 262 yL_ownShare cL_ownShare zL_ownShare 3 := ⟨(hq 1186 (by decide +kernel) rfl), (hq 0 (by decide +kernel) rfl), (hq 1188 (by decide +kernel) rfl), List.cons_ne_nil _ _, ⟨by decide, by decide, by decide +kernel⟩, (hq 1187 (by decide +kernel) rfl)⟩
theorem lkw_266 : hLSH RL 266 yL_couldMake cL_couldMake zL_couldMake 4 := ⟨(hq 1193 (by decide +kernel) rfl), (hq 0 (by decide +kernel) rfl), (hq 1195 (by decide +kernel) rfl), List.cons_ne_nil _ _, ⟨by decide, by decide, by decide +kernel⟩, (hq 1194 (by decide +kernel) rfl)⟩
theorem lkw_269 : hLSH RL 269 yL_ifWeek cL_ifWeek zL_ifWeek 4 := ⟨(hq 1201 (by decide +kernel) rfl), (hq 0 (by decide +kernel) rfl), (hq 1203 (by decide +kernel) rfl), List.cons_ne_nil _ _, ⟨by decide, by decide, by decide +kernel⟩, (hq 1202 (by decide +kernel) rfl)⟩
theorem lkw_272 : hLSH RL 272 yL_ifPassed cL_ifPassed zL_ifPassed 4 := ⟨(hq 1210 (by decide +kernel) rfl), (hq 0 (by decide +kernel) rfl), (hq 1212 (by decide +kernel) rfl), List.cons_ne_nil _ _, ⟨by decide, by decide, by decide +kernel⟩, (hq 1211 (by decide +kernel) rfl)⟩
theorem lkw_275 : hLSH RL 275 yL_freeIn cL_freeIn zL_freeIn 3 := ⟨(hq 1217 (by decide +kernel) rfl), (hq 0 (by decide +kernel) rfl), (hq 1219 (by decide +kernel) rfl), List.cons_ne_nil _ _, ⟨by decide, by decide, by decide +kernel⟩, (hq 1218 (by decide +kernel) rfl)⟩
theorem lkw_278 : hLSH RL 278 yL_ifMoved cL_ifMoved zL_ifMoved 5 := ⟨(hq 1225 (by decide +kernel) rfl), (hq 0 (by decide +kernel) rfl), (hq 1227 (by decide +kernel) rfl), List.cons_ne_nil _ _, ⟨by decide, by decide, by decide +kernel⟩, (hq 1226 (by decide +kernel) rfl)⟩
theorem lkw_281 : hLSH RL 281 yL_whySwap cL_whySwap zL_whySwap 6 := ⟨(hq 1236 (by decide +kernel) rfl), (hq 0 (by decide +kernel) rfl), (hq 1238 (by decide +kernel) rfl), List.cons_ne_nil _ _, ⟨by decide, by decide, by decide +kernel⟩, (hq 1237 (by decide +kernel) rfl)⟩
theorem lkw_285 : hLSH RL 285 yL_whyLend cL_whyLend zL_whyLend 6 := ⟨(hq 1247 (by decide +kernel) rfl), (hq 0 (by decide +kernel) rfl), (hq 1249 (by decide +kernel) rfl), List.cons_ne_nil _ _, ⟨by decide, by decide, by decide +kernel⟩, (hq 1248 (by decide +kernel) rfl)⟩
theorem lkw_288 : hLSH RL 288 yL_safestBench cL_safestBench zL_safestBench 3 := ⟨(hq 1258 (by decide +kernel) rfl), (hq 0 (by decide +kernel) rfl), (hq 1260 (by decide +kernel) rfl), List.cons_ne_nil _ _, ⟨by decide, by decide, by decide +kernel⟩, (hq 1259 (by decide +kernel) rfl)⟩
theorem lkw_291 : hLSH RL 291 yL_safestPartner cL_safestPartner zL_safestPartner 3 := ⟨(hq 1265 (by decide +kernel) rfl), (hq 0 (by decide +kernel) rfl), (hq 1267 (by decide +kernel) rfl), List.cons_ne_nil _ _, ⟨by decide, by decide, by decide +kernel⟩, (hq 1266 (by decide +kernel) rfl)⟩
theorem lkw_294 : hLSH RL 294 yL_drownsIn cL_drownsIn zL_drownsIn 4 := ⟨(hq 1272 (by decide +kernel) rfl), (hq 0 (by decide +kernel) rfl), (hq 1274 (by decide +kernel) rfl), List.cons_ne_nil _ _, ⟨by decide, by decide, by decide +kernel⟩, (hq 1273 (by decide +kernel) rfl)⟩
theorem lkw_297 : hLSH RL 297 yL_work cL_work zL_work 5 := ⟨(hq 1284 (by decide +kernel) rfl), (hq 0 (by decide +kernel) rfl), (hq 1286 (by decide +kernel) rfl), List.cons_ne_nil _ _, ⟨by decide, by decide, by decide +kernel⟩, (hq 1285 (by decide +kernel) rfl)⟩
theorem lkw_300 : hLSH RL 300 yL_swap cL_swap zL_swap 6 := ⟨(hq 1291 (by decide +kernel) rfl), (hq 0 (by decide +kernel) rfl), (hq 1293 (by decide +kernel) rfl), List.cons_ne_nil _ _, ⟨by decide, by decide, by decide +kernel⟩, (hq 1292 (by decide +kernel) rfl)⟩
theorem lkw_303 : hLSH RL 303 yL_lend cL_lend zL_lend 6 := ⟨(hq 1298 (by decide +kernel) rfl), (hq 0 (by decide +kernel) rfl), (hq 1300 (by decide +kernel) rfl), List.cons_ne_nil _ _, ⟨by decide, by decide, by decide +kernel⟩, (hq 1299 (by decide +kernel) rfl)⟩
theorem lkw_306 : hLSH RL 306 yL_payBack cL_payBack zL_payBack 6 := ⟨(hq 1305 (by decide +kernel) rfl), (hq 0 (by decide +kernel) rfl), (hq 1307 (by decide +kernel) rfl), List.cons_ne_nil _ _, ⟨by decide, by decide, by decide +kernel⟩, (hq 1306 (by decide +kernel) rfl)⟩
theorem lkw_309 : hLSH RL 309 yL_move cL_move zL_move 5 := ⟨(hq 1312 (by decide +kernel) rfl), (hq 0 (by decide +kernel) rfl), (hq 1314 (by decide +kernel) rfl), List.cons_ne_nil _ _, ⟨by decide, by decide, by decide +kernel⟩, (hq 1313 (by decide +kernel) rfl)⟩
theorem lkw_312 : hLSH RL 312 yL_confess cL_confess zL_confess 3 := ⟨(hq 1319 (by decide +kernel) rfl), (hq 0 (by decide +kernel) rfl), (hq 1321 (by decide +kernel) rfl), List.cons_ne_nil _ _, ⟨by decide, by decide, by decide +kernel⟩, (hq 1320 (by decide +kernel) rfl)⟩
theorem lkw_315 : hLSH RL 315 yL_pass cL_pass zL_pass 3 := ⟨(hq 1326 (by decide +kernel) rfl), (hq 0 (by decide +kernel) rfl), (hq 1328 (by decide +kernel) rfl), List.cons_ne_nil _ _, ⟨by decide, by decide, by decide +kernel⟩, (hq 1327 (by decide +kernel) rfl)⟩
theorem lkw_318 : hLSH RL 318 yL_write cL_write zL_write 3 := ⟨(hq 1333 (by decide +kernel) rfl), (hq 0 (by decide +kernel) rfl), (hq 1335 (by decide +kernel) rfl), List.cons_ne_nil _ _, ⟨by decide, by decide, by decide +kernel⟩, (hq 1334 (by decide +kernel) rfl)⟩
theorem lkw_329 : hLSH RL 329 yL_save cL_save zL_save 2 := ⟨(hq 1348 (by decide +kernel) rfl), (hq 0 (by decide +kernel) rfl), (hq 1350 (by decide +kernel) rfl), List.cons_ne_nil _ _, ⟨by decide, by decide, by decide +kernel⟩, (hq 1349 (by decide +kernel) rfl)⟩
theorem lkw_333 : hLSH RL 333 yL_restore cL_restore zL_restore 2 := ⟨(hq 1355 (by decide +kernel) rfl), (hq 0 (by decide +kernel) rfl), (hq 1357 (by decide +kernel) rfl), List.cons_ne_nil _ _, ⟨by decide, by decide, by decide +kernel⟩, (hq 1356 (by decide +kernel) rfl)⟩
theorem bl_qAppend {x : Int32} : (qAppend g x).2.1 < 3 := by rcases @b_qAppend g x with b | b <;> omega
theorem l_appendText (hX : hSc E C a L xs) (hi : i + 5 ≤ L) (hL : L ≤ 2560) (hcs : cs + 4 ≤ 601024) (hss : ss + 24 ≤ 7293034) (hC : CG M g) (hG : MG M g) (hO : Okg g) (ih : ∀ (M' : Mm) (g' : Gs), CG M' g' → MG M' g' → Okg g' → G E C RL cL_law zLw P (cs + 4) (ss + 24) M' 3388 (lvL E a i) []) : G E C RL cL_law zLw P cs ss M 268 (lvL E a i) [] := by
  refine G_aload_n dL_law_268 rfl ?_
  refine G_aload_n dL_law_269 rfl ?_
  refine G_iload dL_law_270 rfl ?_
  refine G_iconst (v := 1) dL_law_272 (by decide) ?_
  refine G_iadd dL_law_273 ?_
  refine G_sld dL_law_274 hX (show nI i + 1 = nI (i + 1) from nI_add i 1) (by omega) (by omega) ?_
  refine G_aload_n dL_law_275 rfl ?_
  refine G_callSH (n := 3) (as := [.ref (ad E 0 0 0), .int (xs (i + 1)), .ref (ad E 27 0 0)]) (rest := []) (cs' := cs + 1) (ss' := ss + 6) dL_law_276 lkw_159 rfl rfl (Nat.le_of_ble_eq_true rfl) (Nat.le_of_ble_eq_true rfl) (Nat.le_of_ble_eq_true rfl) rfl rfl (by show cs + 1 ≤ 601024; omega) (by show ss + 6 ≤ 7293034; omega) rfl ?_
  refine w_appendText hC hO hG (fun M1 hC1 hG1 e1 => hGo_i ?_)
  refine G_istore dL_law_279 (Nat.le_of_ble_eq_true rfl) ?_
  refine G_aload_n dL_law_281 rfl ?_
  refine G_aload_n dL_law_282 rfl ?_
  refine G_iload dL_law_283 rfl ?_
  refine G_iconst (v := 1) dL_law_285 (by decide) ?_
  refine G_iadd dL_law_286 ?_
  refine G_sld dL_law_287 hX (show nI i + 1 = nI (i + 1) from nI_add i 1) (by omega) (by omega) ?_
  refine cv_L_164 (cs' := cs + 1) (ss' := ss + 6) dL_law_288 (Nat.le_of_ble_eq_true rfl) (Nat.le_of_ble_eq_true rfl) (Nat.le_of_ble_eq_true rfl) rfl rfl (by show cs + 1 ≤ 601024; omega) (by show ss + 6 ≤ 7293034; omega) rfl ?_
  refine m_appendText hG1 hO (fun M2 v hG2 hf2 et ev => hGo_i ?_)
  have hC2 := hC1.fm hf2
  refine G_istore dL_law_291 (Nat.le_of_ble_eq_true rfl) ?_
  refine G_aload_n dL_law_293 rfl ?_
  refine cv_L_165 (cs' := cs + 1) (ss' := ss + 6) dL_law_294 (Nat.le_of_ble_eq_true rfl) (Nat.le_of_ble_eq_true rfl) (Nat.le_of_ble_eq_true rfl) rfl rfl (by show cs + 1 ≤ 601024; omega) (by show ss + 6 ≤ 7293034; omega) rfl ?_
  refine m_thrown (hGo_i ?_)
  rw [et]
  refine G_iload dL_law_297 rfl ?_
  refine G_icmp_eq (tgt := 304) dL_law_299 (by decide) (fun _ => ?_) (fun z => absurd rfl z)
  refine G_iload dL_law_304 rfl ?_
  refine G_if_ne (tgt := 321) dL_law_306 (by decide) (fun _ => ?_) (fun z0 => ?_)
  · refine G_goto (tgt := 3388) dL_law_321 (by decide) ?_
    exact G_wid (by omega) (by omega) (G_lv2 (ih M2 _ hC2 hG2 (qAppend_ok hO)) ⟨rfl, rfl, rfl, rfl, rfl, rfl, trivial⟩)
  · have q0 : (qAppend g (xs (i + 1))).2.1 = 0 := nI0 (bl_qAppend) z0
    have eo : M2.2.1 = M1.2.1 := congrArg Prod.fst hf2.1.1
    have el : M2.2.1 = v.toInt64 := by rw [eo, ev q0]; exact e1 q0
    refine G_aload_n dL_law_309 rfl ?_
    refine G_iconst (v := 0) dL_law_310 (by decide) ?_
    refine G_lald dL_law_311 ?_
    refine G_iload dL_law_312 rfl ?_
    refine G_i2l dL_law_314 ?_
    refine G_lcmpE dL_law_315 el ?_
    refine G_if_eq (tgt := 321) dL_law_316 (by decide) (fun _ => ?_) (fun z => absurd rfl z)
    refine G_goto (tgt := 3388) dL_law_321 (by decide) ?_
    exact G_wid (by omega) (by omega) (G_lv2 (ih M2 _ hC2 hG2 (qAppend_ok hO)) ⟨rfl, rfl, rfl, rfl, rfl, rfl, trivial⟩)
theorem bl_qTrunc {x : Int32} : (qTrunc g x).2.1 < 3 := by rcases @b_qTrunc g x with b | b <;> omega
theorem l_truncateText (hX : hSc E C a L xs) (hi : i + 5 ≤ L) (hL : L ≤ 2560) (hcs : cs + 4 ≤ 601024) (hss : ss + 24 ≤ 7293034) (hC : CG M g) (hG : MG M g) (hO : Okg g) (ih : ∀ (M' : Mm) (g' : Gs), CG M' g' → MG M' g' → Okg g' → G E C RL cL_law zLw P (cs + 4) (ss + 24) M' 3388 (lvL E a i) []) : G E C RL cL_law zLw P cs ss M 324 (lvL E a i) [] := by
  refine G_aload_n dL_law_324 rfl ?_
  refine G_aload_n dL_law_325 rfl ?_
  refine G_iload dL_law_326 rfl ?_
  refine G_iconst (v := 1) dL_law_328 (by decide) ?_
  refine G_iadd dL_law_329 ?_
  refine G_sld dL_law_330 hX (show nI i + 1 = nI (i + 1) from nI_add i 1) (by omega) (by omega) ?_
  refine G_aload_n dL_law_331 rfl ?_
  refine G_callSH (n := 3) (as := [.ref (ad E 0 0 0), .int (xs (i + 1)), .ref (ad E 27 0 0)]) (rest := []) (cs' := cs + 1) (ss' := ss + 6) dL_law_332 lkw_169 rfl rfl (Nat.le_of_ble_eq_true rfl) (Nat.le_of_ble_eq_true rfl) (Nat.le_of_ble_eq_true rfl) rfl rfl (by show cs + 1 ≤ 601024; omega) (by show ss + 6 ≤ 7293034; omega) rfl ?_
  refine w_truncateText hC hO hG (fun M1 hC1 hG1 e1 => hGo_i ?_)
  refine G_istore dL_law_335 (Nat.le_of_ble_eq_true rfl) ?_
  refine G_aload_n dL_law_337 rfl ?_
  refine G_aload_n dL_law_338 rfl ?_
  refine G_iload dL_law_339 rfl ?_
  refine G_iconst (v := 1) dL_law_341 (by decide) ?_
  refine G_iadd dL_law_342 ?_
  refine G_sld dL_law_343 hX (show nI i + 1 = nI (i + 1) from nI_add i 1) (by omega) (by omega) ?_
  refine cv_L_171 (cs' := cs + 1) (ss' := ss + 6) dL_law_344 (Nat.le_of_ble_eq_true rfl) (Nat.le_of_ble_eq_true rfl) (Nat.le_of_ble_eq_true rfl) rfl rfl (by show cs + 1 ≤ 601024; omega) (by show ss + 6 ≤ 7293034; omega) rfl ?_
  refine m_truncateText hG1 hO (fun M2 v hG2 hf2 et ev => hGo_i ?_)
  have hC2 := hC1.fm hf2
  refine G_istore dL_law_347 (Nat.le_of_ble_eq_true rfl) ?_
  refine G_aload_n dL_law_349 rfl ?_
  refine cv_L_165 (cs' := cs + 1) (ss' := ss + 6) dL_law_350 (Nat.le_of_ble_eq_true rfl) (Nat.le_of_ble_eq_true rfl) (Nat.le_of_ble_eq_true rfl) rfl rfl (by show cs + 1 ≤ 601024; omega) (by show ss + 6 ≤ 7293034; omega) rfl ?_
  refine m_thrown (hGo_i ?_)
  rw [et]
  refine G_iload dL_law_353 rfl ?_
  refine G_icmp_eq (tgt := 360) dL_law_355 (by decide) (fun _ => ?_) (fun z => absurd rfl z)
  refine G_iload dL_law_360 rfl ?_
  refine G_if_ne (tgt := 377) dL_law_362 (by decide) (fun _ => ?_) (fun z0 => ?_)
  · refine G_goto (tgt := 3388) dL_law_377 (by decide) ?_
    exact G_wid (by omega) (by omega) (G_lv2 (ih M2 _ hC2 hG2 (qTrunc_ok hO)) ⟨rfl, rfl, rfl, rfl, rfl, rfl, trivial⟩)
  · have q0 : (qTrunc g (xs (i + 1))).2.1 = 0 := nI0 (bl_qTrunc) z0
    have eo : M2.2.1 = M1.2.1 := congrArg Prod.fst hf2.1.1
    have el : M2.2.1 = v.toInt64 := by rw [eo, ev q0]; exact e1 q0
    refine G_aload_n dL_law_365 rfl ?_
    refine G_iconst (v := 0) dL_law_366 (by decide) ?_
    refine G_lald dL_law_367 ?_
    refine G_iload dL_law_368 rfl ?_
    refine G_i2l dL_law_370 ?_
    refine G_lcmpE dL_law_371 el ?_
    refine G_if_eq (tgt := 377) dL_law_372 (by decide) (fun _ => ?_) (fun z => absurd rfl z)
    refine G_goto (tgt := 3388) dL_law_377 (by decide) ?_
    exact G_wid (by omega) (by omega) (G_lv2 (ih M2 _ hC2 hG2 (qTrunc_ok hO)) ⟨rfl, rfl, rfl, rfl, rfl, rfl, trivial⟩)
theorem l_load (hX : hSc E C a L xs) (hi : i + 5 ≤ L) (hL : L ≤ 2560) (hcs : cs + 4 ≤ 601024) (hss : ss + 24 ≤ 7293034) (hC : CG M g) (hG : MG M g) (hO : Okg g) (ih : ∀ (M' : Mm) (g' : Gs), CG M' g' → MG M' g' → Okg g' → G E C RL cL_law zLw P (cs + 4) (ss + 24) M' 3388 (lvL E a i) []) : G E C RL cL_law zLw P cs ss M 380 (lvL E a i) [] := by
  refine G_aload_n dL_law_380 rfl ?_
  refine cv_L_172 (cs' := cs) (ss' := ss) dL_law_381 (Nat.le_of_ble_eq_true rfl) (Nat.le_of_ble_eq_true rfl) (Nat.le_of_ble_eq_true rfl) rfl rfl (by show cs ≤ 601024; omega) (by show ss ≤ 7293034; omega) rfl ?_
  refine s_X8_load hC (fun M1 hC1 hf => hGo_i ?_)
  refine G_aload_n dL_law_384 rfl ?_
  refine cv_L_175 (cs' := cs) (ss' := ss) dL_law_385 (Nat.le_of_ble_eq_true rfl) (Nat.le_of_ble_eq_true rfl) (Nat.le_of_ble_eq_true rfl) rfl rfl (by show cs ≤ 601024; omega) (by show ss ≤ 7293034; omega) rfl ?_
  refine m_load (M.1 1 0 0 4) (hG.cl hf) (fun M2 hG2 hf2 _ => hGo_i ?_)
  have hC2 := hC1.fm hf2
  refine G_icmp_eq (tgt := 3388) dL_law_388 (by decide) (fun _ => ?_) (fun z => absurd rfl z)
  exact G_wid (by omega) (by omega) (G_lv2 (ih M2 _ hC2 hG2 (sLoad_ok hO)) ⟨rfl, rfl, rfl, rfl, rfl, rfl, trivial⟩)
theorem l_play (hX : hSc E C a L xs) (hi : i + 5 ≤ L) (hL : L ≤ 2560) (hcs : cs + 4 ≤ 601024) (hss : ss + 24 ≤ 7293034) (hC : CG M g) (hG : MG M g) (hO : Okg g) (ih : ∀ (M' : Mm) (g' : Gs), CG M' g' → MG M' g' → Okg g' → G E C RL cL_law zLw P (cs + 4) (ss + 24) M' 3388 (lvL E a i) []) : G E C RL cL_law zLw P cs ss M 393 (lvL E a i) [] := by
  refine G_aload_n dL_law_393 rfl ?_
  refine cv_L_176 (cs' := cs) (ss' := ss) dL_law_394 (Nat.le_of_ble_eq_true rfl) (Nat.le_of_ble_eq_true rfl) (Nat.le_of_ble_eq_true rfl) rfl rfl (by show cs ≤ 601024; omega) (by show ss ≤ 7293034; omega) rfl ?_
  refine s_X8_play hC hO (fun M1 hC1 hf => hGo_i ?_)
  refine G_aload_n dL_law_397 rfl ?_
  refine cv_L_179 (cs' := cs) (ss' := ss) dL_law_398 (Nat.le_of_ble_eq_true rfl) (Nat.le_of_ble_eq_true rfl) (Nat.le_of_ble_eq_true rfl) rfl rfl (by show cs ≤ 601024; omega) (by show ss ≤ 7293034; omega) rfl ?_
  refine m_play (M.1 1 0 0 4) (hG.cl hf) hO (fun M2 hG2 hf2 _ => hGo_i ?_)
  have hC2 := hC1.pl hf2
  refine G_icmp_eq (tgt := 3388) dL_law_401 (by decide) (fun _ => ?_) (fun z => absurd rfl z)
  exact G_wid (by omega) (by omega) (G_lv2 (ih M2 _ hC2 hG2 (sPlay_ok hO)) ⟨rfl, rfl, rfl, rfl, rfl, rfl, trivial⟩)
theorem l_errorCode (hX : hSc E C a L xs) (hi : i + 5 ≤ L) (hL : L ≤ 2560) (hcs : cs + 4 ≤ 601024) (hss : ss + 24 ≤ 7293034) (hC : CG M g) (hG : MG M g) (hO : Okg g) (ih : ∀ (M' : Mm) (g' : Gs), CG M' g' → MG M' g' → Okg g' → G E C RL cL_law zLw P (cs + 4) (ss + 24) M' 3388 (lvL E a i) []) : G E C RL cL_law zLw P cs ss M 406 (lvL E a i) [] := by
  refine G_aload_n dL_law_406 rfl ?_
  refine cv_L_180 (cs' := cs) (ss' := ss) dL_law_407 (Nat.le_of_ble_eq_true rfl) (Nat.le_of_ble_eq_true rfl) (Nat.le_of_ble_eq_true rfl) rfl rfl (by show cs ≤ 601024; omega) (by show ss ≤ 7293034; omega) rfl ?_
  refine s_X8_errorCode hC (hGo_i ?_)
  refine G_aload_n dL_law_410 rfl ?_
  refine cv_L_183 (cs' := cs) (ss' := ss) dL_law_411 (Nat.le_of_ble_eq_true rfl) (Nat.le_of_ble_eq_true rfl) (Nat.le_of_ble_eq_true rfl) rfl rfl (by show cs ≤ 601024; omega) (by show ss ≤ 7293034; omega) rfl ?_
  refine m_errorCode hG (fun M2 hG2 hf2 _ => hGo_i ?_)
  have hC2 := hC.fm hf2
  refine G_icmp_eq (tgt := 3388) dL_law_414 (by decide) (fun _ => ?_) (fun z => absurd rfl z)
  exact G_wid (by omega) (by omega) (G_lv2 (ih M2 _ hC2 hG2 hO) ⟨rfl, rfl, rfl, rfl, rfl, rfl, trivial⟩)
theorem l_errorPosition (hX : hSc E C a L xs) (hi : i + 5 ≤ L) (hL : L ≤ 2560) (hcs : cs + 4 ≤ 601024) (hss : ss + 24 ≤ 7293034) (hC : CG M g) (hG : MG M g) (hO : Okg g) (ih : ∀ (M' : Mm) (g' : Gs), CG M' g' → MG M' g' → Okg g' → G E C RL cL_law zLw P (cs + 4) (ss + 24) M' 3388 (lvL E a i) []) : G E C RL cL_law zLw P cs ss M 419 (lvL E a i) [] := by
  refine G_aload_n dL_law_419 rfl ?_
  refine cv_L_184 (cs' := cs) (ss' := ss) dL_law_420 (Nat.le_of_ble_eq_true rfl) (Nat.le_of_ble_eq_true rfl) (Nat.le_of_ble_eq_true rfl) rfl rfl (by show cs ≤ 601024; omega) (by show ss ≤ 7293034; omega) rfl ?_
  refine s_X8_errorPosition hC (hGo_i ?_)
  refine G_aload_n dL_law_423 rfl ?_
  refine cv_L_187 (cs' := cs) (ss' := ss) dL_law_424 (Nat.le_of_ble_eq_true rfl) (Nat.le_of_ble_eq_true rfl) (Nat.le_of_ble_eq_true rfl) rfl rfl (by show cs ≤ 601024; omega) (by show ss ≤ 7293034; omega) rfl ?_
  refine m_errorPosition hG (fun M2 hG2 hf2 _ => hGo_i ?_)
  have hC2 := hC.fm hf2
  refine G_icmp_eq (tgt := 3388) dL_law_427 (by decide) (fun _ => ?_) (fun z => absurd rfl z)
  exact G_wid (by omega) (by omega) (G_lv2 (ih M2 _ hC2 hG2 hO) ⟨rfl, rfl, rfl, rfl, rfl, rfl, trivial⟩)
theorem bl_qCount {x : Int32} : (qCount g x).1 < 3 := by rcases @b_qCount g x with b | b <;> omega
theorem l_count (hX : hSc E C a L xs) (hi : i + 5 ≤ L) (hL : L ≤ 2560) (hcs : cs + 4 ≤ 601024) (hss : ss + 24 ≤ 7293034) (hC : CG M g) (hG : MG M g) (hO : Okg g) (ih : ∀ (M' : Mm) (g' : Gs), CG M' g' → MG M' g' → Okg g' → G E C RL cL_law zLw P (cs + 4) (ss + 24) M' 3388 (lvL E a i) []) : G E C RL cL_law zLw P cs ss M 432 (lvL E a i) [] := by
  refine G_aload_n dL_law_432 rfl ?_
  refine G_aload_n dL_law_433 rfl ?_
  refine G_iload dL_law_434 rfl ?_
  refine G_iconst (v := 1) dL_law_436 (by decide) ?_
  refine G_iadd dL_law_437 ?_
  refine G_sld dL_law_438 hX (show nI i + 1 = nI (i + 1) from nI_add i 1) (by omega) (by omega) ?_
  refine G_aload_n dL_law_439 rfl ?_
  refine G_callSH (n := 3) (as := [.ref (ad E 0 0 0), .int (xs (i + 1)), .ref (ad E 27 0 0)]) (rest := []) (cs' := cs + 1) (ss' := ss + 6) dL_law_440 lkw_188 rfl rfl (Nat.le_of_ble_eq_true rfl) (Nat.le_of_ble_eq_true rfl) (Nat.le_of_ble_eq_true rfl) rfl rfl (by show cs + 1 ≤ 601024; omega) (by show ss + 6 ≤ 7293034; omega) rfl ?_
  refine w_count hC hO hG (fun M1 hC1 hG1 e1 => hGo_i ?_)
  refine G_istore dL_law_443 (Nat.le_of_ble_eq_true rfl) ?_
  refine G_aload_n dL_law_445 rfl ?_
  refine G_aload_n dL_law_446 rfl ?_
  refine G_iload dL_law_447 rfl ?_
  refine G_iconst (v := 1) dL_law_449 (by decide) ?_
  refine G_iadd dL_law_450 ?_
  refine G_sld dL_law_451 hX (show nI i + 1 = nI (i + 1) from nI_add i 1) (by omega) (by omega) ?_
  refine cv_L_190 (cs' := cs + 1) (ss' := ss + 6) dL_law_452 (Nat.le_of_ble_eq_true rfl) (Nat.le_of_ble_eq_true rfl) (Nat.le_of_ble_eq_true rfl) rfl rfl (by show cs + 1 ≤ 601024; omega) (by show ss + 6 ≤ 7293034; omega) rfl ?_
  refine m_count hG1 hO (fun M2 v hG2 hf2 et ev => hGo_i ?_)
  have hC2 := hC1.fm hf2
  refine G_istore dL_law_455 (Nat.le_of_ble_eq_true rfl) ?_
  refine G_aload_n dL_law_457 rfl ?_
  refine cv_L_165 (cs' := cs + 1) (ss' := ss + 6) dL_law_458 (Nat.le_of_ble_eq_true rfl) (Nat.le_of_ble_eq_true rfl) (Nat.le_of_ble_eq_true rfl) rfl rfl (by show cs + 1 ≤ 601024; omega) (by show ss + 6 ≤ 7293034; omega) rfl ?_
  refine m_thrown (hGo_i ?_)
  rw [et]
  refine G_iload dL_law_461 rfl ?_
  refine G_icmp_eq (tgt := 468) dL_law_463 (by decide) (fun _ => ?_) (fun z => absurd rfl z)
  refine G_iload dL_law_468 rfl ?_
  refine G_if_ne (tgt := 485) dL_law_470 (by decide) (fun _ => ?_) (fun z0 => ?_)
  · refine G_goto (tgt := 3388) dL_law_485 (by decide) ?_
    exact G_wid (by omega) (by omega) (G_lv2 (ih M2 _ hC2 hG2 hO) ⟨rfl, rfl, rfl, rfl, rfl, rfl, trivial⟩)
  · have q0 : (qCount g (xs (i + 1))).1 = 0 := nI0 (bl_qCount) z0
    have eo : M2.2.1 = M1.2.1 := congrArg Prod.fst hf2.1.1
    have el : M2.2.1 = v.toInt64 := by rw [eo, ev q0]; exact e1 q0
    refine G_aload_n dL_law_473 rfl ?_
    refine G_iconst (v := 0) dL_law_474 (by decide) ?_
    refine G_lald dL_law_475 ?_
    refine G_iload dL_law_476 rfl ?_
    refine G_i2l dL_law_478 ?_
    refine G_lcmpE dL_law_479 el ?_
    refine G_if_eq (tgt := 485) dL_law_480 (by decide) (fun _ => ?_) (fun z => absurd rfl z)
    refine G_goto (tgt := 3388) dL_law_485 (by decide) ?_
    exact G_wid (by omega) (by omega) (G_lv2 (ih M2 _ hC2 hG2 hO) ⟨rfl, rfl, rfl, rfl, rfl, rfl, trivial⟩)
theorem bl_qTally {x : Int32} : (qTally g x).1 < 3 := by rcases @b_qTally g x with b | b <;> omega
theorem l_tally (hX : hSc E C a L xs) (hi : i + 5 ≤ L) (hL : L ≤ 2560) (hcs : cs + 4 ≤ 601024) (hss : ss + 24 ≤ 7293034) (hC : CG M g) (hG : MG M g) (hO : Okg g) (ih : ∀ (M' : Mm) (g' : Gs), CG M' g' → MG M' g' → Okg g' → G E C RL cL_law zLw P (cs + 4) (ss + 24) M' 3388 (lvL E a i) []) : G E C RL cL_law zLw P cs ss M 488 (lvL E a i) [] := by
  refine G_aload_n dL_law_488 rfl ?_
  refine G_aload_n dL_law_489 rfl ?_
  refine G_iload dL_law_490 rfl ?_
  refine G_iconst (v := 1) dL_law_492 (by decide) ?_
  refine G_iadd dL_law_493 ?_
  refine G_sld dL_law_494 hX (show nI i + 1 = nI (i + 1) from nI_add i 1) (by omega) (by omega) ?_
  refine G_aload_n dL_law_495 rfl ?_
  refine G_callSH (n := 3) (as := [.ref (ad E 0 0 0), .int (xs (i + 1)), .ref (ad E 27 0 0)]) (rest := []) (cs' := cs + 1) (ss' := ss + 6) dL_law_496 lkw_191 rfl rfl (Nat.le_of_ble_eq_true rfl) (Nat.le_of_ble_eq_true rfl) (Nat.le_of_ble_eq_true rfl) rfl rfl (by show cs + 1 ≤ 601024; omega) (by show ss + 6 ≤ 7293034; omega) rfl ?_
  refine w_tally hC hO hG (fun M1 hC1 hG1 e1 => hGo_i ?_)
  refine G_istore dL_law_499 (Nat.le_of_ble_eq_true rfl) ?_
  refine G_aload_n dL_law_501 rfl ?_
  refine G_aload_n dL_law_502 rfl ?_
  refine G_iload dL_law_503 rfl ?_
  refine G_iconst (v := 1) dL_law_505 (by decide) ?_
  refine G_iadd dL_law_506 ?_
  refine G_sld dL_law_507 hX (show nI i + 1 = nI (i + 1) from nI_add i 1) (by omega) (by omega) ?_
  refine cv_L_193 (cs' := cs + 1) (ss' := ss + 6) dL_law_508 (Nat.le_of_ble_eq_true rfl) (Nat.le_of_ble_eq_true rfl) (Nat.le_of_ble_eq_true rfl) rfl rfl (by show cs + 1 ≤ 601024; omega) (by show ss + 6 ≤ 7293034; omega) rfl ?_
  refine m_tally hG1 hO (fun M2 v hG2 hf2 et ev => hGo_i ?_)
  have hC2 := hC1.fm hf2
  refine G_istore dL_law_511 (Nat.le_of_ble_eq_true rfl) ?_
  refine G_aload_n dL_law_513 rfl ?_
  refine cv_L_165 (cs' := cs + 1) (ss' := ss + 6) dL_law_514 (Nat.le_of_ble_eq_true rfl) (Nat.le_of_ble_eq_true rfl) (Nat.le_of_ble_eq_true rfl) rfl rfl (by show cs + 1 ≤ 601024; omega) (by show ss + 6 ≤ 7293034; omega) rfl ?_
  refine m_thrown (hGo_i ?_)
  rw [et]
  refine G_iload dL_law_517 rfl ?_
  refine G_icmp_eq (tgt := 524) dL_law_519 (by decide) (fun _ => ?_) (fun z => absurd rfl z)
  refine G_iload dL_law_524 rfl ?_
  refine G_if_ne (tgt := 541) dL_law_526 (by decide) (fun _ => ?_) (fun z0 => ?_)
  · refine G_goto (tgt := 3388) dL_law_541 (by decide) ?_
    exact G_wid (by omega) (by omega) (G_lv2 (ih M2 _ hC2 hG2 hO) ⟨rfl, rfl, rfl, rfl, rfl, rfl, trivial⟩)
  · have q0 : (qTally g (xs (i + 1))).1 = 0 := nI0 (bl_qTally) z0
    have eo : M2.2.1 = M1.2.1 := congrArg Prod.fst hf2.1.1
    have el : M2.2.1 = v.toInt64 := by rw [eo, ev q0]; exact e1 q0
    refine G_aload_n dL_law_529 rfl ?_
    refine G_iconst (v := 0) dL_law_530 (by decide) ?_
    refine G_lald dL_law_531 ?_
    refine G_iload dL_law_532 rfl ?_
    refine G_i2l dL_law_534 ?_
    refine G_lcmpE dL_law_535 el ?_
    refine G_if_eq (tgt := 541) dL_law_536 (by decide) (fun _ => ?_) (fun z => absurd rfl z)
    refine G_goto (tgt := 3388) dL_law_541 (by decide) ?_
    exact G_wid (by omega) (by omega) (G_lv2 (ih M2 _ hC2 hG2 hO) ⟨rfl, rfl, rfl, rfl, rfl, rfl, trivial⟩)
theorem bl_qPupil {x y : Int32} : (qPupil g x y).1 < 3 := by rcases @b_qPupil g x y with b | b | b <;> omega
theorem l_pupil (hX : hSc E C a L xs) (hi : i + 5 ≤ L) (hL : L ≤ 2560) (hcs : cs + 4 ≤ 601024) (hss : ss + 24 ≤ 7293034) (hC : CG M g) (hG : MG M g) (hO : Okg g) (ih : ∀ (M' : Mm) (g' : Gs), CG M' g' → MG M' g' → Okg g' → G E C RL cL_law zLw P (cs + 4) (ss + 24) M' 3388 (lvL E a i) []) : G E C RL cL_law zLw P cs ss M 544 (lvL E a i) [] := by
  refine G_aload_n dL_law_544 rfl ?_
  refine G_aload_n dL_law_545 rfl ?_
  refine G_iload dL_law_546 rfl ?_
  refine G_iconst (v := 1) dL_law_548 (by decide) ?_
  refine G_iadd dL_law_549 ?_
  refine G_sld dL_law_550 hX (show nI i + 1 = nI (i + 1) from nI_add i 1) (by omega) (by omega) ?_
  refine G_aload_n dL_law_551 rfl ?_
  refine G_iload dL_law_552 rfl ?_
  refine G_iconst (v := 2) dL_law_554 (by decide) ?_
  refine G_iadd dL_law_555 ?_
  refine G_sld dL_law_556 hX (show nI i + 2 = nI (i + 2) from nI_add i 2) (by omega) (by omega) ?_
  refine G_aload_n dL_law_557 rfl ?_
  refine G_callSH (n := 4) (as := [.ref (ad E 0 0 0), .int (xs (i + 1)), .int (xs (i + 2)), .ref (ad E 27 0 0)]) (rest := []) (cs' := cs + 2) (ss' := ss + 12) dL_law_558 lkw_194 rfl rfl (Nat.le_of_ble_eq_true rfl) (Nat.le_of_ble_eq_true rfl) (Nat.le_of_ble_eq_true rfl) rfl rfl (by show cs + 2 ≤ 601024; omega) (by show ss + 12 ≤ 7293034; omega) rfl ?_
  refine w_pupil hC hO hG (fun M1 hC1 hG1 e1 => hGo_i ?_)
  refine G_istore dL_law_561 (Nat.le_of_ble_eq_true rfl) ?_
  refine G_aload_n dL_law_563 rfl ?_
  refine G_aload_n dL_law_564 rfl ?_
  refine G_iload dL_law_565 rfl ?_
  refine G_iconst (v := 1) dL_law_567 (by decide) ?_
  refine G_iadd dL_law_568 ?_
  refine G_sld dL_law_569 hX (show nI i + 1 = nI (i + 1) from nI_add i 1) (by omega) (by omega) ?_
  refine G_aload_n dL_law_570 rfl ?_
  refine G_iload dL_law_571 rfl ?_
  refine G_iconst (v := 2) dL_law_573 (by decide) ?_
  refine G_iadd dL_law_574 ?_
  refine G_sld dL_law_575 hX (show nI i + 2 = nI (i + 2) from nI_add i 2) (by omega) (by omega) ?_
  refine cv_L_197 (cs' := cs + 2) (ss' := ss + 12) dL_law_576 (Nat.le_of_ble_eq_true rfl) (Nat.le_of_ble_eq_true rfl) (Nat.le_of_ble_eq_true rfl) rfl rfl (by show cs + 2 ≤ 601024; omega) (by show ss + 12 ≤ 7293034; omega) rfl ?_
  refine m_pupil hG1 hO (fun M2 v hG2 hf2 et ev => hGo_i ?_)
  have hC2 := hC1.fm hf2
  refine G_istore dL_law_579 (Nat.le_of_ble_eq_true rfl) ?_
  refine G_aload_n dL_law_581 rfl ?_
  refine cv_L_165 (cs' := cs + 2) (ss' := ss + 12) dL_law_582 (Nat.le_of_ble_eq_true rfl) (Nat.le_of_ble_eq_true rfl) (Nat.le_of_ble_eq_true rfl) rfl rfl (by show cs + 2 ≤ 601024; omega) (by show ss + 12 ≤ 7293034; omega) rfl ?_
  refine m_thrown (hGo_i ?_)
  rw [et]
  refine G_iload dL_law_585 rfl ?_
  refine G_icmp_eq (tgt := 592) dL_law_587 (by decide) (fun _ => ?_) (fun z => absurd rfl z)
  refine G_iload dL_law_592 rfl ?_
  refine G_if_ne (tgt := 609) dL_law_594 (by decide) (fun _ => ?_) (fun z0 => ?_)
  · refine G_goto (tgt := 3388) dL_law_609 (by decide) ?_
    exact G_wid (by omega) (by omega) (G_lv2 (ih M2 _ hC2 hG2 hO) ⟨rfl, rfl, rfl, rfl, rfl, rfl, trivial⟩)
  · have q0 : (qPupil g (xs (i + 1)) (xs (i + 2))).1 = 0 := nI0 (bl_qPupil) z0
    have eo : M2.2.1 = M1.2.1 := congrArg Prod.fst hf2.1.1
    have el : M2.2.1 = v.toInt64 := by rw [eo, ev q0]; exact e1 q0
    refine G_aload_n dL_law_597 rfl ?_
    refine G_iconst (v := 0) dL_law_598 (by decide) ?_
    refine G_lald dL_law_599 ?_
    refine G_iload dL_law_600 rfl ?_
    refine G_i2l dL_law_602 ?_
    refine G_lcmpE dL_law_603 el ?_
    refine G_if_eq (tgt := 609) dL_law_604 (by decide) (fun _ => ?_) (fun z => absurd rfl z)
    refine G_goto (tgt := 3388) dL_law_609 (by decide) ?_
    exact G_wid (by omega) (by omega) (G_lv2 (ih M2 _ hC2 hG2 hO) ⟨rfl, rfl, rfl, rfl, rfl, rfl, trivial⟩)
theorem bl_qPiece {x y z' : Int32} : (qPiece g x y z').1 < 3 := by rcases @b_qPiece g x y z' with b | b | b <;> omega
theorem l_piece (hX : hSc E C a L xs) (hi : i + 5 ≤ L) (hL : L ≤ 2560) (hcs : cs + 4 ≤ 601024) (hss : ss + 24 ≤ 7293034) (hC : CG M g) (hG : MG M g) (hO : Okg g) (ih : ∀ (M' : Mm) (g' : Gs), CG M' g' → MG M' g' → Okg g' → G E C RL cL_law zLw P (cs + 4) (ss + 24) M' 3388 (lvL E a i) []) : G E C RL cL_law zLw P cs ss M 612 (lvL E a i) [] := by
  refine G_aload_n dL_law_612 rfl ?_
  refine G_aload_n dL_law_613 rfl ?_
  refine G_iload dL_law_614 rfl ?_
  refine G_iconst (v := 1) dL_law_616 (by decide) ?_
  refine G_iadd dL_law_617 ?_
  refine G_sld dL_law_618 hX (show nI i + 1 = nI (i + 1) from nI_add i 1) (by omega) (by omega) ?_
  refine G_aload_n dL_law_619 rfl ?_
  refine G_iload dL_law_620 rfl ?_
  refine G_iconst (v := 2) dL_law_622 (by decide) ?_
  refine G_iadd dL_law_623 ?_
  refine G_sld dL_law_624 hX (show nI i + 2 = nI (i + 2) from nI_add i 2) (by omega) (by omega) ?_
  refine G_aload_n dL_law_625 rfl ?_
  refine G_iload dL_law_626 rfl ?_
  refine G_iconst (v := 3) dL_law_628 (by decide) ?_
  refine G_iadd dL_law_629 ?_
  refine G_sld dL_law_630 hX (show nI i + 3 = nI (i + 3) from nI_add i 3) (by omega) (by omega) ?_
  refine G_aload_n dL_law_631 rfl ?_
  refine G_callSH (n := 5) (as := [.ref (ad E 0 0 0), .int (xs (i + 1)), .int (xs (i + 2)), .int (xs (i + 3)), .ref (ad E 27 0 0)]) (rest := []) (cs' := cs + 2) (ss' := ss + 12) dL_law_632 lkw_198 rfl rfl (Nat.le_of_ble_eq_true rfl) (Nat.le_of_ble_eq_true rfl) (Nat.le_of_ble_eq_true rfl) rfl rfl (by show cs + 2 ≤ 601024; omega) (by show ss + 12 ≤ 7293034; omega) rfl ?_
  refine w_piece hC hO hG (fun M1 hC1 hG1 e1 => hGo_i ?_)
  refine G_istore dL_law_635 (Nat.le_of_ble_eq_true rfl) ?_
  refine G_aload_n dL_law_637 rfl ?_
  refine G_aload_n dL_law_638 rfl ?_
  refine G_iload dL_law_639 rfl ?_
  refine G_iconst (v := 1) dL_law_641 (by decide) ?_
  refine G_iadd dL_law_642 ?_
  refine G_sld dL_law_643 hX (show nI i + 1 = nI (i + 1) from nI_add i 1) (by omega) (by omega) ?_
  refine G_aload_n dL_law_644 rfl ?_
  refine G_iload dL_law_645 rfl ?_
  refine G_iconst (v := 2) dL_law_647 (by decide) ?_
  refine G_iadd dL_law_648 ?_
  refine G_sld dL_law_649 hX (show nI i + 2 = nI (i + 2) from nI_add i 2) (by omega) (by omega) ?_
  refine G_aload_n dL_law_650 rfl ?_
  refine G_iload dL_law_651 rfl ?_
  refine G_iconst (v := 3) dL_law_653 (by decide) ?_
  refine G_iadd dL_law_654 ?_
  refine G_sld dL_law_655 hX (show nI i + 3 = nI (i + 3) from nI_add i 3) (by omega) (by omega) ?_
  refine cv_L_201 (cs' := cs + 2) (ss' := ss + 12) dL_law_656 (Nat.le_of_ble_eq_true rfl) (Nat.le_of_ble_eq_true rfl) (Nat.le_of_ble_eq_true rfl) rfl rfl (by show cs + 2 ≤ 601024; omega) (by show ss + 12 ≤ 7293034; omega) rfl ?_
  refine m_piece hG1 hO (fun M2 v hG2 hf2 et ev => hGo_i ?_)
  have hC2 := hC1.fm hf2
  refine G_istore dL_law_659 (Nat.le_of_ble_eq_true rfl) ?_
  refine G_aload_n dL_law_661 rfl ?_
  refine cv_L_165 (cs' := cs + 2) (ss' := ss + 12) dL_law_662 (Nat.le_of_ble_eq_true rfl) (Nat.le_of_ble_eq_true rfl) (Nat.le_of_ble_eq_true rfl) rfl rfl (by show cs + 2 ≤ 601024; omega) (by show ss + 12 ≤ 7293034; omega) rfl ?_
  refine m_thrown (hGo_i ?_)
  rw [et]
  refine G_iload dL_law_665 rfl ?_
  refine G_icmp_eq (tgt := 672) dL_law_667 (by decide) (fun _ => ?_) (fun z => absurd rfl z)
  refine G_iload dL_law_672 rfl ?_
  refine G_if_ne (tgt := 689) dL_law_674 (by decide) (fun _ => ?_) (fun z0 => ?_)
  · refine G_goto (tgt := 3388) dL_law_689 (by decide) ?_
    exact G_wid (by omega) (by omega) (G_lv2 (ih M2 _ hC2 hG2 hO) ⟨rfl, rfl, rfl, rfl, rfl, rfl, trivial⟩)
  · have q0 : (qPiece g (xs (i + 1)) (xs (i + 2)) (xs (i + 3))).1 = 0 := nI0 (bl_qPiece) z0
    have eo : M2.2.1 = M1.2.1 := congrArg Prod.fst hf2.1.1
    have el : M2.2.1 = v.toInt64 := by rw [eo, ev q0]; exact e1 q0
    refine G_aload_n dL_law_677 rfl ?_
    refine G_iconst (v := 0) dL_law_678 (by decide) ?_
    refine G_lald dL_law_679 ?_
    refine G_iload dL_law_680 rfl ?_
    refine G_i2l dL_law_682 ?_
    refine G_lcmpE dL_law_683 el ?_
    refine G_if_eq (tgt := 689) dL_law_684 (by decide) (fun _ => ?_) (fun z => absurd rfl z)
    refine G_goto (tgt := 3388) dL_law_689 (by decide) ?_
    exact G_wid (by omega) (by omega) (G_lv2 (ih M2 _ hC2 hG2 hO) ⟨rfl, rfl, rfl, rfl, rfl, rfl, trivial⟩)
theorem bl_qMadeBy {x y z' : Int32} : (qMadeBy g x y z').1 < 3 := by rcases @b_qMadeBy g x y z' with b | b | b <;> omega
theorem l_madeBy (hX : hSc E C a L xs) (hi : i + 5 ≤ L) (hL : L ≤ 2560) (hcs : cs + 4 ≤ 601024) (hss : ss + 24 ≤ 7293034) (hC : CG M g) (hG : MG M g) (hO : Okg g) (ih : ∀ (M' : Mm) (g' : Gs), CG M' g' → MG M' g' → Okg g' → G E C RL cL_law zLw P (cs + 4) (ss + 24) M' 3388 (lvL E a i) []) : G E C RL cL_law zLw P cs ss M 692 (lvL E a i) [] := by
  refine G_aload_n dL_law_692 rfl ?_
  refine G_aload_n dL_law_693 rfl ?_
  refine G_iload dL_law_694 rfl ?_
  refine G_iconst (v := 1) dL_law_696 (by decide) ?_
  refine G_iadd dL_law_697 ?_
  refine G_sld dL_law_698 hX (show nI i + 1 = nI (i + 1) from nI_add i 1) (by omega) (by omega) ?_
  refine G_aload_n dL_law_699 rfl ?_
  refine G_iload dL_law_700 rfl ?_
  refine G_iconst (v := 2) dL_law_702 (by decide) ?_
  refine G_iadd dL_law_703 ?_
  refine G_sld dL_law_704 hX (show nI i + 2 = nI (i + 2) from nI_add i 2) (by omega) (by omega) ?_
  refine G_aload_n dL_law_705 rfl ?_
  refine G_iload dL_law_706 rfl ?_
  refine G_iconst (v := 3) dL_law_708 (by decide) ?_
  refine G_iadd dL_law_709 ?_
  refine G_sld dL_law_710 hX (show nI i + 3 = nI (i + 3) from nI_add i 3) (by omega) (by omega) ?_
  refine G_aload_n dL_law_711 rfl ?_
  refine G_callSH (n := 5) (as := [.ref (ad E 0 0 0), .int (xs (i + 1)), .int (xs (i + 2)), .int (xs (i + 3)), .ref (ad E 27 0 0)]) (rest := []) (cs' := cs + 3) (ss' := ss + 18) dL_law_712 lkw_202 rfl rfl (Nat.le_of_ble_eq_true rfl) (Nat.le_of_ble_eq_true rfl) (Nat.le_of_ble_eq_true rfl) rfl rfl (by show cs + 3 ≤ 601024; omega) (by show ss + 18 ≤ 7293034; omega) rfl ?_
  refine w_madeBy hC hO hG (fun M1 hC1 hG1 e1 => hGo_i ?_)
  refine G_istore dL_law_715 (Nat.le_of_ble_eq_true rfl) ?_
  refine G_aload_n dL_law_717 rfl ?_
  refine G_aload_n dL_law_718 rfl ?_
  refine G_iload dL_law_719 rfl ?_
  refine G_iconst (v := 1) dL_law_721 (by decide) ?_
  refine G_iadd dL_law_722 ?_
  refine G_sld dL_law_723 hX (show nI i + 1 = nI (i + 1) from nI_add i 1) (by omega) (by omega) ?_
  refine G_aload_n dL_law_724 rfl ?_
  refine G_iload dL_law_725 rfl ?_
  refine G_iconst (v := 2) dL_law_727 (by decide) ?_
  refine G_iadd dL_law_728 ?_
  refine G_sld dL_law_729 hX (show nI i + 2 = nI (i + 2) from nI_add i 2) (by omega) (by omega) ?_
  refine G_aload_n dL_law_730 rfl ?_
  refine G_iload dL_law_731 rfl ?_
  refine G_iconst (v := 3) dL_law_733 (by decide) ?_
  refine G_iadd dL_law_734 ?_
  refine G_sld dL_law_735 hX (show nI i + 3 = nI (i + 3) from nI_add i 3) (by omega) (by omega) ?_
  refine cv_L_204 (cs' := cs + 3) (ss' := ss + 18) dL_law_736 (Nat.le_of_ble_eq_true rfl) (Nat.le_of_ble_eq_true rfl) (Nat.le_of_ble_eq_true rfl) rfl rfl (by show cs + 3 ≤ 601024; omega) (by show ss + 18 ≤ 7293034; omega) rfl ?_
  refine m_madeBy hG1 hO (fun M2 v hG2 hf2 et ev => hGo_i ?_)
  have hC2 := hC1.fm hf2
  refine G_istore dL_law_739 (Nat.le_of_ble_eq_true rfl) ?_
  refine G_aload_n dL_law_741 rfl ?_
  refine cv_L_165 (cs' := cs + 3) (ss' := ss + 18) dL_law_742 (Nat.le_of_ble_eq_true rfl) (Nat.le_of_ble_eq_true rfl) (Nat.le_of_ble_eq_true rfl) rfl rfl (by show cs + 3 ≤ 601024; omega) (by show ss + 18 ≤ 7293034; omega) rfl ?_
  refine m_thrown (hGo_i ?_)
  rw [et]
  refine G_iload dL_law_745 rfl ?_
  refine G_icmp_eq (tgt := 752) dL_law_747 (by decide) (fun _ => ?_) (fun z => absurd rfl z)
  refine G_iload dL_law_752 rfl ?_
  refine G_if_ne (tgt := 769) dL_law_754 (by decide) (fun _ => ?_) (fun z0 => ?_)
  · refine G_goto (tgt := 3388) dL_law_769 (by decide) ?_
    exact G_wid (by omega) (by omega) (G_lv2 (ih M2 _ hC2 hG2 hO) ⟨rfl, rfl, rfl, rfl, rfl, rfl, trivial⟩)
  · have q0 : (qMadeBy g (xs (i + 1)) (xs (i + 2)) (xs (i + 3))).1 = 0 := nI0 (bl_qMadeBy) z0
    have eo : M2.2.1 = M1.2.1 := congrArg Prod.fst hf2.1.1
    have el : M2.2.1 = v.toInt64 := by rw [eo, ev q0]; exact e1 q0
    refine G_aload_n dL_law_757 rfl ?_
    refine G_iconst (v := 0) dL_law_758 (by decide) ?_
    refine G_lald dL_law_759 ?_
    refine G_iload dL_law_760 rfl ?_
    refine G_i2l dL_law_762 ?_
    refine G_lcmpE dL_law_763 el ?_
    refine G_if_eq (tgt := 769) dL_law_764 (by decide) (fun _ => ?_) (fun z => absurd rfl z)
    refine G_goto (tgt := 3388) dL_law_769 (by decide) ?_
    exact G_wid (by omega) (by omega) (G_lv2 (ih M2 _ hC2 hG2 hO) ⟨rfl, rfl, rfl, rfl, rfl, rfl, trivial⟩)
theorem bl_qDebt {x y : Int32} : (qDebt g x y).1 < 3 := by rcases @b_qDebt g x y with b | b | b <;> omega
theorem l_debt (hX : hSc E C a L xs) (hi : i + 5 ≤ L) (hL : L ≤ 2560) (hcs : cs + 4 ≤ 601024) (hss : ss + 24 ≤ 7293034) (hC : CG M g) (hG : MG M g) (hO : Okg g) (ih : ∀ (M' : Mm) (g' : Gs), CG M' g' → MG M' g' → Okg g' → G E C RL cL_law zLw P (cs + 4) (ss + 24) M' 3388 (lvL E a i) []) : G E C RL cL_law zLw P cs ss M 772 (lvL E a i) [] := by
  refine G_aload_n dL_law_772 rfl ?_
  refine G_aload_n dL_law_773 rfl ?_
  refine G_iload dL_law_774 rfl ?_
  refine G_iconst (v := 1) dL_law_776 (by decide) ?_
  refine G_iadd dL_law_777 ?_
  refine G_sld dL_law_778 hX (show nI i + 1 = nI (i + 1) from nI_add i 1) (by omega) (by omega) ?_
  refine G_aload_n dL_law_779 rfl ?_
  refine G_iload dL_law_780 rfl ?_
  refine G_iconst (v := 2) dL_law_782 (by decide) ?_
  refine G_iadd dL_law_783 ?_
  refine G_sld dL_law_784 hX (show nI i + 2 = nI (i + 2) from nI_add i 2) (by omega) (by omega) ?_
  refine G_aload_n dL_law_785 rfl ?_
  refine G_callSH (n := 4) (as := [.ref (ad E 0 0 0), .int (xs (i + 1)), .int (xs (i + 2)), .ref (ad E 27 0 0)]) (rest := []) (cs' := cs + 2) (ss' := ss + 12) dL_law_786 lkw_205 rfl rfl (Nat.le_of_ble_eq_true rfl) (Nat.le_of_ble_eq_true rfl) (Nat.le_of_ble_eq_true rfl) rfl rfl (by show cs + 2 ≤ 601024; omega) (by show ss + 12 ≤ 7293034; omega) rfl ?_
  refine w_debt hC hO hG (fun M1 hC1 hG1 e1 => hGo_i ?_)
  refine G_istore dL_law_789 (Nat.le_of_ble_eq_true rfl) ?_
  refine G_aload_n dL_law_791 rfl ?_
  refine G_aload_n dL_law_792 rfl ?_
  refine G_iload dL_law_793 rfl ?_
  refine G_iconst (v := 1) dL_law_795 (by decide) ?_
  refine G_iadd dL_law_796 ?_
  refine G_sld dL_law_797 hX (show nI i + 1 = nI (i + 1) from nI_add i 1) (by omega) (by omega) ?_
  refine G_aload_n dL_law_798 rfl ?_
  refine G_iload dL_law_799 rfl ?_
  refine G_iconst (v := 2) dL_law_801 (by decide) ?_
  refine G_iadd dL_law_802 ?_
  refine G_sld dL_law_803 hX (show nI i + 2 = nI (i + 2) from nI_add i 2) (by omega) (by omega) ?_
  refine cv_L_207 (cs' := cs + 2) (ss' := ss + 12) dL_law_804 (Nat.le_of_ble_eq_true rfl) (Nat.le_of_ble_eq_true rfl) (Nat.le_of_ble_eq_true rfl) rfl rfl (by show cs + 2 ≤ 601024; omega) (by show ss + 12 ≤ 7293034; omega) rfl ?_
  refine m_debt hG1 hO (fun M2 v hG2 hf2 et ev => hGo_i ?_)
  have hC2 := hC1.fm hf2
  refine G_istore dL_law_807 (Nat.le_of_ble_eq_true rfl) ?_
  refine G_aload_n dL_law_809 rfl ?_
  refine cv_L_165 (cs' := cs + 2) (ss' := ss + 12) dL_law_810 (Nat.le_of_ble_eq_true rfl) (Nat.le_of_ble_eq_true rfl) (Nat.le_of_ble_eq_true rfl) rfl rfl (by show cs + 2 ≤ 601024; omega) (by show ss + 12 ≤ 7293034; omega) rfl ?_
  refine m_thrown (hGo_i ?_)
  rw [et]
  refine G_iload dL_law_813 rfl ?_
  refine G_icmp_eq (tgt := 820) dL_law_815 (by decide) (fun _ => ?_) (fun z => absurd rfl z)
  refine G_iload dL_law_820 rfl ?_
  refine G_if_ne (tgt := 837) dL_law_822 (by decide) (fun _ => ?_) (fun z0 => ?_)
  · refine G_goto (tgt := 3388) dL_law_837 (by decide) ?_
    exact G_wid (by omega) (by omega) (G_lv2 (ih M2 _ hC2 hG2 hO) ⟨rfl, rfl, rfl, rfl, rfl, rfl, trivial⟩)
  · have q0 : (qDebt g (xs (i + 1)) (xs (i + 2))).1 = 0 := nI0 (bl_qDebt) z0
    have eo : M2.2.1 = M1.2.1 := congrArg Prod.fst hf2.1.1
    have el : M2.2.1 = v.toInt64 := by rw [eo, ev q0]; exact e1 q0
    refine G_aload_n dL_law_825 rfl ?_
    refine G_iconst (v := 0) dL_law_826 (by decide) ?_
    refine G_lald dL_law_827 ?_
    refine G_iload dL_law_828 rfl ?_
    refine G_i2l dL_law_830 ?_
    refine G_lcmpE dL_law_831 el ?_
    refine G_if_eq (tgt := 837) dL_law_832 (by decide) (fun _ => ?_) (fun z => absurd rfl z)
    refine G_goto (tgt := 3388) dL_law_837 (by decide) ?_
    exact G_wid (by omega) (by omega) (G_lv2 (ih M2 _ hC2 hG2 hO) ⟨rfl, rfl, rfl, rfl, rfl, rfl, trivial⟩)
theorem bl_qOwes {x y z' : Int32} : (qOwes g x y z').1 < 3 := by rcases @b_qOwes g x y z' with b | b | b <;> omega
theorem l_owes (hX : hSc E C a L xs) (hi : i + 5 ≤ L) (hL : L ≤ 2560) (hcs : cs + 4 ≤ 601024) (hss : ss + 24 ≤ 7293034) (hC : CG M g) (hG : MG M g) (hO : Okg g) (ih : ∀ (M' : Mm) (g' : Gs), CG M' g' → MG M' g' → Okg g' → G E C RL cL_law zLw P (cs + 4) (ss + 24) M' 3388 (lvL E a i) []) : G E C RL cL_law zLw P cs ss M 840 (lvL E a i) [] := by
  refine G_aload_n dL_law_840 rfl ?_
  refine G_aload_n dL_law_841 rfl ?_
  refine G_iload dL_law_842 rfl ?_
  refine G_iconst (v := 1) dL_law_844 (by decide) ?_
  refine G_iadd dL_law_845 ?_
  refine G_sld dL_law_846 hX (show nI i + 1 = nI (i + 1) from nI_add i 1) (by omega) (by omega) ?_
  refine G_aload_n dL_law_847 rfl ?_
  refine G_iload dL_law_848 rfl ?_
  refine G_iconst (v := 2) dL_law_850 (by decide) ?_
  refine G_iadd dL_law_851 ?_
  refine G_sld dL_law_852 hX (show nI i + 2 = nI (i + 2) from nI_add i 2) (by omega) (by omega) ?_
  refine G_aload_n dL_law_853 rfl ?_
  refine G_iload dL_law_854 rfl ?_
  refine G_iconst (v := 3) dL_law_856 (by decide) ?_
  refine G_iadd dL_law_857 ?_
  refine G_sld dL_law_858 hX (show nI i + 3 = nI (i + 3) from nI_add i 3) (by omega) (by omega) ?_
  refine G_aload_n dL_law_859 rfl ?_
  refine G_callSH (n := 5) (as := [.ref (ad E 0 0 0), .int (xs (i + 1)), .int (xs (i + 2)), .int (xs (i + 3)), .ref (ad E 27 0 0)]) (rest := []) (cs' := cs + 3) (ss' := ss + 18) dL_law_860 lkw_208 rfl rfl (Nat.le_of_ble_eq_true rfl) (Nat.le_of_ble_eq_true rfl) (Nat.le_of_ble_eq_true rfl) rfl rfl (by show cs + 3 ≤ 601024; omega) (by show ss + 18 ≤ 7293034; omega) rfl ?_
  refine w_owes hC hO hG (fun M1 hC1 hG1 e1 => hGo_i ?_)
  refine G_istore dL_law_863 (Nat.le_of_ble_eq_true rfl) ?_
  refine G_aload_n dL_law_865 rfl ?_
  refine G_aload_n dL_law_866 rfl ?_
  refine G_iload dL_law_867 rfl ?_
  refine G_iconst (v := 1) dL_law_869 (by decide) ?_
  refine G_iadd dL_law_870 ?_
  refine G_sld dL_law_871 hX (show nI i + 1 = nI (i + 1) from nI_add i 1) (by omega) (by omega) ?_
  refine G_aload_n dL_law_872 rfl ?_
  refine G_iload dL_law_873 rfl ?_
  refine G_iconst (v := 2) dL_law_875 (by decide) ?_
  refine G_iadd dL_law_876 ?_
  refine G_sld dL_law_877 hX (show nI i + 2 = nI (i + 2) from nI_add i 2) (by omega) (by omega) ?_
  refine G_aload_n dL_law_878 rfl ?_
  refine G_iload dL_law_879 rfl ?_
  refine G_iconst (v := 3) dL_law_881 (by decide) ?_
  refine G_iadd dL_law_882 ?_
  refine G_sld dL_law_883 hX (show nI i + 3 = nI (i + 3) from nI_add i 3) (by omega) (by omega) ?_
  refine cv_L_210 (cs' := cs + 3) (ss' := ss + 18) dL_law_884 (Nat.le_of_ble_eq_true rfl) (Nat.le_of_ble_eq_true rfl) (Nat.le_of_ble_eq_true rfl) rfl rfl (by show cs + 3 ≤ 601024; omega) (by show ss + 18 ≤ 7293034; omega) rfl ?_
  refine m_owes hG1 hO (fun M2 v hG2 hf2 et ev => hGo_i ?_)
  have hC2 := hC1.fm hf2
  refine G_istore dL_law_887 (Nat.le_of_ble_eq_true rfl) ?_
  refine G_aload_n dL_law_889 rfl ?_
  refine cv_L_165 (cs' := cs + 3) (ss' := ss + 18) dL_law_890 (Nat.le_of_ble_eq_true rfl) (Nat.le_of_ble_eq_true rfl) (Nat.le_of_ble_eq_true rfl) rfl rfl (by show cs + 3 ≤ 601024; omega) (by show ss + 18 ≤ 7293034; omega) rfl ?_
  refine m_thrown (hGo_i ?_)
  rw [et]
  refine G_iload dL_law_893 rfl ?_
  refine G_icmp_eq (tgt := 900) dL_law_895 (by decide) (fun _ => ?_) (fun z => absurd rfl z)
  refine G_iload dL_law_900 rfl ?_
  refine G_if_ne (tgt := 917) dL_law_902 (by decide) (fun _ => ?_) (fun z0 => ?_)
  · refine G_goto (tgt := 3388) dL_law_917 (by decide) ?_
    exact G_wid (by omega) (by omega) (G_lv2 (ih M2 _ hC2 hG2 hO) ⟨rfl, rfl, rfl, rfl, rfl, rfl, trivial⟩)
  · have q0 : (qOwes g (xs (i + 1)) (xs (i + 2)) (xs (i + 3))).1 = 0 := nI0 (bl_qOwes) z0
    have eo : M2.2.1 = M1.2.1 := congrArg Prod.fst hf2.1.1
    have el : M2.2.1 = v.toInt64 := by rw [eo, ev q0]; exact e1 q0
    refine G_aload_n dL_law_905 rfl ?_
    refine G_iconst (v := 0) dL_law_906 (by decide) ?_
    refine G_lald dL_law_907 ?_
    refine G_iload dL_law_908 rfl ?_
    refine G_i2l dL_law_910 ?_
    refine G_lcmpE dL_law_911 el ?_
    refine G_if_eq (tgt := 917) dL_law_912 (by decide) (fun _ => ?_) (fun z => absurd rfl z)
    refine G_goto (tgt := 3388) dL_law_917 (by decide) ?_
    exact G_wid (by omega) (by omega) (G_lv2 (ih M2 _ hC2 hG2 hO) ⟨rfl, rfl, rfl, rfl, rfl, rfl, trivial⟩)
theorem bl_qNear {x y : Int32} : (qNear g x y).1 < 3 := by rcases @b_qNear g x y with b | b <;> omega
theorem l_isNear (hX : hSc E C a L xs) (hi : i + 5 ≤ L) (hL : L ≤ 2560) (hcs : cs + 4 ≤ 601024) (hss : ss + 24 ≤ 7293034) (hC : CG M g) (hG : MG M g) (hO : Okg g) (ih : ∀ (M' : Mm) (g' : Gs), CG M' g' → MG M' g' → Okg g' → G E C RL cL_law zLw P (cs + 4) (ss + 24) M' 3388 (lvL E a i) []) : G E C RL cL_law zLw P cs ss M 920 (lvL E a i) [] := by
  refine G_aload_n dL_law_920 rfl ?_
  refine G_aload_n dL_law_921 rfl ?_
  refine G_iload dL_law_922 rfl ?_
  refine G_iconst (v := 1) dL_law_924 (by decide) ?_
  refine G_iadd dL_law_925 ?_
  refine G_sld dL_law_926 hX (show nI i + 1 = nI (i + 1) from nI_add i 1) (by omega) (by omega) ?_
  refine G_aload_n dL_law_927 rfl ?_
  refine G_iload dL_law_928 rfl ?_
  refine G_iconst (v := 2) dL_law_930 (by decide) ?_
  refine G_iadd dL_law_931 ?_
  refine G_sld dL_law_932 hX (show nI i + 2 = nI (i + 2) from nI_add i 2) (by omega) (by omega) ?_
  refine G_aload_n dL_law_933 rfl ?_
  refine G_callSH (n := 4) (as := [.ref (ad E 0 0 0), .int (xs (i + 1)), .int (xs (i + 2)), .ref (ad E 27 0 0)]) (rest := []) (cs' := cs + 2) (ss' := ss + 12) dL_law_934 lkw_211 rfl rfl (Nat.le_of_ble_eq_true rfl) (Nat.le_of_ble_eq_true rfl) (Nat.le_of_ble_eq_true rfl) rfl rfl (by show cs + 2 ≤ 601024; omega) (by show ss + 12 ≤ 7293034; omega) rfl ?_
  refine w_isNear hC hO hG (fun M1 hC1 hG1 e1 => hGo_i ?_)
  refine G_istore dL_law_937 (Nat.le_of_ble_eq_true rfl) ?_
  refine G_aload_n dL_law_939 rfl ?_
  refine G_aload_n dL_law_940 rfl ?_
  refine G_iload dL_law_941 rfl ?_
  refine G_iconst (v := 1) dL_law_943 (by decide) ?_
  refine G_iadd dL_law_944 ?_
  refine G_sld dL_law_945 hX (show nI i + 1 = nI (i + 1) from nI_add i 1) (by omega) (by omega) ?_
  refine G_aload_n dL_law_946 rfl ?_
  refine G_iload dL_law_947 rfl ?_
  refine G_iconst (v := 2) dL_law_949 (by decide) ?_
  refine G_iadd dL_law_950 ?_
  refine G_sld dL_law_951 hX (show nI i + 2 = nI (i + 2) from nI_add i 2) (by omega) (by omega) ?_
  refine cv_L_213 (cs' := cs + 2) (ss' := ss + 12) dL_law_952 (Nat.le_of_ble_eq_true rfl) (Nat.le_of_ble_eq_true rfl) (Nat.le_of_ble_eq_true rfl) rfl rfl (by show cs + 2 ≤ 601024; omega) (by show ss + 12 ≤ 7293034; omega) rfl ?_
  refine m_isNear hG1 hO (fun M2 v hG2 hf2 et ev => hGo_i ?_)
  have hC2 := hC1.fm hf2
  refine G_istore dL_law_955 (Nat.le_of_ble_eq_true rfl) ?_
  refine G_aload_n dL_law_957 rfl ?_
  refine cv_L_165 (cs' := cs + 2) (ss' := ss + 12) dL_law_958 (Nat.le_of_ble_eq_true rfl) (Nat.le_of_ble_eq_true rfl) (Nat.le_of_ble_eq_true rfl) rfl rfl (by show cs + 2 ≤ 601024; omega) (by show ss + 12 ≤ 7293034; omega) rfl ?_
  refine m_thrown (hGo_i ?_)
  rw [et]
  refine G_iload dL_law_961 rfl ?_
  refine G_icmp_eq (tgt := 968) dL_law_963 (by decide) (fun _ => ?_) (fun z => absurd rfl z)
  refine G_iload dL_law_968 rfl ?_
  refine G_if_ne (tgt := 992) dL_law_970 (by decide) (fun _ => ?_) (fun z0 => ?_)
  · refine G_goto (tgt := 3388) dL_law_992 (by decide) ?_
    exact G_wid (by omega) (by omega) (G_lv2 (ih M2 _ hC2 hG2 hO) ⟨rfl, rfl, rfl, rfl, rfl, rfl, trivial⟩)
  · have q0 : (qNear g (xs (i + 1)) (xs (i + 2))).1 = 0 := nI0 (bl_qNear) z0
    have eo : M2.2.1 = M1.2.1 := congrArg Prod.fst hf2.1.1
    have el : M2.2.1 = if v = 0 then 0 else 1 := by rw [eo, ev q0]; exact e1 q0
    refine G_aload_n dL_law_973 rfl ?_
    refine G_iconst (v := 0) dL_law_974 (by decide) ?_
    refine G_lald dL_law_975 ?_
    refine G_iload dL_law_976 rfl ?_
    refine G_if_eq (tgt := 985) dL_law_978 (by decide) (fun z1 => ?_) (fun z1 => ?_)
    · rw [if_pos z1] at el
      refine G_lconst (v := 0) dL_law_985 rfl ?_
      refine G_lcmpE dL_law_986 el ?_
      refine G_if_eq (tgt := 992) dL_law_987 (by decide) (fun _ => ?_) (fun z => absurd rfl z)
      refine G_goto (tgt := 3388) dL_law_992 (by decide) ?_
      exact G_wid (by omega) (by omega) (G_lv2 (ih M2 _ hC2 hG2 hO) ⟨rfl, rfl, rfl, rfl, rfl, rfl, trivial⟩)
    · rw [if_neg z1] at el
      refine G_lconst (v := 1) dL_law_981 rfl ?_
      refine G_goto (tgt := 986) dL_law_982 (by decide) ?_
      refine G_lcmpE dL_law_986 el ?_
      refine G_if_eq (tgt := 992) dL_law_987 (by decide) (fun _ => ?_) (fun z => absurd rfl z)
      refine G_goto (tgt := 3388) dL_law_992 (by decide) ?_
      exact G_wid (by omega) (by omega) (G_lv2 (ih M2 _ hC2 hG2 hO) ⟨rfl, rfl, rfl, rfl, rfl, rfl, trivial⟩)
theorem bl_qWitness {x y : Int32} : (qWitness g x y).1 < 3 := by rcases @b_qWitness g x y with b | b <;> omega
theorem l_witness (hX : hSc E C a L xs) (hi : i + 5 ≤ L) (hL : L ≤ 2560) (hcs : cs + 4 ≤ 601024) (hss : ss + 24 ≤ 7293034) (hC : CG M g) (hG : MG M g) (hO : Okg g) (ih : ∀ (M' : Mm) (g' : Gs), CG M' g' → MG M' g' → Okg g' → G E C RL cL_law zLw P (cs + 4) (ss + 24) M' 3388 (lvL E a i) []) : G E C RL cL_law zLw P cs ss M 995 (lvL E a i) [] := by
  refine G_aload_n dL_law_995 rfl ?_
  refine G_aload_n dL_law_996 rfl ?_
  refine G_iload dL_law_997 rfl ?_
  refine G_iconst (v := 1) dL_law_999 (by decide) ?_
  refine G_iadd dL_law_1000 ?_
  refine G_sld dL_law_1001 hX (show nI i + 1 = nI (i + 1) from nI_add i 1) (by omega) (by omega) ?_
  refine G_aload_n dL_law_1002 rfl ?_
  refine G_iload dL_law_1003 rfl ?_
  refine G_iconst (v := 2) dL_law_1005 (by decide) ?_
  refine G_iadd dL_law_1006 ?_
  refine G_sld dL_law_1007 hX (show nI i + 2 = nI (i + 2) from nI_add i 2) (by omega) (by omega) ?_
  refine G_aload_n dL_law_1008 rfl ?_
  refine G_callSH (n := 4) (as := [.ref (ad E 0 0 0), .int (xs (i + 1)), .int (xs (i + 2)), .ref (ad E 27 0 0)]) (rest := []) (cs' := cs + 1) (ss' := ss + 6) dL_law_1009 lkw_214 rfl rfl (Nat.le_of_ble_eq_true rfl) (Nat.le_of_ble_eq_true rfl) (Nat.le_of_ble_eq_true rfl) rfl rfl (by show cs + 1 ≤ 601024; omega) (by show ss + 6 ≤ 7293034; omega) rfl ?_
  refine w_witness hC hO hG (fun M1 hC1 hG1 e1 => hGo_i ?_)
  refine G_istore dL_law_1012 (Nat.le_of_ble_eq_true rfl) ?_
  refine G_aload_n dL_law_1014 rfl ?_
  refine G_aload_n dL_law_1015 rfl ?_
  refine G_iload dL_law_1016 rfl ?_
  refine G_iconst (v := 1) dL_law_1018 (by decide) ?_
  refine G_iadd dL_law_1019 ?_
  refine G_sld dL_law_1020 hX (show nI i + 1 = nI (i + 1) from nI_add i 1) (by omega) (by omega) ?_
  refine G_aload_n dL_law_1021 rfl ?_
  refine G_iload dL_law_1022 rfl ?_
  refine G_iconst (v := 2) dL_law_1024 (by decide) ?_
  refine G_iadd dL_law_1025 ?_
  refine G_sld dL_law_1026 hX (show nI i + 2 = nI (i + 2) from nI_add i 2) (by omega) (by omega) ?_
  refine cv_L_216 (cs' := cs + 1) (ss' := ss + 6) dL_law_1027 (Nat.le_of_ble_eq_true rfl) (Nat.le_of_ble_eq_true rfl) (Nat.le_of_ble_eq_true rfl) rfl rfl (by show cs + 1 ≤ 601024; omega) (by show ss + 6 ≤ 7293034; omega) rfl ?_
  refine m_witness hG1 hO (fun M2 v hG2 hf2 et ev => hGo_i ?_)
  have hC2 := hC1.fm hf2
  refine G_istore dL_law_1030 (Nat.le_of_ble_eq_true rfl) ?_
  refine G_aload_n dL_law_1032 rfl ?_
  refine cv_L_165 (cs' := cs + 1) (ss' := ss + 6) dL_law_1033 (Nat.le_of_ble_eq_true rfl) (Nat.le_of_ble_eq_true rfl) (Nat.le_of_ble_eq_true rfl) rfl rfl (by show cs + 1 ≤ 601024; omega) (by show ss + 6 ≤ 7293034; omega) rfl ?_
  refine m_thrown (hGo_i ?_)
  rw [et]
  refine G_iload dL_law_1036 rfl ?_
  refine G_icmp_eq (tgt := 1043) dL_law_1038 (by decide) (fun _ => ?_) (fun z => absurd rfl z)
  refine G_iload dL_law_1043 rfl ?_
  refine G_if_ne (tgt := 1060) dL_law_1045 (by decide) (fun _ => ?_) (fun z0 => ?_)
  · refine G_goto (tgt := 3388) dL_law_1060 (by decide) ?_
    exact G_wid (by omega) (by omega) (G_lv2 (ih M2 _ hC2 hG2 hO) ⟨rfl, rfl, rfl, rfl, rfl, rfl, trivial⟩)
  · have q0 : (qWitness g (xs (i + 1)) (xs (i + 2))).1 = 0 := nI0 (bl_qWitness) z0
    have eo : M2.2.1 = M1.2.1 := congrArg Prod.fst hf2.1.1
    have el : M2.2.1 = v.toInt64 := by rw [eo, ev q0]; exact e1 q0
    refine G_aload_n dL_law_1048 rfl ?_
    refine G_iconst (v := 0) dL_law_1049 (by decide) ?_
    refine G_lald dL_law_1050 ?_
    refine G_iload dL_law_1051 rfl ?_
    refine G_i2l dL_law_1053 ?_
    refine G_lcmpE dL_law_1054 el ?_
    refine G_if_eq (tgt := 1060) dL_law_1055 (by decide) (fun _ => ?_) (fun z => absurd rfl z)
    refine G_goto (tgt := 3388) dL_law_1060 (by decide) ?_
    exact G_wid (by omega) (by omega) (G_lv2 (ih M2 _ hC2 hG2 hO) ⟨rfl, rfl, rfl, rfl, rfl, rfl, trivial⟩)
theorem bl_qBench {x y : Int32} : (qBench g x y).1 < 3 := by rcases @b_qBench g x y with b | b <;> omega
theorem l_bench (hX : hSc E C a L xs) (hi : i + 5 ≤ L) (hL : L ≤ 2560) (hcs : cs + 4 ≤ 601024) (hss : ss + 24 ≤ 7293034) (hC : CG M g) (hG : MG M g) (hO : Okg g) (ih : ∀ (M' : Mm) (g' : Gs), CG M' g' → MG M' g' → Okg g' → G E C RL cL_law zLw P (cs + 4) (ss + 24) M' 3388 (lvL E a i) []) : G E C RL cL_law zLw P cs ss M 1063 (lvL E a i) [] := by
  refine G_aload_n dL_law_1063 rfl ?_
  refine G_aload_n dL_law_1064 rfl ?_
  refine G_iload dL_law_1065 rfl ?_
  refine G_iconst (v := 1) dL_law_1067 (by decide) ?_
  refine G_iadd dL_law_1068 ?_
  refine G_sld dL_law_1069 hX (show nI i + 1 = nI (i + 1) from nI_add i 1) (by omega) (by omega) ?_
  refine G_aload_n dL_law_1070 rfl ?_
  refine G_iload dL_law_1071 rfl ?_
  refine G_iconst (v := 2) dL_law_1073 (by decide) ?_
  refine G_iadd dL_law_1074 ?_
  refine G_sld dL_law_1075 hX (show nI i + 2 = nI (i + 2) from nI_add i 2) (by omega) (by omega) ?_
  refine G_aload_n dL_law_1076 rfl ?_
  refine G_callSH (n := 4) (as := [.ref (ad E 0 0 0), .int (xs (i + 1)), .int (xs (i + 2)), .ref (ad E 27 0 0)]) (rest := []) (cs' := cs + 2) (ss' := ss + 12) dL_law_1077 lkw_217 rfl rfl (Nat.le_of_ble_eq_true rfl) (Nat.le_of_ble_eq_true rfl) (Nat.le_of_ble_eq_true rfl) rfl rfl (by show cs + 2 ≤ 601024; omega) (by show ss + 12 ≤ 7293034; omega) rfl ?_
  refine w_bench hC hO hG (fun M1 hC1 hG1 e1 => hGo_i ?_)
  refine G_istore dL_law_1080 (Nat.le_of_ble_eq_true rfl) ?_
  refine G_aload_n dL_law_1082 rfl ?_
  refine G_aload_n dL_law_1083 rfl ?_
  refine G_iload dL_law_1084 rfl ?_
  refine G_iconst (v := 1) dL_law_1086 (by decide) ?_
  refine G_iadd dL_law_1087 ?_
  refine G_sld dL_law_1088 hX (show nI i + 1 = nI (i + 1) from nI_add i 1) (by omega) (by omega) ?_
  refine G_aload_n dL_law_1089 rfl ?_
  refine G_iload dL_law_1090 rfl ?_
  refine G_iconst (v := 2) dL_law_1092 (by decide) ?_
  refine G_iadd dL_law_1093 ?_
  refine G_sld dL_law_1094 hX (show nI i + 2 = nI (i + 2) from nI_add i 2) (by omega) (by omega) ?_
  refine cv_L_219 (cs' := cs + 2) (ss' := ss + 12) dL_law_1095 (Nat.le_of_ble_eq_true rfl) (Nat.le_of_ble_eq_true rfl) (Nat.le_of_ble_eq_true rfl) rfl rfl (by show cs + 2 ≤ 601024; omega) (by show ss + 12 ≤ 7293034; omega) rfl ?_
  refine m_bench hG1 hO (fun M2 v hG2 hf2 et ev => hGo_i ?_)
  have hC2 := hC1.fm hf2
  refine G_istore dL_law_1098 (Nat.le_of_ble_eq_true rfl) ?_
  refine G_aload_n dL_law_1100 rfl ?_
  refine cv_L_165 (cs' := cs + 2) (ss' := ss + 12) dL_law_1101 (Nat.le_of_ble_eq_true rfl) (Nat.le_of_ble_eq_true rfl) (Nat.le_of_ble_eq_true rfl) rfl rfl (by show cs + 2 ≤ 601024; omega) (by show ss + 12 ≤ 7293034; omega) rfl ?_
  refine m_thrown (hGo_i ?_)
  rw [et]
  refine G_iload dL_law_1104 rfl ?_
  refine G_icmp_eq (tgt := 1111) dL_law_1106 (by decide) (fun _ => ?_) (fun z => absurd rfl z)
  refine G_iload dL_law_1111 rfl ?_
  refine G_if_ne (tgt := 1128) dL_law_1113 (by decide) (fun _ => ?_) (fun z0 => ?_)
  · refine G_goto (tgt := 3388) dL_law_1128 (by decide) ?_
    exact G_wid (by omega) (by omega) (G_lv2 (ih M2 _ hC2 hG2 hO) ⟨rfl, rfl, rfl, rfl, rfl, rfl, trivial⟩)
  · have q0 : (qBench g (xs (i + 1)) (xs (i + 2))).1 = 0 := nI0 (bl_qBench) z0
    have eo : M2.2.1 = M1.2.1 := congrArg Prod.fst hf2.1.1
    have el : M2.2.1 = v.toInt64 := by rw [eo, ev q0]; exact e1 q0
    refine G_aload_n dL_law_1116 rfl ?_
    refine G_iconst (v := 0) dL_law_1117 (by decide) ?_
    refine G_lald dL_law_1118 ?_
    refine G_iload dL_law_1119 rfl ?_
    refine G_i2l dL_law_1121 ?_
    refine G_lcmpE dL_law_1122 el ?_
    refine G_if_eq (tgt := 1128) dL_law_1123 (by decide) (fun _ => ?_) (fun z => absurd rfl z)
    refine G_goto (tgt := 3388) dL_law_1128 (by decide) ?_
    exact G_wid (by omega) (by omega) (G_lv2 (ih M2 _ hC2 hG2 hO) ⟨rfl, rfl, rfl, rfl, rfl, rfl, trivial⟩)
theorem bl_qSeers {x y : Int32} : (qSeers g x y).1 < 3 := by rcases @b_qSeers g x y with b | b | b <;> omega
theorem l_seers (hX : hSc E C a L xs) (hi : i + 5 ≤ L) (hL : L ≤ 2560) (hcs : cs + 4 ≤ 601024) (hss : ss + 24 ≤ 7293034) (hC : CG M g) (hG : MG M g) (hO : Okg g) (ih : ∀ (M' : Mm) (g' : Gs), CG M' g' → MG M' g' → Okg g' → G E C RL cL_law zLw P (cs + 4) (ss + 24) M' 3388 (lvL E a i) []) : G E C RL cL_law zLw P cs ss M 1131 (lvL E a i) [] := by
  refine G_aload_n dL_law_1131 rfl ?_
  refine G_aload_n dL_law_1132 rfl ?_
  refine G_iload dL_law_1133 rfl ?_
  refine G_iconst (v := 1) dL_law_1135 (by decide) ?_
  refine G_iadd dL_law_1136 ?_
  refine G_sld dL_law_1137 hX (show nI i + 1 = nI (i + 1) from nI_add i 1) (by omega) (by omega) ?_
  refine G_aload_n dL_law_1138 rfl ?_
  refine G_iload dL_law_1139 rfl ?_
  refine G_iconst (v := 2) dL_law_1141 (by decide) ?_
  refine G_iadd dL_law_1142 ?_
  refine G_sld dL_law_1143 hX (show nI i + 2 = nI (i + 2) from nI_add i 2) (by omega) (by omega) ?_
  refine G_aload_n dL_law_1144 rfl ?_
  refine G_callSH (n := 4) (as := [.ref (ad E 0 0 0), .int (xs (i + 1)), .int (xs (i + 2)), .ref (ad E 27 0 0)]) (rest := []) (cs' := cs + 3) (ss' := ss + 18) dL_law_1145 lkw_220 rfl rfl (Nat.le_of_ble_eq_true rfl) (Nat.le_of_ble_eq_true rfl) (Nat.le_of_ble_eq_true rfl) rfl rfl (by show cs + 3 ≤ 601024; omega) (by show ss + 18 ≤ 7293034; omega) rfl ?_
  refine w_seers hC hO hG (fun M1 hC1 hG1 e1 => hGo_i ?_)
  refine G_istore dL_law_1148 (Nat.le_of_ble_eq_true rfl) ?_
  refine G_aload_n dL_law_1150 rfl ?_
  refine G_aload_n dL_law_1151 rfl ?_
  refine G_iload dL_law_1152 rfl ?_
  refine G_iconst (v := 1) dL_law_1154 (by decide) ?_
  refine G_iadd dL_law_1155 ?_
  refine G_sld dL_law_1156 hX (show nI i + 1 = nI (i + 1) from nI_add i 1) (by omega) (by omega) ?_
  refine G_aload_n dL_law_1157 rfl ?_
  refine G_iload dL_law_1158 rfl ?_
  refine G_iconst (v := 2) dL_law_1160 (by decide) ?_
  refine G_iadd dL_law_1161 ?_
  refine G_sld dL_law_1162 hX (show nI i + 2 = nI (i + 2) from nI_add i 2) (by omega) (by omega) ?_
  refine cv_L_222 (cs' := cs + 3) (ss' := ss + 18) dL_law_1163 (Nat.le_of_ble_eq_true rfl) (Nat.le_of_ble_eq_true rfl) (Nat.le_of_ble_eq_true rfl) rfl rfl (by show cs + 3 ≤ 601024; omega) (by show ss + 18 ≤ 7293034; omega) rfl ?_
  refine m_seers hG1 hO (fun M2 v hG2 hf2 et ev => hGo_i ?_)
  have hC2 := hC1.fm hf2
  refine G_istore dL_law_1166 (Nat.le_of_ble_eq_true rfl) ?_
  refine G_aload_n dL_law_1168 rfl ?_
  refine cv_L_165 (cs' := cs + 3) (ss' := ss + 18) dL_law_1169 (Nat.le_of_ble_eq_true rfl) (Nat.le_of_ble_eq_true rfl) (Nat.le_of_ble_eq_true rfl) rfl rfl (by show cs + 3 ≤ 601024; omega) (by show ss + 18 ≤ 7293034; omega) rfl ?_
  refine m_thrown (hGo_i ?_)
  rw [et]
  refine G_iload dL_law_1172 rfl ?_
  refine G_icmp_eq (tgt := 1179) dL_law_1174 (by decide) (fun _ => ?_) (fun z => absurd rfl z)
  refine G_iload dL_law_1179 rfl ?_
  refine G_if_ne (tgt := 1196) dL_law_1181 (by decide) (fun _ => ?_) (fun z0 => ?_)
  · refine G_goto (tgt := 3388) dL_law_1196 (by decide) ?_
    exact G_wid (by omega) (by omega) (G_lv2 (ih M2 _ hC2 hG2 hO) ⟨rfl, rfl, rfl, rfl, rfl, rfl, trivial⟩)
  · have q0 : (qSeers g (xs (i + 1)) (xs (i + 2))).1 = 0 := nI0 (bl_qSeers) z0
    have eo : M2.2.1 = M1.2.1 := congrArg Prod.fst hf2.1.1
    have el : M2.2.1 = v.toInt64 := by rw [eo, ev q0]; exact e1 q0
    refine G_aload_n dL_law_1184 rfl ?_
    refine G_iconst (v := 0) dL_law_1185 (by decide) ?_
    refine G_lald dL_law_1186 ?_
    refine G_iload dL_law_1187 rfl ?_
    refine G_i2l dL_law_1189 ?_
    refine G_lcmpE dL_law_1190 el ?_
    refine G_if_eq (tgt := 1196) dL_law_1191 (by decide) (fun _ => ?_) (fun z => absurd rfl z)
    refine G_goto (tgt := 3388) dL_law_1196 (by decide) ?_
    exact G_wid (by omega) (by omega) (G_lv2 (ih M2 _ hC2 hG2 hO) ⟨rfl, rfl, rfl, rfl, rfl, rfl, trivial⟩)
theorem bl_qWhy {x y : Int32} : (qWhy g x y).1 < 3 := by rcases @b_qWhy g x y with b | b | b <;> omega
theorem l_why (hX : hSc E C a L xs) (hi : i + 5 ≤ L) (hL : L ≤ 2560) (hcs : cs + 4 ≤ 601024) (hss : ss + 24 ≤ 7293034) (hC : CG M g) (hG : MG M g) (hO : Okg g) (ih : ∀ (M' : Mm) (g' : Gs), CG M' g' → MG M' g' → Okg g' → G E C RL cL_law zLw P (cs + 4) (ss + 24) M' 3388 (lvL E a i) []) : G E C RL cL_law zLw P cs ss M 1199 (lvL E a i) [] := by
  refine G_aload_n dL_law_1199 rfl ?_
  refine G_aload_n dL_law_1200 rfl ?_
  refine G_iload dL_law_1201 rfl ?_
  refine G_iconst (v := 1) dL_law_1203 (by decide) ?_
  refine G_iadd dL_law_1204 ?_
  refine G_sld dL_law_1205 hX (show nI i + 1 = nI (i + 1) from nI_add i 1) (by omega) (by omega) ?_
  refine G_aload_n dL_law_1206 rfl ?_
  refine G_iload dL_law_1207 rfl ?_
  refine G_iconst (v := 2) dL_law_1209 (by decide) ?_
  refine G_iadd dL_law_1210 ?_
  refine G_sld dL_law_1211 hX (show nI i + 2 = nI (i + 2) from nI_add i 2) (by omega) (by omega) ?_
  refine G_aload_n dL_law_1212 rfl ?_
  refine G_callSH (n := 4) (as := [.ref (ad E 0 0 0), .int (xs (i + 1)), .int (xs (i + 2)), .ref (ad E 27 0 0)]) (rest := []) (cs' := cs + 2) (ss' := ss + 12) dL_law_1213 lkw_223 rfl rfl (Nat.le_of_ble_eq_true rfl) (Nat.le_of_ble_eq_true rfl) (Nat.le_of_ble_eq_true rfl) rfl rfl (by show cs + 2 ≤ 601024; omega) (by show ss + 12 ≤ 7293034; omega) rfl ?_
  refine w_why hC hO hG (fun M1 hC1 hG1 e1 => hGo_i ?_)
  refine G_istore dL_law_1216 (Nat.le_of_ble_eq_true rfl) ?_
  refine G_aload_n dL_law_1218 rfl ?_
  refine G_aload_n dL_law_1219 rfl ?_
  refine G_iload dL_law_1220 rfl ?_
  refine G_iconst (v := 1) dL_law_1222 (by decide) ?_
  refine G_iadd dL_law_1223 ?_
  refine G_sld dL_law_1224 hX (show nI i + 1 = nI (i + 1) from nI_add i 1) (by omega) (by omega) ?_
  refine G_aload_n dL_law_1225 rfl ?_
  refine G_iload dL_law_1226 rfl ?_
  refine G_iconst (v := 2) dL_law_1228 (by decide) ?_
  refine G_iadd dL_law_1229 ?_
  refine G_sld dL_law_1230 hX (show nI i + 2 = nI (i + 2) from nI_add i 2) (by omega) (by omega) ?_
  refine cv_L_225 (cs' := cs + 2) (ss' := ss + 12) dL_law_1231 (Nat.le_of_ble_eq_true rfl) (Nat.le_of_ble_eq_true rfl) (Nat.le_of_ble_eq_true rfl) rfl rfl (by show cs + 2 ≤ 601024; omega) (by show ss + 12 ≤ 7293034; omega) rfl ?_
  refine m_why hG1 hO (fun M2 v hG2 hf2 et ev => hGo_i ?_)
  have hC2 := hC1.fm hf2
  refine G_istore dL_law_1234 (Nat.le_of_ble_eq_true rfl) ?_
  refine G_aload_n dL_law_1236 rfl ?_
  refine cv_L_165 (cs' := cs + 2) (ss' := ss + 12) dL_law_1237 (Nat.le_of_ble_eq_true rfl) (Nat.le_of_ble_eq_true rfl) (Nat.le_of_ble_eq_true rfl) rfl rfl (by show cs + 2 ≤ 601024; omega) (by show ss + 12 ≤ 7293034; omega) rfl ?_
  refine m_thrown (hGo_i ?_)
  rw [et]
  refine G_iload dL_law_1240 rfl ?_
  refine G_icmp_eq (tgt := 1247) dL_law_1242 (by decide) (fun _ => ?_) (fun z => absurd rfl z)
  refine G_iload dL_law_1247 rfl ?_
  refine G_if_ne (tgt := 1264) dL_law_1249 (by decide) (fun _ => ?_) (fun z0 => ?_)
  · refine G_goto (tgt := 3388) dL_law_1264 (by decide) ?_
    exact G_wid (by omega) (by omega) (G_lv2 (ih M2 _ hC2 hG2 hO) ⟨rfl, rfl, rfl, rfl, rfl, rfl, trivial⟩)
  · have q0 : (qWhy g (xs (i + 1)) (xs (i + 2))).1 = 0 := nI0 (bl_qWhy) z0
    have eo : M2.2.1 = M1.2.1 := congrArg Prod.fst hf2.1.1
    have el : M2.2.1 = v.toInt64 := by rw [eo, ev q0]; exact e1 q0
    refine G_aload_n dL_law_1252 rfl ?_
    refine G_iconst (v := 0) dL_law_1253 (by decide) ?_
    refine G_lald dL_law_1254 ?_
    refine G_iload dL_law_1255 rfl ?_
    refine G_i2l dL_law_1257 ?_
    refine G_lcmpE dL_law_1258 el ?_
    refine G_if_eq (tgt := 1264) dL_law_1259 (by decide) (fun _ => ?_) (fun z => absurd rfl z)
    refine G_goto (tgt := 3388) dL_law_1264 (by decide) ?_
    exact G_wid (by omega) (by omega) (G_lv2 (ih M2 _ hC2 hG2 hO) ⟨rfl, rfl, rfl, rfl, rfl, rfl, trivial⟩)
theorem bl_qMost {x : Int32} : (qMost g x).1 < 3 := by rcases @b_qMost g x with b | b <;> omega
theorem l_most (hX : hSc E C a L xs) (hi : i + 5 ≤ L) (hL : L ≤ 2560) (hcs : cs + 4 ≤ 601024) (hss : ss + 24 ≤ 7293034) (hC : CG M g) (hG : MG M g) (hO : Okg g) (ih : ∀ (M' : Mm) (g' : Gs), CG M' g' → MG M' g' → Okg g' → G E C RL cL_law zLw P (cs + 4) (ss + 24) M' 3388 (lvL E a i) []) : G E C RL cL_law zLw P cs ss M 1267 (lvL E a i) [] := by
  refine G_aload_n dL_law_1267 rfl ?_
  refine G_aload_n dL_law_1268 rfl ?_
  refine G_iload dL_law_1269 rfl ?_
  refine G_iconst (v := 1) dL_law_1271 (by decide) ?_
  refine G_iadd dL_law_1272 ?_
  refine G_sld dL_law_1273 hX (show nI i + 1 = nI (i + 1) from nI_add i 1) (by omega) (by omega) ?_
  refine G_aload_n dL_law_1274 rfl ?_
  refine G_callSH (n := 3) (as := [.ref (ad E 0 0 0), .int (xs (i + 1)), .ref (ad E 27 0 0)]) (rest := []) (cs' := cs + 1) (ss' := ss + 6) dL_law_1275 lkw_226 rfl rfl (Nat.le_of_ble_eq_true rfl) (Nat.le_of_ble_eq_true rfl) (Nat.le_of_ble_eq_true rfl) rfl rfl (by show cs + 1 ≤ 601024; omega) (by show ss + 6 ≤ 7293034; omega) rfl ?_
  refine w_most hC hO hG (fun M1 hC1 hG1 e1 => hGo_i ?_)
  refine G_istore dL_law_1278 (Nat.le_of_ble_eq_true rfl) ?_
  refine G_aload_n dL_law_1280 rfl ?_
  refine G_aload_n dL_law_1281 rfl ?_
  refine G_iload dL_law_1282 rfl ?_
  refine G_iconst (v := 1) dL_law_1284 (by decide) ?_
  refine G_iadd dL_law_1285 ?_
  refine G_sld dL_law_1286 hX (show nI i + 1 = nI (i + 1) from nI_add i 1) (by omega) (by omega) ?_
  refine cv_L_228 (cs' := cs + 1) (ss' := ss + 6) dL_law_1287 (Nat.le_of_ble_eq_true rfl) (Nat.le_of_ble_eq_true rfl) (Nat.le_of_ble_eq_true rfl) rfl rfl (by show cs + 1 ≤ 601024; omega) (by show ss + 6 ≤ 7293034; omega) rfl ?_
  refine m_most hG1 hO (fun M2 v hG2 hf2 et ev => hGo_i ?_)
  have hC2 := hC1.fm hf2
  refine G_istore dL_law_1290 (Nat.le_of_ble_eq_true rfl) ?_
  refine G_aload_n dL_law_1292 rfl ?_
  refine cv_L_165 (cs' := cs + 1) (ss' := ss + 6) dL_law_1293 (Nat.le_of_ble_eq_true rfl) (Nat.le_of_ble_eq_true rfl) (Nat.le_of_ble_eq_true rfl) rfl rfl (by show cs + 1 ≤ 601024; omega) (by show ss + 6 ≤ 7293034; omega) rfl ?_
  refine m_thrown (hGo_i ?_)
  rw [et]
  refine G_iload dL_law_1296 rfl ?_
  refine G_icmp_eq (tgt := 1303) dL_law_1298 (by decide) (fun _ => ?_) (fun z => absurd rfl z)
  refine G_iload dL_law_1303 rfl ?_
  refine G_if_ne (tgt := 1320) dL_law_1305 (by decide) (fun _ => ?_) (fun z0 => ?_)
  · refine G_goto (tgt := 3388) dL_law_1320 (by decide) ?_
    exact G_wid (by omega) (by omega) (G_lv2 (ih M2 _ hC2 hG2 hO) ⟨rfl, rfl, rfl, rfl, rfl, rfl, trivial⟩)
  · have q0 : (qMost g (xs (i + 1))).1 = 0 := nI0 (bl_qMost) z0
    have eo : M2.2.1 = M1.2.1 := congrArg Prod.fst hf2.1.1
    have el : M2.2.1 = v.toInt64 := by rw [eo, ev q0]; exact e1 q0
    refine G_aload_n dL_law_1308 rfl ?_
    refine G_iconst (v := 0) dL_law_1309 (by decide) ?_
    refine G_lald dL_law_1310 ?_
    refine G_iload dL_law_1311 rfl ?_
    refine G_i2l dL_law_1313 ?_
    refine G_lcmpE dL_law_1314 el ?_
    refine G_if_eq (tgt := 1320) dL_law_1315 (by decide) (fun _ => ?_) (fun z => absurd rfl z)
    refine G_goto (tgt := 3388) dL_law_1320 (by decide) ?_
    exact G_wid (by omega) (by omega) (G_lv2 (ih M2 _ hC2 hG2 hO) ⟨rfl, rfl, rfl, rfl, rfl, rfl, trivial⟩)
theorem bl_qRanked {x y : Int32} : (qRanked g x y).1 < 3 := by rcases @b_qRanked g x y with b | b <;> omega
theorem l_ranked (hX : hSc E C a L xs) (hi : i + 5 ≤ L) (hL : L ≤ 2560) (hcs : cs + 4 ≤ 601024) (hss : ss + 24 ≤ 7293034) (hC : CG M g) (hG : MG M g) (hO : Okg g) (ih : ∀ (M' : Mm) (g' : Gs), CG M' g' → MG M' g' → Okg g' → G E C RL cL_law zLw P (cs + 4) (ss + 24) M' 3388 (lvL E a i) []) : G E C RL cL_law zLw P cs ss M 1323 (lvL E a i) [] := by
  refine G_aload_n dL_law_1323 rfl ?_
  refine G_aload_n dL_law_1324 rfl ?_
  refine G_iload dL_law_1325 rfl ?_
  refine G_iconst (v := 1) dL_law_1327 (by decide) ?_
  refine G_iadd dL_law_1328 ?_
  refine G_sld dL_law_1329 hX (show nI i + 1 = nI (i + 1) from nI_add i 1) (by omega) (by omega) ?_
  refine G_aload_n dL_law_1330 rfl ?_
  refine G_iload dL_law_1331 rfl ?_
  refine G_iconst (v := 2) dL_law_1333 (by decide) ?_
  refine G_iadd dL_law_1334 ?_
  refine G_sld dL_law_1335 hX (show nI i + 2 = nI (i + 2) from nI_add i 2) (by omega) (by omega) ?_
  refine G_aload_n dL_law_1336 rfl ?_
  refine G_callSH (n := 4) (as := [.ref (ad E 0 0 0), .int (xs (i + 1)), .int (xs (i + 2)), .ref (ad E 27 0 0)]) (rest := []) (cs' := cs + 1) (ss' := ss + 6) dL_law_1337 lkw_229 rfl rfl (Nat.le_of_ble_eq_true rfl) (Nat.le_of_ble_eq_true rfl) (Nat.le_of_ble_eq_true rfl) rfl rfl (by show cs + 1 ≤ 601024; omega) (by show ss + 6 ≤ 7293034; omega) rfl ?_
  refine w_ranked hC hO hG (fun M1 hC1 hG1 e1 => hGo_i ?_)
  refine G_istore dL_law_1340 (Nat.le_of_ble_eq_true rfl) ?_
  refine G_aload_n dL_law_1342 rfl ?_
  refine G_aload_n dL_law_1343 rfl ?_
  refine G_iload dL_law_1344 rfl ?_
  refine G_iconst (v := 1) dL_law_1346 (by decide) ?_
  refine G_iadd dL_law_1347 ?_
  refine G_sld dL_law_1348 hX (show nI i + 1 = nI (i + 1) from nI_add i 1) (by omega) (by omega) ?_
  refine G_aload_n dL_law_1349 rfl ?_
  refine G_iload dL_law_1350 rfl ?_
  refine G_iconst (v := 2) dL_law_1352 (by decide) ?_
  refine G_iadd dL_law_1353 ?_
  refine G_sld dL_law_1354 hX (show nI i + 2 = nI (i + 2) from nI_add i 2) (by omega) (by omega) ?_
  refine cv_L_231 (cs' := cs + 1) (ss' := ss + 6) dL_law_1355 (Nat.le_of_ble_eq_true rfl) (Nat.le_of_ble_eq_true rfl) (Nat.le_of_ble_eq_true rfl) rfl rfl (by show cs + 1 ≤ 601024; omega) (by show ss + 6 ≤ 7293034; omega) rfl ?_
  refine m_ranked hG1 hO (fun M2 v hG2 hf2 et ev => hGo_i ?_)
  have hC2 := hC1.fm hf2
  refine G_istore dL_law_1358 (Nat.le_of_ble_eq_true rfl) ?_
  refine G_aload_n dL_law_1360 rfl ?_
  refine cv_L_165 (cs' := cs + 1) (ss' := ss + 6) dL_law_1361 (Nat.le_of_ble_eq_true rfl) (Nat.le_of_ble_eq_true rfl) (Nat.le_of_ble_eq_true rfl) rfl rfl (by show cs + 1 ≤ 601024; omega) (by show ss + 6 ≤ 7293034; omega) rfl ?_
  refine m_thrown (hGo_i ?_)
  rw [et]
  refine G_iload dL_law_1364 rfl ?_
  refine G_icmp_eq (tgt := 1371) dL_law_1366 (by decide) (fun _ => ?_) (fun z => absurd rfl z)
  refine G_iload dL_law_1371 rfl ?_
  refine G_if_ne (tgt := 1388) dL_law_1373 (by decide) (fun _ => ?_) (fun z0 => ?_)
  · refine G_goto (tgt := 3388) dL_law_1388 (by decide) ?_
    exact G_wid (by omega) (by omega) (G_lv2 (ih M2 _ hC2 hG2 hO) ⟨rfl, rfl, rfl, rfl, rfl, rfl, trivial⟩)
  · have q0 : (qRanked g (xs (i + 1)) (xs (i + 2))).1 = 0 := nI0 (bl_qRanked) z0
    have eo : M2.2.1 = M1.2.1 := congrArg Prod.fst hf2.1.1
    have el : M2.2.1 = v.toInt64 := by rw [eo, ev q0]; exact e1 q0
    refine G_aload_n dL_law_1376 rfl ?_
    refine G_iconst (v := 0) dL_law_1377 (by decide) ?_
    refine G_lald dL_law_1378 ?_
    refine G_iload dL_law_1379 rfl ?_
    refine G_i2l dL_law_1381 ?_
    refine G_lcmpE dL_law_1382 el ?_
    refine G_if_eq (tgt := 1388) dL_law_1383 (by decide) (fun _ => ?_) (fun z => absurd rfl z)
    refine G_goto (tgt := 3388) dL_law_1388 (by decide) ?_
    exact G_wid (by omega) (by omega) (G_lv2 (ih M2 _ hC2 hG2 hO) ⟨rfl, rfl, rfl, rfl, rfl, rfl, trivial⟩)
theorem bl_qMostOf {x : Int32} : (qMostOf g x).1 < 3 := by rcases @b_qMostOf g x with b | b <;> omega
theorem l_mostOf (hX : hSc E C a L xs) (hi : i + 5 ≤ L) (hL : L ≤ 2560) (hcs : cs + 4 ≤ 601024) (hss : ss + 24 ≤ 7293034) (hC : CG M g) (hG : MG M g) (hO : Okg g) (ih : ∀ (M' : Mm) (g' : Gs), CG M' g' → MG M' g' → Okg g' → G E C RL cL_law zLw P (cs + 4) (ss + 24) M' 3388 (lvL E a i) []) : G E C RL cL_law zLw P cs ss M 1391 (lvL E a i) [] := by
  refine G_aload_n dL_law_1391 rfl ?_
  refine G_aload_n dL_law_1392 rfl ?_
  refine G_iload dL_law_1393 rfl ?_
  refine G_iconst (v := 1) dL_law_1395 (by decide) ?_
  refine G_iadd dL_law_1396 ?_
  refine G_sld dL_law_1397 hX (show nI i + 1 = nI (i + 1) from nI_add i 1) (by omega) (by omega) ?_
  refine G_aload_n dL_law_1398 rfl ?_
  refine G_callSH (n := 3) (as := [.ref (ad E 0 0 0), .int (xs (i + 1)), .ref (ad E 27 0 0)]) (rest := []) (cs' := cs + 1) (ss' := ss + 6) dL_law_1399 lkw_232 rfl rfl (Nat.le_of_ble_eq_true rfl) (Nat.le_of_ble_eq_true rfl) (Nat.le_of_ble_eq_true rfl) rfl rfl (by show cs + 1 ≤ 601024; omega) (by show ss + 6 ≤ 7293034; omega) rfl ?_
  refine w_mostOf hC hO hG (fun M1 hC1 hG1 e1 => hGo_i ?_)
  refine G_istore dL_law_1402 (Nat.le_of_ble_eq_true rfl) ?_
  refine G_aload_n dL_law_1404 rfl ?_
  refine G_aload_n dL_law_1405 rfl ?_
  refine G_iload dL_law_1406 rfl ?_
  refine G_iconst (v := 1) dL_law_1408 (by decide) ?_
  refine G_iadd dL_law_1409 ?_
  refine G_sld dL_law_1410 hX (show nI i + 1 = nI (i + 1) from nI_add i 1) (by omega) (by omega) ?_
  refine cv_L_234 (cs' := cs + 1) (ss' := ss + 6) dL_law_1411 (Nat.le_of_ble_eq_true rfl) (Nat.le_of_ble_eq_true rfl) (Nat.le_of_ble_eq_true rfl) rfl rfl (by show cs + 1 ≤ 601024; omega) (by show ss + 6 ≤ 7293034; omega) rfl ?_
  refine m_mostOf hG1 hO (fun M2 v hG2 hf2 et ev => hGo_i ?_)
  have hC2 := hC1.fm hf2
  refine G_istore dL_law_1414 (Nat.le_of_ble_eq_true rfl) ?_
  refine G_aload_n dL_law_1416 rfl ?_
  refine cv_L_165 (cs' := cs + 1) (ss' := ss + 6) dL_law_1417 (Nat.le_of_ble_eq_true rfl) (Nat.le_of_ble_eq_true rfl) (Nat.le_of_ble_eq_true rfl) rfl rfl (by show cs + 1 ≤ 601024; omega) (by show ss + 6 ≤ 7293034; omega) rfl ?_
  refine m_thrown (hGo_i ?_)
  rw [et]
  refine G_iload dL_law_1420 rfl ?_
  refine G_icmp_eq (tgt := 1427) dL_law_1422 (by decide) (fun _ => ?_) (fun z => absurd rfl z)
  refine G_iload dL_law_1427 rfl ?_
  refine G_if_ne (tgt := 1444) dL_law_1429 (by decide) (fun _ => ?_) (fun z0 => ?_)
  · refine G_goto (tgt := 3388) dL_law_1444 (by decide) ?_
    exact G_wid (by omega) (by omega) (G_lv2 (ih M2 _ hC2 hG2 hO) ⟨rfl, rfl, rfl, rfl, rfl, rfl, trivial⟩)
  · have q0 : (qMostOf g (xs (i + 1))).1 = 0 := nI0 (bl_qMostOf) z0
    have eo : M2.2.1 = M1.2.1 := congrArg Prod.fst hf2.1.1
    have el : M2.2.1 = v.toInt64 := by rw [eo, ev q0]; exact e1 q0
    refine G_aload_n dL_law_1432 rfl ?_
    refine G_iconst (v := 0) dL_law_1433 (by decide) ?_
    refine G_lald dL_law_1434 ?_
    refine G_iload dL_law_1435 rfl ?_
    refine G_i2l dL_law_1437 ?_
    refine G_lcmpE dL_law_1438 el ?_
    refine G_if_eq (tgt := 1444) dL_law_1439 (by decide) (fun _ => ?_) (fun z => absurd rfl z)
    refine G_goto (tgt := 3388) dL_law_1444 (by decide) ?_
    exact G_wid (by omega) (by omega) (G_lv2 (ih M2 _ hC2 hG2 hO) ⟨rfl, rfl, rfl, rfl, rfl, rfl, trivial⟩)
theorem bl_qMakers {x y : Int32} : (qMakers g x y).1 < 3 := by rcases @b_qMakers g x y with b | b | b <;> omega
theorem l_makers (hX : hSc E C a L xs) (hi : i + 5 ≤ L) (hL : L ≤ 2560) (hcs : cs + 4 ≤ 601024) (hss : ss + 24 ≤ 7293034) (hC : CG M g) (hG : MG M g) (hO : Okg g) (ih : ∀ (M' : Mm) (g' : Gs), CG M' g' → MG M' g' → Okg g' → G E C RL cL_law zLw P (cs + 4) (ss + 24) M' 3388 (lvL E a i) []) : G E C RL cL_law zLw P cs ss M 1447 (lvL E a i) [] := by
  refine G_aload_n dL_law_1447 rfl ?_
  refine G_aload_n dL_law_1448 rfl ?_
  refine G_iload dL_law_1449 rfl ?_
  refine G_iconst (v := 1) dL_law_1451 (by decide) ?_
  refine G_iadd dL_law_1452 ?_
  refine G_sld dL_law_1453 hX (show nI i + 1 = nI (i + 1) from nI_add i 1) (by omega) (by omega) ?_
  refine G_aload_n dL_law_1454 rfl ?_
  refine G_iload dL_law_1455 rfl ?_
  refine G_iconst (v := 2) dL_law_1457 (by decide) ?_
  refine G_iadd dL_law_1458 ?_
  refine G_sld dL_law_1459 hX (show nI i + 2 = nI (i + 2) from nI_add i 2) (by omega) (by omega) ?_
  refine G_aload_n dL_law_1460 rfl ?_
  refine G_callSH (n := 4) (as := [.ref (ad E 0 0 0), .int (xs (i + 1)), .int (xs (i + 2)), .ref (ad E 27 0 0)]) (rest := []) (cs' := cs + 2) (ss' := ss + 12) dL_law_1461 lkw_235 rfl rfl (Nat.le_of_ble_eq_true rfl) (Nat.le_of_ble_eq_true rfl) (Nat.le_of_ble_eq_true rfl) rfl rfl (by show cs + 2 ≤ 601024; omega) (by show ss + 12 ≤ 7293034; omega) rfl ?_
  refine w_makers hC hO hG (fun M1 hC1 hG1 e1 => hGo_i ?_)
  refine G_istore dL_law_1464 (Nat.le_of_ble_eq_true rfl) ?_
  refine G_aload_n dL_law_1466 rfl ?_
  refine G_aload_n dL_law_1467 rfl ?_
  refine G_iload dL_law_1468 rfl ?_
  refine G_iconst (v := 1) dL_law_1470 (by decide) ?_
  refine G_iadd dL_law_1471 ?_
  refine G_sld dL_law_1472 hX (show nI i + 1 = nI (i + 1) from nI_add i 1) (by omega) (by omega) ?_
  refine G_aload_n dL_law_1473 rfl ?_
  refine G_iload dL_law_1474 rfl ?_
  refine G_iconst (v := 2) dL_law_1476 (by decide) ?_
  refine G_iadd dL_law_1477 ?_
  refine G_sld dL_law_1478 hX (show nI i + 2 = nI (i + 2) from nI_add i 2) (by omega) (by omega) ?_
  refine cv_L_237 (cs' := cs + 2) (ss' := ss + 12) dL_law_1479 (Nat.le_of_ble_eq_true rfl) (Nat.le_of_ble_eq_true rfl) (Nat.le_of_ble_eq_true rfl) rfl rfl (by show cs + 2 ≤ 601024; omega) (by show ss + 12 ≤ 7293034; omega) rfl ?_
  refine m_makers hG1 hO (fun M2 v hG2 hf2 et ev => hGo_i ?_)
  have hC2 := hC1.fm hf2
  refine G_istore dL_law_1482 (Nat.le_of_ble_eq_true rfl) ?_
  refine G_aload_n dL_law_1484 rfl ?_
  refine cv_L_165 (cs' := cs + 2) (ss' := ss + 12) dL_law_1485 (Nat.le_of_ble_eq_true rfl) (Nat.le_of_ble_eq_true rfl) (Nat.le_of_ble_eq_true rfl) rfl rfl (by show cs + 2 ≤ 601024; omega) (by show ss + 12 ≤ 7293034; omega) rfl ?_
  refine m_thrown (hGo_i ?_)
  rw [et]
  refine G_iload dL_law_1488 rfl ?_
  refine G_icmp_eq (tgt := 1495) dL_law_1490 (by decide) (fun _ => ?_) (fun z => absurd rfl z)
  refine G_iload dL_law_1495 rfl ?_
  refine G_if_ne (tgt := 1512) dL_law_1497 (by decide) (fun _ => ?_) (fun z0 => ?_)
  · refine G_goto (tgt := 3388) dL_law_1512 (by decide) ?_
    exact G_wid (by omega) (by omega) (G_lv2 (ih M2 _ hC2 hG2 hO) ⟨rfl, rfl, rfl, rfl, rfl, rfl, trivial⟩)
  · have q0 : (qMakers g (xs (i + 1)) (xs (i + 2))).1 = 0 := nI0 (bl_qMakers) z0
    have eo : M2.2.1 = M1.2.1 := congrArg Prod.fst hf2.1.1
    have el : M2.2.1 = v.toInt64 := by rw [eo, ev q0]; exact e1 q0
    refine G_aload_n dL_law_1500 rfl ?_
    refine G_iconst (v := 0) dL_law_1501 (by decide) ?_
    refine G_lald dL_law_1502 ?_
    refine G_iload dL_law_1503 rfl ?_
    refine G_i2l dL_law_1505 ?_
    refine G_lcmpE dL_law_1506 el ?_
    refine G_if_eq (tgt := 1512) dL_law_1507 (by decide) (fun _ => ?_) (fun z => absurd rfl z)
    refine G_goto (tgt := 3388) dL_law_1512 (by decide) ?_
    exact G_wid (by omega) (by omega) (G_lv2 (ih M2 _ hC2 hG2 hO) ⟨rfl, rfl, rfl, rfl, rfl, rfl, trivial⟩)
theorem bl_qNeeds {x y : Int32} : (qNeeds g x y).1 < 3 := by rcases @b_qNeeds g x y with b | b | b <;> omega
theorem l_needs (hX : hSc E C a L xs) (hi : i + 5 ≤ L) (hL : L ≤ 2560) (hcs : cs + 4 ≤ 601024) (hss : ss + 24 ≤ 7293034) (hC : CG M g) (hG : MG M g) (hO : Okg g) (ih : ∀ (M' : Mm) (g' : Gs), CG M' g' → MG M' g' → Okg g' → G E C RL cL_law zLw P (cs + 4) (ss + 24) M' 3388 (lvL E a i) []) : G E C RL cL_law zLw P cs ss M 1515 (lvL E a i) [] := by
  refine G_aload_n dL_law_1515 rfl ?_
  refine G_aload_n dL_law_1516 rfl ?_
  refine G_iload dL_law_1517 rfl ?_
  refine G_iconst (v := 1) dL_law_1519 (by decide) ?_
  refine G_iadd dL_law_1520 ?_
  refine G_sld dL_law_1521 hX (show nI i + 1 = nI (i + 1) from nI_add i 1) (by omega) (by omega) ?_
  refine G_aload_n dL_law_1522 rfl ?_
  refine G_iload dL_law_1523 rfl ?_
  refine G_iconst (v := 2) dL_law_1525 (by decide) ?_
  refine G_iadd dL_law_1526 ?_
  refine G_sld dL_law_1527 hX (show nI i + 2 = nI (i + 2) from nI_add i 2) (by omega) (by omega) ?_
  refine G_aload_n dL_law_1528 rfl ?_
  refine G_callSH (n := 4) (as := [.ref (ad E 0 0 0), .int (xs (i + 1)), .int (xs (i + 2)), .ref (ad E 27 0 0)]) (rest := []) (cs' := cs + 2) (ss' := ss + 12) dL_law_1529 lkw_238 rfl rfl (Nat.le_of_ble_eq_true rfl) (Nat.le_of_ble_eq_true rfl) (Nat.le_of_ble_eq_true rfl) rfl rfl (by show cs + 2 ≤ 601024; omega) (by show ss + 12 ≤ 7293034; omega) rfl ?_
  refine w_needs hC hO hG (fun M1 hC1 hG1 e1 => hGo_i ?_)
  refine G_istore dL_law_1532 (Nat.le_of_ble_eq_true rfl) ?_
  refine G_aload_n dL_law_1534 rfl ?_
  refine G_aload_n dL_law_1535 rfl ?_
  refine G_iload dL_law_1536 rfl ?_
  refine G_iconst (v := 1) dL_law_1538 (by decide) ?_
  refine G_iadd dL_law_1539 ?_
  refine G_sld dL_law_1540 hX (show nI i + 1 = nI (i + 1) from nI_add i 1) (by omega) (by omega) ?_
  refine G_aload_n dL_law_1541 rfl ?_
  refine G_iload dL_law_1542 rfl ?_
  refine G_iconst (v := 2) dL_law_1544 (by decide) ?_
  refine G_iadd dL_law_1545 ?_
  refine G_sld dL_law_1546 hX (show nI i + 2 = nI (i + 2) from nI_add i 2) (by omega) (by omega) ?_
  refine cv_L_240 (cs' := cs + 2) (ss' := ss + 12) dL_law_1547 (Nat.le_of_ble_eq_true rfl) (Nat.le_of_ble_eq_true rfl) (Nat.le_of_ble_eq_true rfl) rfl rfl (by show cs + 2 ≤ 601024; omega) (by show ss + 12 ≤ 7293034; omega) rfl ?_
  refine m_needs hG1 hO (fun M2 v hG2 hf2 et ev => hGo_i ?_)
  have hC2 := hC1.fm hf2
  refine G_istore dL_law_1550 (Nat.le_of_ble_eq_true rfl) ?_
  refine G_aload_n dL_law_1552 rfl ?_
  refine cv_L_165 (cs' := cs + 2) (ss' := ss + 12) dL_law_1553 (Nat.le_of_ble_eq_true rfl) (Nat.le_of_ble_eq_true rfl) (Nat.le_of_ble_eq_true rfl) rfl rfl (by show cs + 2 ≤ 601024; omega) (by show ss + 12 ≤ 7293034; omega) rfl ?_
  refine m_thrown (hGo_i ?_)
  rw [et]
  refine G_iload dL_law_1556 rfl ?_
  refine G_icmp_eq (tgt := 1563) dL_law_1558 (by decide) (fun _ => ?_) (fun z => absurd rfl z)
  refine G_iload dL_law_1563 rfl ?_
  refine G_if_ne (tgt := 1580) dL_law_1565 (by decide) (fun _ => ?_) (fun z0 => ?_)
  · refine G_goto (tgt := 3388) dL_law_1580 (by decide) ?_
    exact G_wid (by omega) (by omega) (G_lv2 (ih M2 _ hC2 hG2 hO) ⟨rfl, rfl, rfl, rfl, rfl, rfl, trivial⟩)
  · have q0 : (qNeeds g (xs (i + 1)) (xs (i + 2))).1 = 0 := nI0 (bl_qNeeds) z0
    have eo : M2.2.1 = M1.2.1 := congrArg Prod.fst hf2.1.1
    have el : M2.2.1 = v.toInt64 := by rw [eo, ev q0]; exact e1 q0
    refine G_aload_n dL_law_1568 rfl ?_
    refine G_iconst (v := 0) dL_law_1569 (by decide) ?_
    refine G_lald dL_law_1570 ?_
    refine G_iload dL_law_1571 rfl ?_
    refine G_i2l dL_law_1573 ?_
    refine G_lcmpE dL_law_1574 el ?_
    refine G_if_eq (tgt := 1580) dL_law_1575 (by decide) (fun _ => ?_) (fun z => absurd rfl z)
    refine G_goto (tgt := 3388) dL_law_1580 (by decide) ?_
    exact G_wid (by omega) (by omega) (G_lv2 (ih M2 _ hC2 hG2 hO) ⟨rfl, rfl, rfl, rfl, rfl, rfl, trivial⟩)
theorem bl_qNearTo {x y : Int32} : (qNearTo g x y).1 < 3 := by rcases @b_qNearTo g x y with b | b <;> omega
theorem l_nearTo (hX : hSc E C a L xs) (hi : i + 5 ≤ L) (hL : L ≤ 2560) (hcs : cs + 4 ≤ 601024) (hss : ss + 24 ≤ 7293034) (hC : CG M g) (hG : MG M g) (hO : Okg g) (ih : ∀ (M' : Mm) (g' : Gs), CG M' g' → MG M' g' → Okg g' → G E C RL cL_law zLw P (cs + 4) (ss + 24) M' 3388 (lvL E a i) []) : G E C RL cL_law zLw P cs ss M 1583 (lvL E a i) [] := by
  refine G_aload_n dL_law_1583 rfl ?_
  refine G_aload_n dL_law_1584 rfl ?_
  refine G_iload dL_law_1585 rfl ?_
  refine G_iconst (v := 1) dL_law_1587 (by decide) ?_
  refine G_iadd dL_law_1588 ?_
  refine G_sld dL_law_1589 hX (show nI i + 1 = nI (i + 1) from nI_add i 1) (by omega) (by omega) ?_
  refine G_aload_n dL_law_1590 rfl ?_
  refine G_iload dL_law_1591 rfl ?_
  refine G_iconst (v := 2) dL_law_1593 (by decide) ?_
  refine G_iadd dL_law_1594 ?_
  refine G_sld dL_law_1595 hX (show nI i + 2 = nI (i + 2) from nI_add i 2) (by omega) (by omega) ?_
  refine G_aload_n dL_law_1596 rfl ?_
  refine G_callSH (n := 4) (as := [.ref (ad E 0 0 0), .int (xs (i + 1)), .int (xs (i + 2)), .ref (ad E 27 0 0)]) (rest := []) (cs' := cs + 1) (ss' := ss + 6) dL_law_1597 lkw_241 rfl rfl (Nat.le_of_ble_eq_true rfl) (Nat.le_of_ble_eq_true rfl) (Nat.le_of_ble_eq_true rfl) rfl rfl (by show cs + 1 ≤ 601024; omega) (by show ss + 6 ≤ 7293034; omega) rfl ?_
  refine w_nearTo hC hO hG (fun M1 hC1 hG1 e1 => hGo_i ?_)
  refine G_istore dL_law_1600 (Nat.le_of_ble_eq_true rfl) ?_
  refine G_aload_n dL_law_1602 rfl ?_
  refine G_aload_n dL_law_1603 rfl ?_
  refine G_iload dL_law_1604 rfl ?_
  refine G_iconst (v := 1) dL_law_1606 (by decide) ?_
  refine G_iadd dL_law_1607 ?_
  refine G_sld dL_law_1608 hX (show nI i + 1 = nI (i + 1) from nI_add i 1) (by omega) (by omega) ?_
  refine G_aload_n dL_law_1609 rfl ?_
  refine G_iload dL_law_1610 rfl ?_
  refine G_iconst (v := 2) dL_law_1612 (by decide) ?_
  refine G_iadd dL_law_1613 ?_
  refine G_sld dL_law_1614 hX (show nI i + 2 = nI (i + 2) from nI_add i 2) (by omega) (by omega) ?_
  refine cv_L_243 (cs' := cs + 1) (ss' := ss + 6) dL_law_1615 (Nat.le_of_ble_eq_true rfl) (Nat.le_of_ble_eq_true rfl) (Nat.le_of_ble_eq_true rfl) rfl rfl (by show cs + 1 ≤ 601024; omega) (by show ss + 6 ≤ 7293034; omega) rfl ?_
  refine m_nearTo hG1 hO (fun M2 v hG2 hf2 et ev => hGo_i ?_)
  have hC2 := hC1.fm hf2
  refine G_istore dL_law_1618 (Nat.le_of_ble_eq_true rfl) ?_
  refine G_aload_n dL_law_1620 rfl ?_
  refine cv_L_165 (cs' := cs + 1) (ss' := ss + 6) dL_law_1621 (Nat.le_of_ble_eq_true rfl) (Nat.le_of_ble_eq_true rfl) (Nat.le_of_ble_eq_true rfl) rfl rfl (by show cs + 1 ≤ 601024; omega) (by show ss + 6 ≤ 7293034; omega) rfl ?_
  refine m_thrown (hGo_i ?_)
  rw [et]
  refine G_iload dL_law_1624 rfl ?_
  refine G_icmp_eq (tgt := 1631) dL_law_1626 (by decide) (fun _ => ?_) (fun z => absurd rfl z)
  refine G_iload dL_law_1631 rfl ?_
  refine G_if_ne (tgt := 1648) dL_law_1633 (by decide) (fun _ => ?_) (fun z0 => ?_)
  · refine G_goto (tgt := 3388) dL_law_1648 (by decide) ?_
    exact G_wid (by omega) (by omega) (G_lv2 (ih M2 _ hC2 hG2 hO) ⟨rfl, rfl, rfl, rfl, rfl, rfl, trivial⟩)
  · have q0 : (qNearTo g (xs (i + 1)) (xs (i + 2))).1 = 0 := nI0 (bl_qNearTo) z0
    have eo : M2.2.1 = M1.2.1 := congrArg Prod.fst hf2.1.1
    have el : M2.2.1 = v.toInt64 := by rw [eo, ev q0]; exact e1 q0
    refine G_aload_n dL_law_1636 rfl ?_
    refine G_iconst (v := 0) dL_law_1637 (by decide) ?_
    refine G_lald dL_law_1638 ?_
    refine G_iload dL_law_1639 rfl ?_
    refine G_i2l dL_law_1641 ?_
    refine G_lcmpE dL_law_1642 el ?_
    refine G_if_eq (tgt := 1648) dL_law_1643 (by decide) (fun _ => ?_) (fun z => absurd rfl z)
    refine G_goto (tgt := 3388) dL_law_1648 (by decide) ?_
    exact G_wid (by omega) (by omega) (G_lv2 (ih M2 _ hC2 hG2 hO) ⟨rfl, rfl, rfl, rfl, rfl, rfl, trivial⟩)
theorem bl_qDebtOf {x y : Int32} : (qDebtOf g x y).1 < 3 := by rcases @b_qDebtOf g x y with b | b <;> omega
theorem l_debtOf (hX : hSc E C a L xs) (hi : i + 5 ≤ L) (hL : L ≤ 2560) (hcs : cs + 4 ≤ 601024) (hss : ss + 24 ≤ 7293034) (hC : CG M g) (hG : MG M g) (hO : Okg g) (ih : ∀ (M' : Mm) (g' : Gs), CG M' g' → MG M' g' → Okg g' → G E C RL cL_law zLw P (cs + 4) (ss + 24) M' 3388 (lvL E a i) []) : G E C RL cL_law zLw P cs ss M 1651 (lvL E a i) [] := by
  refine G_aload_n dL_law_1651 rfl ?_
  refine G_aload_n dL_law_1652 rfl ?_
  refine G_iload dL_law_1653 rfl ?_
  refine G_iconst (v := 1) dL_law_1655 (by decide) ?_
  refine G_iadd dL_law_1656 ?_
  refine G_sld dL_law_1657 hX (show nI i + 1 = nI (i + 1) from nI_add i 1) (by omega) (by omega) ?_
  refine G_aload_n dL_law_1658 rfl ?_
  refine G_iload dL_law_1659 rfl ?_
  refine G_iconst (v := 2) dL_law_1661 (by decide) ?_
  refine G_iadd dL_law_1662 ?_
  refine G_sld dL_law_1663 hX (show nI i + 2 = nI (i + 2) from nI_add i 2) (by omega) (by omega) ?_
  refine G_aload_n dL_law_1664 rfl ?_
  refine G_callSH (n := 4) (as := [.ref (ad E 0 0 0), .int (xs (i + 1)), .int (xs (i + 2)), .ref (ad E 27 0 0)]) (rest := []) (cs' := cs + 1) (ss' := ss + 6) dL_law_1665 lkw_244 rfl rfl (Nat.le_of_ble_eq_true rfl) (Nat.le_of_ble_eq_true rfl) (Nat.le_of_ble_eq_true rfl) rfl rfl (by show cs + 1 ≤ 601024; omega) (by show ss + 6 ≤ 7293034; omega) rfl ?_
  refine w_debtOf hC hO hG (fun M1 hC1 hG1 e1 => hGo_i ?_)
  refine G_istore dL_law_1668 (Nat.le_of_ble_eq_true rfl) ?_
  refine G_aload_n dL_law_1670 rfl ?_
  refine G_aload_n dL_law_1671 rfl ?_
  refine G_iload dL_law_1672 rfl ?_
  refine G_iconst (v := 1) dL_law_1674 (by decide) ?_
  refine G_iadd dL_law_1675 ?_
  refine G_sld dL_law_1676 hX (show nI i + 1 = nI (i + 1) from nI_add i 1) (by omega) (by omega) ?_
  refine G_aload_n dL_law_1677 rfl ?_
  refine G_iload dL_law_1678 rfl ?_
  refine G_iconst (v := 2) dL_law_1680 (by decide) ?_
  refine G_iadd dL_law_1681 ?_
  refine G_sld dL_law_1682 hX (show nI i + 2 = nI (i + 2) from nI_add i 2) (by omega) (by omega) ?_
  refine cv_L_246 (cs' := cs + 1) (ss' := ss + 6) dL_law_1683 (Nat.le_of_ble_eq_true rfl) (Nat.le_of_ble_eq_true rfl) (Nat.le_of_ble_eq_true rfl) rfl rfl (by show cs + 1 ≤ 601024; omega) (by show ss + 6 ≤ 7293034; omega) rfl ?_
  refine m_debtOf hG1 hO (fun M2 v hG2 hf2 et ev => hGo_i ?_)
  have hC2 := hC1.fm hf2
  refine G_istore dL_law_1686 (Nat.le_of_ble_eq_true rfl) ?_
  refine G_aload_n dL_law_1688 rfl ?_
  refine cv_L_165 (cs' := cs + 1) (ss' := ss + 6) dL_law_1689 (Nat.le_of_ble_eq_true rfl) (Nat.le_of_ble_eq_true rfl) (Nat.le_of_ble_eq_true rfl) rfl rfl (by show cs + 1 ≤ 601024; omega) (by show ss + 6 ≤ 7293034; omega) rfl ?_
  refine m_thrown (hGo_i ?_)
  rw [et]
  refine G_iload dL_law_1692 rfl ?_
  refine G_icmp_eq (tgt := 1699) dL_law_1694 (by decide) (fun _ => ?_) (fun z => absurd rfl z)
  refine G_iload dL_law_1699 rfl ?_
  refine G_if_ne (tgt := 1716) dL_law_1701 (by decide) (fun _ => ?_) (fun z0 => ?_)
  · refine G_goto (tgt := 3388) dL_law_1716 (by decide) ?_
    exact G_wid (by omega) (by omega) (G_lv2 (ih M2 _ hC2 hG2 hO) ⟨rfl, rfl, rfl, rfl, rfl, rfl, trivial⟩)
  · have q0 : (qDebtOf g (xs (i + 1)) (xs (i + 2))).1 = 0 := nI0 (bl_qDebtOf) z0
    have eo : M2.2.1 = M1.2.1 := congrArg Prod.fst hf2.1.1
    have el : M2.2.1 = v.toInt64 := by rw [eo, ev q0]; exact e1 q0
    refine G_aload_n dL_law_1704 rfl ?_
    refine G_iconst (v := 0) dL_law_1705 (by decide) ?_
    refine G_lald dL_law_1706 ?_
    refine G_iload dL_law_1707 rfl ?_
    refine G_i2l dL_law_1709 ?_
    refine G_lcmpE dL_law_1710 el ?_
    refine G_if_eq (tgt := 1716) dL_law_1711 (by decide) (fun _ => ?_) (fun z => absurd rfl z)
    refine G_goto (tgt := 3388) dL_law_1716 (by decide) ?_
    exact G_wid (by omega) (by omega) (G_lv2 (ih M2 _ hC2 hG2 hO) ⟨rfl, rfl, rfl, rfl, rfl, rfl, trivial⟩)
theorem bl_qCanPay {x : Int32} : (qCanPay g x).1 < 3 := by rcases @b_qCanPay g x with b | b <;> omega
theorem l_canPay (hX : hSc E C a L xs) (hi : i + 5 ≤ L) (hL : L ≤ 2560) (hcs : cs + 4 ≤ 601024) (hss : ss + 24 ≤ 7293034) (hC : CG M g) (hG : MG M g) (hO : Okg g) (ih : ∀ (M' : Mm) (g' : Gs), CG M' g' → MG M' g' → Okg g' → G E C RL cL_law zLw P (cs + 4) (ss + 24) M' 3388 (lvL E a i) []) : G E C RL cL_law zLw P cs ss M 1719 (lvL E a i) [] := by
  refine G_aload_n dL_law_1719 rfl ?_
  refine G_aload_n dL_law_1720 rfl ?_
  refine G_iload dL_law_1721 rfl ?_
  refine G_iconst (v := 1) dL_law_1723 (by decide) ?_
  refine G_iadd dL_law_1724 ?_
  refine G_sld dL_law_1725 hX (show nI i + 1 = nI (i + 1) from nI_add i 1) (by omega) (by omega) ?_
  refine G_aload_n dL_law_1726 rfl ?_
  refine G_callSH (n := 3) (as := [.ref (ad E 0 0 0), .int (xs (i + 1)), .ref (ad E 27 0 0)]) (rest := []) (cs' := cs + 1) (ss' := ss + 6) dL_law_1727 lkw_247 rfl rfl (Nat.le_of_ble_eq_true rfl) (Nat.le_of_ble_eq_true rfl) (Nat.le_of_ble_eq_true rfl) rfl rfl (by show cs + 1 ≤ 601024; omega) (by show ss + 6 ≤ 7293034; omega) rfl ?_
  refine w_canPay hC hO hG (fun M1 hC1 hG1 e1 => hGo_i ?_)
  refine G_istore dL_law_1730 (Nat.le_of_ble_eq_true rfl) ?_
  refine G_aload_n dL_law_1732 rfl ?_
  refine G_aload_n dL_law_1733 rfl ?_
  refine G_iload dL_law_1734 rfl ?_
  refine G_iconst (v := 1) dL_law_1736 (by decide) ?_
  refine G_iadd dL_law_1737 ?_
  refine G_sld dL_law_1738 hX (show nI i + 1 = nI (i + 1) from nI_add i 1) (by omega) (by omega) ?_
  refine cv_L_249 (cs' := cs + 1) (ss' := ss + 6) dL_law_1739 (Nat.le_of_ble_eq_true rfl) (Nat.le_of_ble_eq_true rfl) (Nat.le_of_ble_eq_true rfl) rfl rfl (by show cs + 1 ≤ 601024; omega) (by show ss + 6 ≤ 7293034; omega) rfl ?_
  refine m_canPay hG1 hO (fun M2 v hG2 hf2 et ev => hGo_i ?_)
  have hC2 := hC1.fm hf2
  refine G_istore dL_law_1742 (Nat.le_of_ble_eq_true rfl) ?_
  refine G_aload_n dL_law_1744 rfl ?_
  refine cv_L_165 (cs' := cs + 1) (ss' := ss + 6) dL_law_1745 (Nat.le_of_ble_eq_true rfl) (Nat.le_of_ble_eq_true rfl) (Nat.le_of_ble_eq_true rfl) rfl rfl (by show cs + 1 ≤ 601024; omega) (by show ss + 6 ≤ 7293034; omega) rfl ?_
  refine m_thrown (hGo_i ?_)
  rw [et]
  refine G_iload dL_law_1748 rfl ?_
  refine G_icmp_eq (tgt := 1755) dL_law_1750 (by decide) (fun _ => ?_) (fun z => absurd rfl z)
  refine G_iload dL_law_1755 rfl ?_
  refine G_if_ne (tgt := 1779) dL_law_1757 (by decide) (fun _ => ?_) (fun z0 => ?_)
  · refine G_goto (tgt := 3388) dL_law_1779 (by decide) ?_
    exact G_wid (by omega) (by omega) (G_lv2 (ih M2 _ hC2 hG2 hO) ⟨rfl, rfl, rfl, rfl, rfl, rfl, trivial⟩)
  · have q0 : (qCanPay g (xs (i + 1))).1 = 0 := nI0 (bl_qCanPay) z0
    have eo : M2.2.1 = M1.2.1 := congrArg Prod.fst hf2.1.1
    have el : M2.2.1 = if v = 0 then 0 else 1 := by rw [eo, ev q0]; exact e1 q0
    refine G_aload_n dL_law_1760 rfl ?_
    refine G_iconst (v := 0) dL_law_1761 (by decide) ?_
    refine G_lald dL_law_1762 ?_
    refine G_iload dL_law_1763 rfl ?_
    refine G_if_eq (tgt := 1772) dL_law_1765 (by decide) (fun z1 => ?_) (fun z1 => ?_)
    · rw [if_pos z1] at el
      refine G_lconst (v := 0) dL_law_1772 rfl ?_
      refine G_lcmpE dL_law_1773 el ?_
      refine G_if_eq (tgt := 1779) dL_law_1774 (by decide) (fun _ => ?_) (fun z => absurd rfl z)
      refine G_goto (tgt := 3388) dL_law_1779 (by decide) ?_
      exact G_wid (by omega) (by omega) (G_lv2 (ih M2 _ hC2 hG2 hO) ⟨rfl, rfl, rfl, rfl, rfl, rfl, trivial⟩)
    · rw [if_neg z1] at el
      refine G_lconst (v := 1) dL_law_1768 rfl ?_
      refine G_goto (tgt := 1773) dL_law_1769 (by decide) ?_
      refine G_lcmpE dL_law_1773 el ?_
      refine G_if_eq (tgt := 1779) dL_law_1774 (by decide) (fun _ => ?_) (fun z => absurd rfl z)
      refine G_goto (tgt := 3388) dL_law_1779 (by decide) ?_
      exact G_wid (by omega) (by omega) (G_lv2 (ih M2 _ hC2 hG2 hO) ⟨rfl, rfl, rfl, rfl, rfl, rfl, trivial⟩)
theorem bl_qRefusals {x : Int32} : (qRefusals g x).1 < 3 := by rcases @b_qRefusals g x with b | b <;> omega
theorem l_refusals (hX : hSc E C a L xs) (hi : i + 5 ≤ L) (hL : L ≤ 2560) (hcs : cs + 4 ≤ 601024) (hss : ss + 24 ≤ 7293034) (hC : CG M g) (hG : MG M g) (hO : Okg g) (ih : ∀ (M' : Mm) (g' : Gs), CG M' g' → MG M' g' → Okg g' → G E C RL cL_law zLw P (cs + 4) (ss + 24) M' 3388 (lvL E a i) []) : G E C RL cL_law zLw P cs ss M 1782 (lvL E a i) [] := by
  refine G_aload_n dL_law_1782 rfl ?_
  refine G_aload_n dL_law_1783 rfl ?_
  refine G_iload dL_law_1784 rfl ?_
  refine G_iconst (v := 1) dL_law_1786 (by decide) ?_
  refine G_iadd dL_law_1787 ?_
  refine G_sld dL_law_1788 hX (show nI i + 1 = nI (i + 1) from nI_add i 1) (by omega) (by omega) ?_
  refine G_aload_n dL_law_1789 rfl ?_
  refine G_callSH (n := 3) (as := [.ref (ad E 0 0 0), .int (xs (i + 1)), .ref (ad E 27 0 0)]) (rest := []) (cs' := cs + 1) (ss' := ss + 6) dL_law_1790 lkw_250 rfl rfl (Nat.le_of_ble_eq_true rfl) (Nat.le_of_ble_eq_true rfl) (Nat.le_of_ble_eq_true rfl) rfl rfl (by show cs + 1 ≤ 601024; omega) (by show ss + 6 ≤ 7293034; omega) rfl ?_
  refine w_refusals hC hO hG (fun M1 hC1 hG1 e1 => hGo_i ?_)
  refine G_istore dL_law_1793 (Nat.le_of_ble_eq_true rfl) ?_
  refine G_aload_n dL_law_1795 rfl ?_
  refine G_aload_n dL_law_1796 rfl ?_
  refine G_iload dL_law_1797 rfl ?_
  refine G_iconst (v := 1) dL_law_1799 (by decide) ?_
  refine G_iadd dL_law_1800 ?_
  refine G_sld dL_law_1801 hX (show nI i + 1 = nI (i + 1) from nI_add i 1) (by omega) (by omega) ?_
  refine cv_L_252 (cs' := cs + 1) (ss' := ss + 6) dL_law_1802 (Nat.le_of_ble_eq_true rfl) (Nat.le_of_ble_eq_true rfl) (Nat.le_of_ble_eq_true rfl) rfl rfl (by show cs + 1 ≤ 601024; omega) (by show ss + 6 ≤ 7293034; omega) rfl ?_
  refine m_refusals hG1 hO (fun M2 v hG2 hf2 et ev => hGo_i ?_)
  have hC2 := hC1.fm hf2
  refine G_istore dL_law_1805 (Nat.le_of_ble_eq_true rfl) ?_
  refine G_aload_n dL_law_1807 rfl ?_
  refine cv_L_165 (cs' := cs + 1) (ss' := ss + 6) dL_law_1808 (Nat.le_of_ble_eq_true rfl) (Nat.le_of_ble_eq_true rfl) (Nat.le_of_ble_eq_true rfl) rfl rfl (by show cs + 1 ≤ 601024; omega) (by show ss + 6 ≤ 7293034; omega) rfl ?_
  refine m_thrown (hGo_i ?_)
  rw [et]
  refine G_iload dL_law_1811 rfl ?_
  refine G_icmp_eq (tgt := 1818) dL_law_1813 (by decide) (fun _ => ?_) (fun z => absurd rfl z)
  refine G_iload dL_law_1818 rfl ?_
  refine G_if_ne (tgt := 1835) dL_law_1820 (by decide) (fun _ => ?_) (fun z0 => ?_)
  · refine G_goto (tgt := 3388) dL_law_1835 (by decide) ?_
    exact G_wid (by omega) (by omega) (G_lv2 (ih M2 _ hC2 hG2 hO) ⟨rfl, rfl, rfl, rfl, rfl, rfl, trivial⟩)
  · have q0 : (qRefusals g (xs (i + 1))).1 = 0 := nI0 (bl_qRefusals) z0
    have eo : M2.2.1 = M1.2.1 := congrArg Prod.fst hf2.1.1
    have el : M2.2.1 = v.toInt64 := by rw [eo, ev q0]; exact e1 q0
    refine G_aload_n dL_law_1823 rfl ?_
    refine G_iconst (v := 0) dL_law_1824 (by decide) ?_
    refine G_lald dL_law_1825 ?_
    refine G_iload dL_law_1826 rfl ?_
    refine G_i2l dL_law_1828 ?_
    refine G_lcmpE dL_law_1829 el ?_
    refine G_if_eq (tgt := 1835) dL_law_1830 (by decide) (fun _ => ?_) (fun z => absurd rfl z)
    refine G_goto (tgt := 3388) dL_law_1835 (by decide) ?_
    exact G_wid (by omega) (by omega) (G_lv2 (ih M2 _ hC2 hG2 hO) ⟨rfl, rfl, rfl, rfl, rfl, rfl, trivial⟩)
theorem l_gap (hX : hSc E C a L xs) (hi : i + 5 ≤ L) (hL : L ≤ 2560) (hcs : cs + 4 ≤ 601024) (hss : ss + 24 ≤ 7293034) (hC : CG M g) (hG : MG M g) (hO : Okg g) (ih : ∀ (M' : Mm) (g' : Gs), CG M' g' → MG M' g' → Okg g' → G E C RL cL_law zLw P (cs + 4) (ss + 24) M' 3388 (lvL E a i) []) : G E C RL cL_law zLw P cs ss M 1838 (lvL E a i) [] := by
  refine G_aload_n dL_law_1838 rfl ?_
  refine cv_L_253 (cs' := cs) (ss' := ss) dL_law_1839 (Nat.le_of_ble_eq_true rfl) (Nat.le_of_ble_eq_true rfl) (Nat.le_of_ble_eq_true rfl) rfl rfl (by show cs ≤ 601024; omega) (by show ss ≤ 7293034; omega) rfl ?_
  refine s_X8_gap hC (hGo_i ?_)
  refine G_aload_n dL_law_1842 rfl ?_
  refine cv_L_256 (cs' := cs) (ss' := ss) dL_law_1843 (Nat.le_of_ble_eq_true rfl) (Nat.le_of_ble_eq_true rfl) (Nat.le_of_ble_eq_true rfl) rfl rfl (by show cs ≤ 601024; omega) (by show ss ≤ 7293034; omega) rfl ?_
  refine m_gap hG hO (fun M2 hG2 hf2 _ => hGo_i ?_)
  have hC2 := hC.fm hf2
  refine G_icmp_eq (tgt := 3388) dL_law_1846 (by decide) (fun _ => ?_) (fun z => absurd rfl z)
  exact G_wid (by omega) (by omega) (G_lv2 (ih M2 _ hC2 hG2 hO) ⟨rfl, rfl, rfl, rfl, rfl, rfl, trivial⟩)
theorem l_meanMarks (hX : hSc E C a L xs) (hi : i + 5 ≤ L) (hL : L ≤ 2560) (hcs : cs + 4 ≤ 601024) (hss : ss + 24 ≤ 7293034) (hC : CG M g) (hG : MG M g) (hO : Okg g) (ih : ∀ (M' : Mm) (g' : Gs), CG M' g' → MG M' g' → Okg g' → G E C RL cL_law zLw P (cs + 4) (ss + 24) M' 3388 (lvL E a i) []) : G E C RL cL_law zLw P cs ss M 1851 (lvL E a i) [] := by
  refine G_aload_n dL_law_1851 rfl ?_
  refine cv_L_257 (cs' := cs) (ss' := ss) dL_law_1852 (Nat.le_of_ble_eq_true rfl) (Nat.le_of_ble_eq_true rfl) (Nat.le_of_ble_eq_true rfl) rfl rfl (by show cs ≤ 601024; omega) (by show ss ≤ 7293034; omega) rfl ?_
  refine s_X8_meanMarks hC hO (hGo_d ?_)
  refine G_dstore dL_law_1855 (Nat.le_of_ble_eq_true rfl) rfl ?_
  refine G_aload_n dL_law_1857 rfl ?_
  refine cv_L_261 (cs' := cs) (ss' := ss) dL_law_1858 (Nat.le_of_ble_eq_true rfl) (Nat.le_of_ble_eq_true rfl) (Nat.le_of_ble_eq_true rfl) rfl rfl (by show cs ≤ 601024; omega) (by show ss ≤ 7293034; omega) rfl ?_
  refine m_meanMarks hG hO (fun M2 hG2 hf2 _ => hGo_d ?_)
  have hC2 := hC.fm hf2
  refine G_dstore dL_law_1861 (Nat.le_of_ble_eq_true rfl) rfl ?_
  refine G_dload dL_law_1863 rfl ?_
  refine G_dload dL_law_1865 rfl ?_
  refine G_dcmpE dL_law_1867 (qn64 (nI_ne0 (by have := hO.1.1; omega) (by have := hO.1.1; omega))) ?_
  refine G_if_eq (tgt := 1889) dL_law_1868 (by decide) (fun _ => ?_) (fun z => absurd rfl z)
  refine G_goto (tgt := 3388) dL_law_1889 (by decide) ?_
  exact G_wid (by omega) (by omega) (G_lv2 (ih M2 _ hC2 hG2 hO) ⟨rfl, rfl, rfl, rfl, rfl, rfl, trivial⟩)
theorem l_ownShare (hX : hSc E C a L xs) (hi : i + 5 ≤ L) (hL : L ≤ 2560) (hcs : cs + 4 ≤ 601024) (hss : ss + 24 ≤ 7293034) (hC : CG M g) (hG : MG M g) (hO : Okg g) (ih : ∀ (M' : Mm) (g' : Gs), CG M' g' → MG M' g' → Okg g' → G E C RL cL_law zLw P (cs + 4) (ss + 24) M' 3388 (lvL E a i) []) : G E C RL cL_law zLw P cs ss M 1892 (lvL E a i) [] := by
  refine G_aload_n dL_law_1892 rfl ?_
  refine G_aload_n dL_law_1893 rfl ?_
  refine G_iload dL_law_1894 rfl ?_
  refine G_iconst (v := 1) dL_law_1896 (by decide) ?_
  refine G_iadd dL_law_1897 ?_
  refine G_sld dL_law_1898 hX (show nI i + 1 = nI (i + 1) from nI_add i 1) (by omega) (by omega) ?_
  refine G_aload dL_law_1899 rfl ?_
  refine G_callSH (n := 3) (as := [.ref (ad E 0 0 0), .int (xs (i + 1)), .ref (ad E 28 0 0)]) (rest := []) (cs' := cs + 1) (ss' := ss + 6) dL_law_1901 lkw_262 rfl rfl (Nat.le_of_ble_eq_true rfl) (Nat.le_of_ble_eq_true rfl) (Nat.le_of_ble_eq_true rfl) rfl rfl (by show cs + 1 ≤ 601024; omega) (by show ss + 6 ≤ 7293034; omega) rfl ?_
  refine w_ownShare hC hO hG (fun M1 hC1 hG1 e1 => hGo_i ?_)
  refine G_istore dL_law_1904 (Nat.le_of_ble_eq_true rfl) ?_
  refine G_aload_n dL_law_1906 rfl ?_
  refine G_aload_n dL_law_1907 rfl ?_
  refine G_iload dL_law_1908 rfl ?_
  refine G_iconst (v := 1) dL_law_1910 (by decide) ?_
  refine G_iadd dL_law_1911 ?_
  refine G_sld dL_law_1912 hX (show nI i + 1 = nI (i + 1) from nI_add i 1) (by omega) (by omega) ?_
  refine cv_L_265 (cs' := cs + 1) (ss' := ss + 6) dL_law_1913 (Nat.le_of_ble_eq_true rfl) (Nat.le_of_ble_eq_true rfl) (Nat.le_of_ble_eq_true rfl) rfl rfl (by show cs + 1 ≤ 601024; omega) (by show ss + 6 ≤ 7293034; omega) rfl ?_
  refine m_ownShare hG1 hO (fun M2 v hG2 hf2 et ev => hGo_f ?_)
  have hC2 := hC1.fm hf2
  refine G_fstore dL_law_1916 (Nat.le_of_ble_eq_true rfl) ?_
  refine G_aload_n dL_law_1918 rfl ?_
  refine cv_L_165 (cs' := cs + 1) (ss' := ss + 6) dL_law_1919 (Nat.le_of_ble_eq_true rfl) (Nat.le_of_ble_eq_true rfl) (Nat.le_of_ble_eq_true rfl) rfl rfl (by show cs + 1 ≤ 601024; omega) (by show ss + 6 ≤ 7293034; omega) rfl ?_
  refine m_thrown (hGo_i ?_)
  rw [et]
  refine G_iload dL_law_1922 rfl ?_
  refine G_icmp_eq (tgt := 1929) dL_law_1924 (by decide) (fun _ => ?_) (fun z => absurd rfl z)
  refine G_iload dL_law_1929 rfl ?_
  refine G_if_ne (tgt := 1967) dL_law_1931 (by decide) (fun _ => ?_) (fun z0 => ?_)
  · refine G_goto (tgt := 3388) dL_law_1967 (by decide) ?_
    exact G_wid (by omega) (by omega) (G_lv2 (ih M2 _ hC2 hG2 hO) ⟨rfl, rfl, rfl, rfl, rfl, rfl, trivial⟩)
  · have q0 : inP g.A (xs (i + 1)) := by
      by_cases q : inP g.A (xs (i + 1))
      · exact q
      · rw [if_neg q] at z0
        exact absurd z0 (by decide)
    obtain ⟨p, hp, ep, -⟩ := in_ix q0 (by have := hO.1.1.2; omega)
    have eo : M2.2.2 = FP.f2d v := by rw [ev p hp ep, show M2.2.2 = M1.2.2 from congrArg Prod.snd hf2.1.1]; exact e1 p hp ep
    have hn : vf_n64 (FP.f2d v) := by rw [ev p hp ep]; exact f2dn (own_n hO.1 hp)
    refine G_aload dL_law_1934 rfl ?_
    refine G_iconst (v := 0) dL_law_1936 (by decide) ?_
    refine G_dald dL_law_1937 ?_
    refine G_fload dL_law_1938 rfl ?_
    refine G_f2d dL_law_1940 hn ?_
    rw [eo]
    refine G_dcmpE dL_law_1941 hn ?_
    refine G_if_eq (tgt := 1967) dL_law_1942 (by decide) (fun _ => ?_) (fun z => absurd rfl z)
    refine G_goto (tgt := 3388) dL_law_1967 (by decide) ?_
    exact G_wid (by omega) (by omega) (G_lv2 (ih M2 _ hC2 hG2 hO) ⟨rfl, rfl, rfl, rfl, rfl, rfl, trivial⟩)
theorem bl_qCouldMake {x y : Int32} : (qCouldMake g x y).1 < 3 := by rcases @b_qCouldMake g x y with b | b | b <;> omega
theorem l_couldMake (hX : hSc E C a L xs) (hi : i + 5 ≤ L) (hL : L ≤ 2560) (hcs : cs + 4 ≤ 601024) (hss : ss + 24 ≤ 7293034) (hC : CG M g) (hG : MG M g) (hO : Okg g) (ih : ∀ (M' : Mm) (g' : Gs), CG M' g' → MG M' g' → Okg g' → G E C RL cL_law zLw P (cs + 4) (ss + 24) M' 3388 (lvL E a i) []) : G E C RL cL_law zLw P cs ss M 1970 (lvL E a i) [] := by
  refine G_aload_n dL_law_1970 rfl ?_
  refine G_aload_n dL_law_1971 rfl ?_
  refine G_iload dL_law_1972 rfl ?_
  refine G_iconst (v := 1) dL_law_1974 (by decide) ?_
  refine G_iadd dL_law_1975 ?_
  refine G_sld dL_law_1976 hX (show nI i + 1 = nI (i + 1) from nI_add i 1) (by omega) (by omega) ?_
  refine G_aload_n dL_law_1977 rfl ?_
  refine G_iload dL_law_1978 rfl ?_
  refine G_iconst (v := 2) dL_law_1980 (by decide) ?_
  refine G_iadd dL_law_1981 ?_
  refine G_sld dL_law_1982 hX (show nI i + 2 = nI (i + 2) from nI_add i 2) (by omega) (by omega) ?_
  refine G_aload_n dL_law_1983 rfl ?_
  refine G_callSH (n := 4) (as := [.ref (ad E 0 0 0), .int (xs (i + 1)), .int (xs (i + 2)), .ref (ad E 27 0 0)]) (rest := []) (cs' := cs + 2) (ss' := ss + 12) dL_law_1984 lkw_266 rfl rfl (Nat.le_of_ble_eq_true rfl) (Nat.le_of_ble_eq_true rfl) (Nat.le_of_ble_eq_true rfl) rfl rfl (by show cs + 2 ≤ 601024; omega) (by show ss + 12 ≤ 7293034; omega) rfl ?_
  refine w_couldMake hC hO hG (fun M1 hC1 hG1 e1 => hGo_i ?_)
  refine G_istore dL_law_1987 (Nat.le_of_ble_eq_true rfl) ?_
  refine G_aload_n dL_law_1989 rfl ?_
  refine G_aload_n dL_law_1990 rfl ?_
  refine G_iload dL_law_1991 rfl ?_
  refine G_iconst (v := 1) dL_law_1993 (by decide) ?_
  refine G_iadd dL_law_1994 ?_
  refine G_sld dL_law_1995 hX (show nI i + 1 = nI (i + 1) from nI_add i 1) (by omega) (by omega) ?_
  refine G_aload_n dL_law_1996 rfl ?_
  refine G_iload dL_law_1997 rfl ?_
  refine G_iconst (v := 2) dL_law_1999 (by decide) ?_
  refine G_iadd dL_law_2000 ?_
  refine G_sld dL_law_2001 hX (show nI i + 2 = nI (i + 2) from nI_add i 2) (by omega) (by omega) ?_
  refine cv_L_268 (cs' := cs + 2) (ss' := ss + 12) dL_law_2002 (Nat.le_of_ble_eq_true rfl) (Nat.le_of_ble_eq_true rfl) (Nat.le_of_ble_eq_true rfl) rfl rfl (by show cs + 2 ≤ 601024; omega) (by show ss + 12 ≤ 7293034; omega) rfl ?_
  refine m_couldMake hG1 hO (fun M2 v hG2 hf2 et ev => hGo_i ?_)
  have hC2 := hC1.fm hf2
  refine G_istore dL_law_2005 (Nat.le_of_ble_eq_true rfl) ?_
  refine G_aload_n dL_law_2007 rfl ?_
  refine cv_L_165 (cs' := cs + 2) (ss' := ss + 12) dL_law_2008 (Nat.le_of_ble_eq_true rfl) (Nat.le_of_ble_eq_true rfl) (Nat.le_of_ble_eq_true rfl) rfl rfl (by show cs + 2 ≤ 601024; omega) (by show ss + 12 ≤ 7293034; omega) rfl ?_
  refine m_thrown (hGo_i ?_)
  rw [et]
  refine G_iload dL_law_2011 rfl ?_
  refine G_icmp_eq (tgt := 2018) dL_law_2013 (by decide) (fun _ => ?_) (fun z => absurd rfl z)
  refine G_iload dL_law_2018 rfl ?_
  refine G_if_ne (tgt := 2035) dL_law_2020 (by decide) (fun _ => ?_) (fun z0 => ?_)
  · refine G_goto (tgt := 3388) dL_law_2035 (by decide) ?_
    exact G_wid (by omega) (by omega) (G_lv2 (ih M2 _ hC2 hG2 hO) ⟨rfl, rfl, rfl, rfl, rfl, rfl, trivial⟩)
  · have q0 : (qCouldMake g (xs (i + 1)) (xs (i + 2))).1 = 0 := nI0 (bl_qCouldMake) z0
    have eo : M2.2.1 = M1.2.1 := congrArg Prod.fst hf2.1.1
    have el : M2.2.1 = v.toInt64 := by rw [eo, ev q0]; exact e1 q0
    refine G_aload_n dL_law_2023 rfl ?_
    refine G_iconst (v := 0) dL_law_2024 (by decide) ?_
    refine G_lald dL_law_2025 ?_
    refine G_iload dL_law_2026 rfl ?_
    refine G_i2l dL_law_2028 ?_
    refine G_lcmpE dL_law_2029 el ?_
    refine G_if_eq (tgt := 2035) dL_law_2030 (by decide) (fun _ => ?_) (fun z => absurd rfl z)
    refine G_goto (tgt := 3388) dL_law_2035 (by decide) ?_
    exact G_wid (by omega) (by omega) (G_lv2 (ih M2 _ hC2 hG2 hO) ⟨rfl, rfl, rfl, rfl, rfl, rfl, trivial⟩)
theorem bl_qIfWeek {x y : Int32} : (qIfWeek g x y).1 < 3 := by rcases @b_qIfWeek g x y with b | b | b <;> omega
theorem l_ifWeek (hX : hSc E C a L xs) (hi : i + 5 ≤ L) (hL : L ≤ 2560) (hcs : cs + 4 ≤ 601024) (hss : ss + 24 ≤ 7293034) (hC : CG M g) (hG : MG M g) (hO : Okg g) (ih : ∀ (M' : Mm) (g' : Gs), CG M' g' → MG M' g' → Okg g' → G E C RL cL_law zLw P (cs + 4) (ss + 24) M' 3388 (lvL E a i) []) : G E C RL cL_law zLw P cs ss M 2038 (lvL E a i) [] := by
  refine G_aload_n dL_law_2038 rfl ?_
  refine G_aload_n dL_law_2039 rfl ?_
  refine G_iload dL_law_2040 rfl ?_
  refine G_iconst (v := 1) dL_law_2042 (by decide) ?_
  refine G_iadd dL_law_2043 ?_
  refine G_sld dL_law_2044 hX (show nI i + 1 = nI (i + 1) from nI_add i 1) (by omega) (by omega) ?_
  refine G_aload_n dL_law_2045 rfl ?_
  refine G_iload dL_law_2046 rfl ?_
  refine G_iconst (v := 2) dL_law_2048 (by decide) ?_
  refine G_iadd dL_law_2049 ?_
  refine G_sld dL_law_2050 hX (show nI i + 2 = nI (i + 2) from nI_add i 2) (by omega) (by omega) ?_
  refine G_aload_n dL_law_2051 rfl ?_
  refine G_callSH (n := 4) (as := [.ref (ad E 0 0 0), .int (xs (i + 1)), .int (xs (i + 2)), .ref (ad E 27 0 0)]) (rest := []) (cs' := cs + 2) (ss' := ss + 12) dL_law_2052 lkw_269 rfl rfl (Nat.le_of_ble_eq_true rfl) (Nat.le_of_ble_eq_true rfl) (Nat.le_of_ble_eq_true rfl) rfl rfl (by show cs + 2 ≤ 601024; omega) (by show ss + 12 ≤ 7293034; omega) rfl ?_
  refine w_ifWeek hC hO hG (fun M1 hC1 hG1 e1 => hGo_i ?_)
  refine G_istore dL_law_2055 (Nat.le_of_ble_eq_true rfl) ?_
  refine G_aload_n dL_law_2057 rfl ?_
  refine G_aload_n dL_law_2058 rfl ?_
  refine G_iload dL_law_2059 rfl ?_
  refine G_iconst (v := 1) dL_law_2061 (by decide) ?_
  refine G_iadd dL_law_2062 ?_
  refine G_sld dL_law_2063 hX (show nI i + 1 = nI (i + 1) from nI_add i 1) (by omega) (by omega) ?_
  refine G_aload_n dL_law_2064 rfl ?_
  refine G_iload dL_law_2065 rfl ?_
  refine G_iconst (v := 2) dL_law_2067 (by decide) ?_
  refine G_iadd dL_law_2068 ?_
  refine G_sld dL_law_2069 hX (show nI i + 2 = nI (i + 2) from nI_add i 2) (by omega) (by omega) ?_
  refine cv_L_271 (cs' := cs + 2) (ss' := ss + 12) dL_law_2070 (Nat.le_of_ble_eq_true rfl) (Nat.le_of_ble_eq_true rfl) (Nat.le_of_ble_eq_true rfl) rfl rfl (by show cs + 2 ≤ 601024; omega) (by show ss + 12 ≤ 7293034; omega) rfl ?_
  refine m_ifWeek hG1 hO (fun M2 v hG2 hf2 et ev => hGo_i ?_)
  have hC2 := hC1.fm hf2
  refine G_istore dL_law_2073 (Nat.le_of_ble_eq_true rfl) ?_
  refine G_aload_n dL_law_2075 rfl ?_
  refine cv_L_165 (cs' := cs + 2) (ss' := ss + 12) dL_law_2076 (Nat.le_of_ble_eq_true rfl) (Nat.le_of_ble_eq_true rfl) (Nat.le_of_ble_eq_true rfl) rfl rfl (by show cs + 2 ≤ 601024; omega) (by show ss + 12 ≤ 7293034; omega) rfl ?_
  refine m_thrown (hGo_i ?_)
  rw [et]
  refine G_iload dL_law_2079 rfl ?_
  refine G_icmp_eq (tgt := 2086) dL_law_2081 (by decide) (fun _ => ?_) (fun z => absurd rfl z)
  refine G_iload dL_law_2086 rfl ?_
  refine G_if_ne (tgt := 2103) dL_law_2088 (by decide) (fun _ => ?_) (fun z0 => ?_)
  · refine G_goto (tgt := 3388) dL_law_2103 (by decide) ?_
    exact G_wid (by omega) (by omega) (G_lv2 (ih M2 _ hC2 hG2 hO) ⟨rfl, rfl, rfl, rfl, rfl, rfl, trivial⟩)
  · have q0 : (qIfWeek g (xs (i + 1)) (xs (i + 2))).1 = 0 := nI0 (bl_qIfWeek) z0
    have eo : M2.2.1 = M1.2.1 := congrArg Prod.fst hf2.1.1
    have el : M2.2.1 = v.toInt64 := by rw [eo, ev q0]; exact e1 q0
    refine G_aload_n dL_law_2091 rfl ?_
    refine G_iconst (v := 0) dL_law_2092 (by decide) ?_
    refine G_lald dL_law_2093 ?_
    refine G_iload dL_law_2094 rfl ?_
    refine G_i2l dL_law_2096 ?_
    refine G_lcmpE dL_law_2097 el ?_
    refine G_if_eq (tgt := 2103) dL_law_2098 (by decide) (fun _ => ?_) (fun z => absurd rfl z)
    refine G_goto (tgt := 3388) dL_law_2103 (by decide) ?_
    exact G_wid (by omega) (by omega) (G_lv2 (ih M2 _ hC2 hG2 hO) ⟨rfl, rfl, rfl, rfl, rfl, rfl, trivial⟩)
theorem bl_qIfPassed {x y : Int32} : (qIfPassed g x y).1 < 3 := by rcases @b_qIfPassed g x y with b | b <;> omega
theorem l_ifPassed (hX : hSc E C a L xs) (hi : i + 5 ≤ L) (hL : L ≤ 2560) (hcs : cs + 4 ≤ 601024) (hss : ss + 24 ≤ 7293034) (hC : CG M g) (hG : MG M g) (hO : Okg g) (ih : ∀ (M' : Mm) (g' : Gs), CG M' g' → MG M' g' → Okg g' → G E C RL cL_law zLw P (cs + 4) (ss + 24) M' 3388 (lvL E a i) []) : G E C RL cL_law zLw P cs ss M 2106 (lvL E a i) [] := by
  refine G_aload_n dL_law_2106 rfl ?_
  refine G_aload_n dL_law_2107 rfl ?_
  refine G_iload dL_law_2108 rfl ?_
  refine G_iconst (v := 1) dL_law_2110 (by decide) ?_
  refine G_iadd dL_law_2111 ?_
  refine G_sld dL_law_2112 hX (show nI i + 1 = nI (i + 1) from nI_add i 1) (by omega) (by omega) ?_
  refine G_aload_n dL_law_2113 rfl ?_
  refine G_iload dL_law_2114 rfl ?_
  refine G_iconst (v := 2) dL_law_2116 (by decide) ?_
  refine G_iadd dL_law_2117 ?_
  refine G_sld dL_law_2118 hX (show nI i + 2 = nI (i + 2) from nI_add i 2) (by omega) (by omega) ?_
  refine G_aload_n dL_law_2119 rfl ?_
  refine G_callSH (n := 4) (as := [.ref (ad E 0 0 0), .int (xs (i + 1)), .int (xs (i + 2)), .ref (ad E 27 0 0)]) (rest := []) (cs' := cs + 2) (ss' := ss + 12) dL_law_2120 lkw_272 rfl rfl (Nat.le_of_ble_eq_true rfl) (Nat.le_of_ble_eq_true rfl) (Nat.le_of_ble_eq_true rfl) rfl rfl (by show cs + 2 ≤ 601024; omega) (by show ss + 12 ≤ 7293034; omega) rfl ?_
  refine w_ifPassed hC hO hG (fun M1 hC1 hG1 e1 => hGo_i ?_)
  refine G_istore dL_law_2123 (Nat.le_of_ble_eq_true rfl) ?_
  refine G_aload_n dL_law_2125 rfl ?_
  refine G_aload_n dL_law_2126 rfl ?_
  refine G_iload dL_law_2127 rfl ?_
  refine G_iconst (v := 1) dL_law_2129 (by decide) ?_
  refine G_iadd dL_law_2130 ?_
  refine G_sld dL_law_2131 hX (show nI i + 1 = nI (i + 1) from nI_add i 1) (by omega) (by omega) ?_
  refine G_aload_n dL_law_2132 rfl ?_
  refine G_iload dL_law_2133 rfl ?_
  refine G_iconst (v := 2) dL_law_2135 (by decide) ?_
  refine G_iadd dL_law_2136 ?_
  refine G_sld dL_law_2137 hX (show nI i + 2 = nI (i + 2) from nI_add i 2) (by omega) (by omega) ?_
  refine cv_L_274 (cs' := cs + 2) (ss' := ss + 12) dL_law_2138 (Nat.le_of_ble_eq_true rfl) (Nat.le_of_ble_eq_true rfl) (Nat.le_of_ble_eq_true rfl) rfl rfl (by show cs + 2 ≤ 601024; omega) (by show ss + 12 ≤ 7293034; omega) rfl ?_
  refine m_ifPassed hG1 hO (fun M2 v hG2 hf2 et ev => hGo_i ?_)
  have hC2 := hC1.fm hf2
  refine G_istore dL_law_2141 (Nat.le_of_ble_eq_true rfl) ?_
  refine G_aload_n dL_law_2143 rfl ?_
  refine cv_L_165 (cs' := cs + 2) (ss' := ss + 12) dL_law_2144 (Nat.le_of_ble_eq_true rfl) (Nat.le_of_ble_eq_true rfl) (Nat.le_of_ble_eq_true rfl) rfl rfl (by show cs + 2 ≤ 601024; omega) (by show ss + 12 ≤ 7293034; omega) rfl ?_
  refine m_thrown (hGo_i ?_)
  rw [et]
  refine G_iload dL_law_2147 rfl ?_
  refine G_icmp_eq (tgt := 2154) dL_law_2149 (by decide) (fun _ => ?_) (fun z => absurd rfl z)
  refine G_iload dL_law_2154 rfl ?_
  refine G_if_ne (tgt := 2171) dL_law_2156 (by decide) (fun _ => ?_) (fun z0 => ?_)
  · refine G_goto (tgt := 3388) dL_law_2171 (by decide) ?_
    exact G_wid (by omega) (by omega) (G_lv2 (ih M2 _ hC2 hG2 hO) ⟨rfl, rfl, rfl, rfl, rfl, rfl, trivial⟩)
  · have q0 : (qIfPassed g (xs (i + 1)) (xs (i + 2))).1 = 0 := nI0 (bl_qIfPassed) z0
    have eo : M2.2.1 = M1.2.1 := congrArg Prod.fst hf2.1.1
    have el : M2.2.1 = v.toInt64 := by rw [eo, ev q0]; exact e1 q0
    refine G_aload_n dL_law_2159 rfl ?_
    refine G_iconst (v := 0) dL_law_2160 (by decide) ?_
    refine G_lald dL_law_2161 ?_
    refine G_iload dL_law_2162 rfl ?_
    refine G_i2l dL_law_2164 ?_
    refine G_lcmpE dL_law_2165 el ?_
    refine G_if_eq (tgt := 2171) dL_law_2166 (by decide) (fun _ => ?_) (fun z => absurd rfl z)
    refine G_goto (tgt := 3388) dL_law_2171 (by decide) ?_
    exact G_wid (by omega) (by omega) (G_lv2 (ih M2 _ hC2 hG2 hO) ⟨rfl, rfl, rfl, rfl, rfl, rfl, trivial⟩)
theorem bl_qFreeIn {x : Int32} : (qFreeIn g x).1 < 3 := by rcases @b_qFreeIn g x with b | b <;> omega
theorem l_freeIn (hX : hSc E C a L xs) (hi : i + 5 ≤ L) (hL : L ≤ 2560) (hcs : cs + 4 ≤ 601024) (hss : ss + 24 ≤ 7293034) (hC : CG M g) (hG : MG M g) (hO : Okg g) (ih : ∀ (M' : Mm) (g' : Gs), CG M' g' → MG M' g' → Okg g' → G E C RL cL_law zLw P (cs + 4) (ss + 24) M' 3388 (lvL E a i) []) : G E C RL cL_law zLw P cs ss M 2174 (lvL E a i) [] := by
  refine G_aload_n dL_law_2174 rfl ?_
  refine G_aload_n dL_law_2175 rfl ?_
  refine G_iload dL_law_2176 rfl ?_
  refine G_iconst (v := 1) dL_law_2178 (by decide) ?_
  refine G_iadd dL_law_2179 ?_
  refine G_sld dL_law_2180 hX (show nI i + 1 = nI (i + 1) from nI_add i 1) (by omega) (by omega) ?_
  refine G_aload_n dL_law_2181 rfl ?_
  refine G_callSH (n := 3) (as := [.ref (ad E 0 0 0), .int (xs (i + 1)), .ref (ad E 27 0 0)]) (rest := []) (cs' := cs + 1) (ss' := ss + 6) dL_law_2182 lkw_275 rfl rfl (Nat.le_of_ble_eq_true rfl) (Nat.le_of_ble_eq_true rfl) (Nat.le_of_ble_eq_true rfl) rfl rfl (by show cs + 1 ≤ 601024; omega) (by show ss + 6 ≤ 7293034; omega) rfl ?_
  refine w_freeIn hC hO hG (fun M1 hC1 hG1 e1 => hGo_i ?_)
  refine G_istore dL_law_2185 (Nat.le_of_ble_eq_true rfl) ?_
  refine G_aload_n dL_law_2187 rfl ?_
  refine G_aload_n dL_law_2188 rfl ?_
  refine G_iload dL_law_2189 rfl ?_
  refine G_iconst (v := 1) dL_law_2191 (by decide) ?_
  refine G_iadd dL_law_2192 ?_
  refine G_sld dL_law_2193 hX (show nI i + 1 = nI (i + 1) from nI_add i 1) (by omega) (by omega) ?_
  refine cv_L_277 (cs' := cs + 1) (ss' := ss + 6) dL_law_2194 (Nat.le_of_ble_eq_true rfl) (Nat.le_of_ble_eq_true rfl) (Nat.le_of_ble_eq_true rfl) rfl rfl (by show cs + 1 ≤ 601024; omega) (by show ss + 6 ≤ 7293034; omega) rfl ?_
  refine m_freeIn hG1 hO (fun M2 v hG2 hf2 et ev => hGo_i ?_)
  have hC2 := hC1.fm hf2
  refine G_istore dL_law_2197 (Nat.le_of_ble_eq_true rfl) ?_
  refine G_aload_n dL_law_2199 rfl ?_
  refine cv_L_165 (cs' := cs + 1) (ss' := ss + 6) dL_law_2200 (Nat.le_of_ble_eq_true rfl) (Nat.le_of_ble_eq_true rfl) (Nat.le_of_ble_eq_true rfl) rfl rfl (by show cs + 1 ≤ 601024; omega) (by show ss + 6 ≤ 7293034; omega) rfl ?_
  refine m_thrown (hGo_i ?_)
  rw [et]
  refine G_iload dL_law_2203 rfl ?_
  refine G_icmp_eq (tgt := 2210) dL_law_2205 (by decide) (fun _ => ?_) (fun z => absurd rfl z)
  refine G_iload dL_law_2210 rfl ?_
  refine G_if_ne (tgt := 2227) dL_law_2212 (by decide) (fun _ => ?_) (fun z0 => ?_)
  · refine G_goto (tgt := 3388) dL_law_2227 (by decide) ?_
    exact G_wid (by omega) (by omega) (G_lv2 (ih M2 _ hC2 hG2 hO) ⟨rfl, rfl, rfl, rfl, rfl, rfl, trivial⟩)
  · have q0 : (qFreeIn g (xs (i + 1))).1 = 0 := nI0 (bl_qFreeIn) z0
    have eo : M2.2.1 = M1.2.1 := congrArg Prod.fst hf2.1.1
    have el : M2.2.1 = v.toInt64 := by rw [eo, ev q0]; exact e1 q0
    refine G_aload_n dL_law_2215 rfl ?_
    refine G_iconst (v := 0) dL_law_2216 (by decide) ?_
    refine G_lald dL_law_2217 ?_
    refine G_iload dL_law_2218 rfl ?_
    refine G_i2l dL_law_2220 ?_
    refine G_lcmpE dL_law_2221 el ?_
    refine G_if_eq (tgt := 2227) dL_law_2222 (by decide) (fun _ => ?_) (fun z => absurd rfl z)
    refine G_goto (tgt := 3388) dL_law_2227 (by decide) ?_
    exact G_wid (by omega) (by omega) (G_lv2 (ih M2 _ hC2 hG2 hO) ⟨rfl, rfl, rfl, rfl, rfl, rfl, trivial⟩)
theorem bl_qIfMoved {x y z' : Int32} : (qIfMoved g x y z').1 < 3 := by rcases @b_qIfMoved g x y z' with b | b | b <;> omega
theorem l_ifMoved (hX : hSc E C a L xs) (hi : i + 5 ≤ L) (hL : L ≤ 2560) (hcs : cs + 4 ≤ 601024) (hss : ss + 24 ≤ 7293034) (hC : CG M g) (hG : MG M g) (hO : Okg g) (ih : ∀ (M' : Mm) (g' : Gs), CG M' g' → MG M' g' → Okg g' → G E C RL cL_law zLw P (cs + 4) (ss + 24) M' 3388 (lvL E a i) []) : G E C RL cL_law zLw P cs ss M 2230 (lvL E a i) [] := by
  refine G_aload_n dL_law_2230 rfl ?_
  refine G_aload_n dL_law_2231 rfl ?_
  refine G_iload dL_law_2232 rfl ?_
  refine G_iconst (v := 1) dL_law_2234 (by decide) ?_
  refine G_iadd dL_law_2235 ?_
  refine G_sld dL_law_2236 hX (show nI i + 1 = nI (i + 1) from nI_add i 1) (by omega) (by omega) ?_
  refine G_aload_n dL_law_2237 rfl ?_
  refine G_iload dL_law_2238 rfl ?_
  refine G_iconst (v := 2) dL_law_2240 (by decide) ?_
  refine G_iadd dL_law_2241 ?_
  refine G_sld dL_law_2242 hX (show nI i + 2 = nI (i + 2) from nI_add i 2) (by omega) (by omega) ?_
  refine G_aload_n dL_law_2243 rfl ?_
  refine G_iload dL_law_2244 rfl ?_
  refine G_iconst (v := 3) dL_law_2246 (by decide) ?_
  refine G_iadd dL_law_2247 ?_
  refine G_sld dL_law_2248 hX (show nI i + 3 = nI (i + 3) from nI_add i 3) (by omega) (by omega) ?_
  refine G_aload_n dL_law_2249 rfl ?_
  refine G_callSH (n := 5) (as := [.ref (ad E 0 0 0), .int (xs (i + 1)), .int (xs (i + 2)), .int (xs (i + 3)), .ref (ad E 27 0 0)]) (rest := []) (cs' := cs + 3) (ss' := ss + 18) dL_law_2250 lkw_278 rfl rfl (Nat.le_of_ble_eq_true rfl) (Nat.le_of_ble_eq_true rfl) (Nat.le_of_ble_eq_true rfl) rfl rfl (by show cs + 3 ≤ 601024; omega) (by show ss + 18 ≤ 7293034; omega) rfl ?_
  refine w_ifMoved hC hO hG (fun M1 hC1 hG1 e1 => hGo_i ?_)
  refine G_istore dL_law_2253 (Nat.le_of_ble_eq_true rfl) ?_
  refine G_aload_n dL_law_2255 rfl ?_
  refine G_aload_n dL_law_2256 rfl ?_
  refine G_iload dL_law_2257 rfl ?_
  refine G_iconst (v := 1) dL_law_2259 (by decide) ?_
  refine G_iadd dL_law_2260 ?_
  refine G_sld dL_law_2261 hX (show nI i + 1 = nI (i + 1) from nI_add i 1) (by omega) (by omega) ?_
  refine G_aload_n dL_law_2262 rfl ?_
  refine G_iload dL_law_2263 rfl ?_
  refine G_iconst (v := 2) dL_law_2265 (by decide) ?_
  refine G_iadd dL_law_2266 ?_
  refine G_sld dL_law_2267 hX (show nI i + 2 = nI (i + 2) from nI_add i 2) (by omega) (by omega) ?_
  refine G_aload_n dL_law_2268 rfl ?_
  refine G_iload dL_law_2269 rfl ?_
  refine G_iconst (v := 3) dL_law_2271 (by decide) ?_
  refine G_iadd dL_law_2272 ?_
  refine G_sld dL_law_2273 hX (show nI i + 3 = nI (i + 3) from nI_add i 3) (by omega) (by omega) ?_
  refine cv_L_280 (cs' := cs + 3) (ss' := ss + 18) dL_law_2274 (Nat.le_of_ble_eq_true rfl) (Nat.le_of_ble_eq_true rfl) (Nat.le_of_ble_eq_true rfl) rfl rfl (by show cs + 3 ≤ 601024; omega) (by show ss + 18 ≤ 7293034; omega) rfl ?_
  refine m_ifMoved hG1 hO (fun M2 v hG2 hf2 et ev => hGo_i ?_)
  have hC2 := hC1.fm hf2
  refine G_istore dL_law_2277 (Nat.le_of_ble_eq_true rfl) ?_
  refine G_aload_n dL_law_2279 rfl ?_
  refine cv_L_165 (cs' := cs + 3) (ss' := ss + 18) dL_law_2280 (Nat.le_of_ble_eq_true rfl) (Nat.le_of_ble_eq_true rfl) (Nat.le_of_ble_eq_true rfl) rfl rfl (by show cs + 3 ≤ 601024; omega) (by show ss + 18 ≤ 7293034; omega) rfl ?_
  refine m_thrown (hGo_i ?_)
  rw [et]
  refine G_iload dL_law_2283 rfl ?_
  refine G_icmp_eq (tgt := 2290) dL_law_2285 (by decide) (fun _ => ?_) (fun z => absurd rfl z)
  refine G_iload dL_law_2290 rfl ?_
  refine G_if_ne (tgt := 2307) dL_law_2292 (by decide) (fun _ => ?_) (fun z0 => ?_)
  · refine G_goto (tgt := 3388) dL_law_2307 (by decide) ?_
    exact G_wid (by omega) (by omega) (G_lv2 (ih M2 _ hC2 hG2 hO) ⟨rfl, rfl, rfl, rfl, rfl, rfl, trivial⟩)
  · have q0 : (qIfMoved g (xs (i + 1)) (xs (i + 2)) (xs (i + 3))).1 = 0 := nI0 (bl_qIfMoved) z0
    have eo : M2.2.1 = M1.2.1 := congrArg Prod.fst hf2.1.1
    have el : M2.2.1 = v.toInt64 := by rw [eo, ev q0]; exact e1 q0
    refine G_aload_n dL_law_2295 rfl ?_
    refine G_iconst (v := 0) dL_law_2296 (by decide) ?_
    refine G_lald dL_law_2297 ?_
    refine G_iload dL_law_2298 rfl ?_
    refine G_i2l dL_law_2300 ?_
    refine G_lcmpE dL_law_2301 el ?_
    refine G_if_eq (tgt := 2307) dL_law_2302 (by decide) (fun _ => ?_) (fun z => absurd rfl z)
    refine G_goto (tgt := 3388) dL_law_2307 (by decide) ?_
    exact G_wid (by omega) (by omega) (G_lv2 (ih M2 _ hC2 hG2 hO) ⟨rfl, rfl, rfl, rfl, rfl, rfl, trivial⟩)
theorem bl_qWhySwap {x y n m : Int32} : (qWhySwap g x y n m).1 < 3 := by rcases @b_qWhySwap g x y n m with b | b | b <;> omega
theorem l_whySwap (hX : hSc E C a L xs) (hi : i + 5 ≤ L) (hL : L ≤ 2560) (hcs : cs + 4 ≤ 601024) (hss : ss + 24 ≤ 7293034) (hC : CG M g) (hG : MG M g) (hO : Okg g) (ih : ∀ (M' : Mm) (g' : Gs), CG M' g' → MG M' g' → Okg g' → G E C RL cL_law zLw P (cs + 4) (ss + 24) M' 3388 (lvL E a i) []) : G E C RL cL_law zLw P cs ss M 2310 (lvL E a i) [] := by
  refine G_aload_n dL_law_2310 rfl ?_
  refine G_aload_n dL_law_2311 rfl ?_
  refine G_iload dL_law_2312 rfl ?_
  refine G_iconst (v := 1) dL_law_2314 (by decide) ?_
  refine G_iadd dL_law_2315 ?_
  refine G_sld dL_law_2316 hX (show nI i + 1 = nI (i + 1) from nI_add i 1) (by omega) (by omega) ?_
  refine G_aload_n dL_law_2317 rfl ?_
  refine G_iload dL_law_2318 rfl ?_
  refine G_iconst (v := 2) dL_law_2320 (by decide) ?_
  refine G_iadd dL_law_2321 ?_
  refine G_sld dL_law_2322 hX (show nI i + 2 = nI (i + 2) from nI_add i 2) (by omega) (by omega) ?_
  refine G_aload_n dL_law_2323 rfl ?_
  refine G_iload dL_law_2324 rfl ?_
  refine G_iconst (v := 3) dL_law_2326 (by decide) ?_
  refine G_iadd dL_law_2327 ?_
  refine G_sld dL_law_2328 hX (show nI i + 3 = nI (i + 3) from nI_add i 3) (by omega) (by omega) ?_
  refine G_aload_n dL_law_2329 rfl ?_
  refine G_iload dL_law_2330 rfl ?_
  refine G_iconst (v := 4) dL_law_2332 (by decide) ?_
  refine G_iadd dL_law_2333 ?_
  refine G_sld dL_law_2334 hX (show nI i + 4 = nI (i + 4) from nI_add i 4) (by omega) (by omega) ?_
  refine G_aload_n dL_law_2335 rfl ?_
  refine G_callSH (n := 6) (as := [.ref (ad E 0 0 0), .int (xs (i + 1)), .int (xs (i + 2)), .int (xs (i + 3)), .int (xs (i + 4)), .ref (ad E 27 0 0)]) (rest := []) (cs' := cs + 4) (ss' := ss + 24) dL_law_2336 lkw_281 rfl rfl (Nat.le_of_ble_eq_true rfl) (Nat.le_of_ble_eq_true rfl) (Nat.le_of_ble_eq_true rfl) rfl rfl (by show cs + 4 ≤ 601024; omega) (by show ss + 24 ≤ 7293034; omega) rfl ?_
  refine w_whySwap hC hO hG (fun M1 hC1 hG1 e1 => hGo_i ?_)
  refine G_istore dL_law_2339 (Nat.le_of_ble_eq_true rfl) ?_
  refine G_aload_n dL_law_2341 rfl ?_
  refine G_aload_n dL_law_2342 rfl ?_
  refine G_iload dL_law_2343 rfl ?_
  refine G_iconst (v := 1) dL_law_2345 (by decide) ?_
  refine G_iadd dL_law_2346 ?_
  refine G_sld dL_law_2347 hX (show nI i + 1 = nI (i + 1) from nI_add i 1) (by omega) (by omega) ?_
  refine G_aload_n dL_law_2348 rfl ?_
  refine G_iload dL_law_2349 rfl ?_
  refine G_iconst (v := 2) dL_law_2351 (by decide) ?_
  refine G_iadd dL_law_2352 ?_
  refine G_sld dL_law_2353 hX (show nI i + 2 = nI (i + 2) from nI_add i 2) (by omega) (by omega) ?_
  refine G_aload_n dL_law_2354 rfl ?_
  refine G_iload dL_law_2355 rfl ?_
  refine G_iconst (v := 3) dL_law_2357 (by decide) ?_
  refine G_iadd dL_law_2358 ?_
  refine G_sld dL_law_2359 hX (show nI i + 3 = nI (i + 3) from nI_add i 3) (by omega) (by omega) ?_
  refine G_aload_n dL_law_2360 rfl ?_
  refine G_iload dL_law_2361 rfl ?_
  refine G_iconst (v := 4) dL_law_2363 (by decide) ?_
  refine G_iadd dL_law_2364 ?_
  refine G_sld dL_law_2365 hX (show nI i + 4 = nI (i + 4) from nI_add i 4) (by omega) (by omega) ?_
  refine cv_L_284 (cs' := cs + 4) (ss' := ss + 24) dL_law_2366 (Nat.le_of_ble_eq_true rfl) (Nat.le_of_ble_eq_true rfl) (Nat.le_of_ble_eq_true rfl) rfl rfl (by show cs + 4 ≤ 601024; omega) (by show ss + 24 ≤ 7293034; omega) rfl ?_
  refine m_whySwap hG1 hO (fun M2 v hG2 hf2 et ev => hGo_i ?_)
  have hC2 := hC1.fm hf2
  refine G_istore dL_law_2369 (Nat.le_of_ble_eq_true rfl) ?_
  refine G_aload_n dL_law_2371 rfl ?_
  refine cv_L_165 (cs' := cs + 4) (ss' := ss + 24) dL_law_2372 (Nat.le_of_ble_eq_true rfl) (Nat.le_of_ble_eq_true rfl) (Nat.le_of_ble_eq_true rfl) rfl rfl (by show cs + 4 ≤ 601024; omega) (by show ss + 24 ≤ 7293034; omega) rfl ?_
  refine m_thrown (hGo_i ?_)
  rw [et]
  refine G_iload dL_law_2375 rfl ?_
  refine G_icmp_eq (tgt := 2382) dL_law_2377 (by decide) (fun _ => ?_) (fun z => absurd rfl z)
  refine G_iload dL_law_2382 rfl ?_
  refine G_if_ne (tgt := 2399) dL_law_2384 (by decide) (fun _ => ?_) (fun z0 => ?_)
  · refine G_goto (tgt := 3388) dL_law_2399 (by decide) ?_
    exact G_wid (by omega) (by omega) (G_lv2 (ih M2 _ hC2 hG2 hO) ⟨rfl, rfl, rfl, rfl, rfl, rfl, trivial⟩)
  · have q0 : (qWhySwap g (xs (i + 1)) (xs (i + 2)) (xs (i + 3)) (xs (i + 4))).1 = 0 := nI0 (bl_qWhySwap) z0
    have eo : M2.2.1 = M1.2.1 := congrArg Prod.fst hf2.1.1
    have el : M2.2.1 = v.toInt64 := by rw [eo, ev q0]; exact e1 q0
    refine G_aload_n dL_law_2387 rfl ?_
    refine G_iconst (v := 0) dL_law_2388 (by decide) ?_
    refine G_lald dL_law_2389 ?_
    refine G_iload dL_law_2390 rfl ?_
    refine G_i2l dL_law_2392 ?_
    refine G_lcmpE dL_law_2393 el ?_
    refine G_if_eq (tgt := 2399) dL_law_2394 (by decide) (fun _ => ?_) (fun z => absurd rfl z)
    refine G_goto (tgt := 3388) dL_law_2399 (by decide) ?_
    exact G_wid (by omega) (by omega) (G_lv2 (ih M2 _ hC2 hG2 hO) ⟨rfl, rfl, rfl, rfl, rfl, rfl, trivial⟩)
theorem bl_qWhyLend {x y n m : Int32} : (qWhyLend g x y n m).1 < 3 := by rcases @b_qWhyLend g x y n m with b | b | b <;> omega
theorem l_whyLend (hX : hSc E C a L xs) (hi : i + 5 ≤ L) (hL : L ≤ 2560) (hcs : cs + 4 ≤ 601024) (hss : ss + 24 ≤ 7293034) (hC : CG M g) (hG : MG M g) (hO : Okg g) (ih : ∀ (M' : Mm) (g' : Gs), CG M' g' → MG M' g' → Okg g' → G E C RL cL_law zLw P (cs + 4) (ss + 24) M' 3388 (lvL E a i) []) : G E C RL cL_law zLw P cs ss M 2402 (lvL E a i) [] := by
  refine G_aload_n dL_law_2402 rfl ?_
  refine G_aload_n dL_law_2403 rfl ?_
  refine G_iload dL_law_2404 rfl ?_
  refine G_iconst (v := 1) dL_law_2406 (by decide) ?_
  refine G_iadd dL_law_2407 ?_
  refine G_sld dL_law_2408 hX (show nI i + 1 = nI (i + 1) from nI_add i 1) (by omega) (by omega) ?_
  refine G_aload_n dL_law_2409 rfl ?_
  refine G_iload dL_law_2410 rfl ?_
  refine G_iconst (v := 2) dL_law_2412 (by decide) ?_
  refine G_iadd dL_law_2413 ?_
  refine G_sld dL_law_2414 hX (show nI i + 2 = nI (i + 2) from nI_add i 2) (by omega) (by omega) ?_
  refine G_aload_n dL_law_2415 rfl ?_
  refine G_iload dL_law_2416 rfl ?_
  refine G_iconst (v := 3) dL_law_2418 (by decide) ?_
  refine G_iadd dL_law_2419 ?_
  refine G_sld dL_law_2420 hX (show nI i + 3 = nI (i + 3) from nI_add i 3) (by omega) (by omega) ?_
  refine G_aload_n dL_law_2421 rfl ?_
  refine G_iload dL_law_2422 rfl ?_
  refine G_iconst (v := 4) dL_law_2424 (by decide) ?_
  refine G_iadd dL_law_2425 ?_
  refine G_sld dL_law_2426 hX (show nI i + 4 = nI (i + 4) from nI_add i 4) (by omega) (by omega) ?_
  refine G_aload_n dL_law_2427 rfl ?_
  refine G_callSH (n := 6) (as := [.ref (ad E 0 0 0), .int (xs (i + 1)), .int (xs (i + 2)), .int (xs (i + 3)), .int (xs (i + 4)), .ref (ad E 27 0 0)]) (rest := []) (cs' := cs + 4) (ss' := ss + 24) dL_law_2428 lkw_285 rfl rfl (Nat.le_of_ble_eq_true rfl) (Nat.le_of_ble_eq_true rfl) (Nat.le_of_ble_eq_true rfl) rfl rfl (by show cs + 4 ≤ 601024; omega) (by show ss + 24 ≤ 7293034; omega) rfl ?_
  refine w_whyLend hC hO hG (fun M1 hC1 hG1 e1 => hGo_i ?_)
  refine G_istore dL_law_2431 (Nat.le_of_ble_eq_true rfl) ?_
  refine G_aload_n dL_law_2433 rfl ?_
  refine G_aload_n dL_law_2434 rfl ?_
  refine G_iload dL_law_2435 rfl ?_
  refine G_iconst (v := 1) dL_law_2437 (by decide) ?_
  refine G_iadd dL_law_2438 ?_
  refine G_sld dL_law_2439 hX (show nI i + 1 = nI (i + 1) from nI_add i 1) (by omega) (by omega) ?_
  refine G_aload_n dL_law_2440 rfl ?_
  refine G_iload dL_law_2441 rfl ?_
  refine G_iconst (v := 2) dL_law_2443 (by decide) ?_
  refine G_iadd dL_law_2444 ?_
  refine G_sld dL_law_2445 hX (show nI i + 2 = nI (i + 2) from nI_add i 2) (by omega) (by omega) ?_
  refine G_aload_n dL_law_2446 rfl ?_
  refine G_iload dL_law_2447 rfl ?_
  refine G_iconst (v := 3) dL_law_2449 (by decide) ?_
  refine G_iadd dL_law_2450 ?_
  refine G_sld dL_law_2451 hX (show nI i + 3 = nI (i + 3) from nI_add i 3) (by omega) (by omega) ?_
  refine G_aload_n dL_law_2452 rfl ?_
  refine G_iload dL_law_2453 rfl ?_
  refine G_iconst (v := 4) dL_law_2455 (by decide) ?_
  refine G_iadd dL_law_2456 ?_
  refine G_sld dL_law_2457 hX (show nI i + 4 = nI (i + 4) from nI_add i 4) (by omega) (by omega) ?_
  refine cv_L_287 (cs' := cs + 4) (ss' := ss + 24) dL_law_2458 (Nat.le_of_ble_eq_true rfl) (Nat.le_of_ble_eq_true rfl) (Nat.le_of_ble_eq_true rfl) rfl rfl (by show cs + 4 ≤ 601024; omega) (by show ss + 24 ≤ 7293034; omega) rfl ?_
  refine m_whyLend hG1 hO (fun M2 v hG2 hf2 et ev => hGo_i ?_)
  have hC2 := hC1.fm hf2
  refine G_istore dL_law_2461 (Nat.le_of_ble_eq_true rfl) ?_
  refine G_aload_n dL_law_2463 rfl ?_
  refine cv_L_165 (cs' := cs + 4) (ss' := ss + 24) dL_law_2464 (Nat.le_of_ble_eq_true rfl) (Nat.le_of_ble_eq_true rfl) (Nat.le_of_ble_eq_true rfl) rfl rfl (by show cs + 4 ≤ 601024; omega) (by show ss + 24 ≤ 7293034; omega) rfl ?_
  refine m_thrown (hGo_i ?_)
  rw [et]
  refine G_iload dL_law_2467 rfl ?_
  refine G_icmp_eq (tgt := 2474) dL_law_2469 (by decide) (fun _ => ?_) (fun z => absurd rfl z)
  refine G_iload dL_law_2474 rfl ?_
  refine G_if_ne (tgt := 2491) dL_law_2476 (by decide) (fun _ => ?_) (fun z0 => ?_)
  · refine G_goto (tgt := 3388) dL_law_2491 (by decide) ?_
    exact G_wid (by omega) (by omega) (G_lv2 (ih M2 _ hC2 hG2 hO) ⟨rfl, rfl, rfl, rfl, rfl, rfl, trivial⟩)
  · have q0 : (qWhyLend g (xs (i + 1)) (xs (i + 2)) (xs (i + 3)) (xs (i + 4))).1 = 0 := nI0 (bl_qWhyLend) z0
    have eo : M2.2.1 = M1.2.1 := congrArg Prod.fst hf2.1.1
    have el : M2.2.1 = v.toInt64 := by rw [eo, ev q0]; exact e1 q0
    refine G_aload_n dL_law_2479 rfl ?_
    refine G_iconst (v := 0) dL_law_2480 (by decide) ?_
    refine G_lald dL_law_2481 ?_
    refine G_iload dL_law_2482 rfl ?_
    refine G_i2l dL_law_2484 ?_
    refine G_lcmpE dL_law_2485 el ?_
    refine G_if_eq (tgt := 2491) dL_law_2486 (by decide) (fun _ => ?_) (fun z => absurd rfl z)
    refine G_goto (tgt := 3388) dL_law_2491 (by decide) ?_
    exact G_wid (by omega) (by omega) (G_lv2 (ih M2 _ hC2 hG2 hO) ⟨rfl, rfl, rfl, rfl, rfl, rfl, trivial⟩)
theorem bl_qSafestBench {x : Int32} : (qSafestBench g x).1 < 3 := by rcases @b_qSafestBench g x with b | b <;> omega
theorem l_safestBench (hX : hSc E C a L xs) (hi : i + 5 ≤ L) (hL : L ≤ 2560) (hcs : cs + 4 ≤ 601024) (hss : ss + 24 ≤ 7293034) (hC : CG M g) (hG : MG M g) (hO : Okg g) (ih : ∀ (M' : Mm) (g' : Gs), CG M' g' → MG M' g' → Okg g' → G E C RL cL_law zLw P (cs + 4) (ss + 24) M' 3388 (lvL E a i) []) : G E C RL cL_law zLw P cs ss M 2494 (lvL E a i) [] := by
  refine G_aload_n dL_law_2494 rfl ?_
  refine G_aload_n dL_law_2495 rfl ?_
  refine G_iload dL_law_2496 rfl ?_
  refine G_iconst (v := 1) dL_law_2498 (by decide) ?_
  refine G_iadd dL_law_2499 ?_
  refine G_sld dL_law_2500 hX (show nI i + 1 = nI (i + 1) from nI_add i 1) (by omega) (by omega) ?_
  refine G_aload_n dL_law_2501 rfl ?_
  refine G_callSH (n := 3) (as := [.ref (ad E 0 0 0), .int (xs (i + 1)), .ref (ad E 27 0 0)]) (rest := []) (cs' := cs + 1) (ss' := ss + 6) dL_law_2502 lkw_288 rfl rfl (Nat.le_of_ble_eq_true rfl) (Nat.le_of_ble_eq_true rfl) (Nat.le_of_ble_eq_true rfl) rfl rfl (by show cs + 1 ≤ 601024; omega) (by show ss + 6 ≤ 7293034; omega) rfl ?_
  refine w_safestBench hC hO hG (fun M1 hC1 hG1 e1 => hGo_i ?_)
  refine G_istore dL_law_2505 (Nat.le_of_ble_eq_true rfl) ?_
  refine G_aload_n dL_law_2507 rfl ?_
  refine G_aload_n dL_law_2508 rfl ?_
  refine G_iload dL_law_2509 rfl ?_
  refine G_iconst (v := 1) dL_law_2511 (by decide) ?_
  refine G_iadd dL_law_2512 ?_
  refine G_sld dL_law_2513 hX (show nI i + 1 = nI (i + 1) from nI_add i 1) (by omega) (by omega) ?_
  refine cv_L_290 (cs' := cs + 1) (ss' := ss + 6) dL_law_2514 (Nat.le_of_ble_eq_true rfl) (Nat.le_of_ble_eq_true rfl) (Nat.le_of_ble_eq_true rfl) rfl rfl (by show cs + 1 ≤ 601024; omega) (by show ss + 6 ≤ 7293034; omega) rfl ?_
  refine m_safestBench hG1 hO (fun M2 v hG2 hf2 et ev => hGo_i ?_)
  have hC2 := hC1.fm hf2
  refine G_istore dL_law_2517 (Nat.le_of_ble_eq_true rfl) ?_
  refine G_aload_n dL_law_2519 rfl ?_
  refine cv_L_165 (cs' := cs + 1) (ss' := ss + 6) dL_law_2520 (Nat.le_of_ble_eq_true rfl) (Nat.le_of_ble_eq_true rfl) (Nat.le_of_ble_eq_true rfl) rfl rfl (by show cs + 1 ≤ 601024; omega) (by show ss + 6 ≤ 7293034; omega) rfl ?_
  refine m_thrown (hGo_i ?_)
  rw [et]
  refine G_iload dL_law_2523 rfl ?_
  refine G_icmp_eq (tgt := 2530) dL_law_2525 (by decide) (fun _ => ?_) (fun z => absurd rfl z)
  refine G_iload dL_law_2530 rfl ?_
  refine G_if_ne (tgt := 2547) dL_law_2532 (by decide) (fun _ => ?_) (fun z0 => ?_)
  · refine G_goto (tgt := 3388) dL_law_2547 (by decide) ?_
    exact G_wid (by omega) (by omega) (G_lv2 (ih M2 _ hC2 hG2 hO) ⟨rfl, rfl, rfl, rfl, rfl, rfl, trivial⟩)
  · have q0 : (qSafestBench g (xs (i + 1))).1 = 0 := nI0 (bl_qSafestBench) z0
    have eo : M2.2.1 = M1.2.1 := congrArg Prod.fst hf2.1.1
    have el : M2.2.1 = v.toInt64 := by rw [eo, ev q0]; exact e1 q0
    refine G_aload_n dL_law_2535 rfl ?_
    refine G_iconst (v := 0) dL_law_2536 (by decide) ?_
    refine G_lald dL_law_2537 ?_
    refine G_iload dL_law_2538 rfl ?_
    refine G_i2l dL_law_2540 ?_
    refine G_lcmpE dL_law_2541 el ?_
    refine G_if_eq (tgt := 2547) dL_law_2542 (by decide) (fun _ => ?_) (fun z => absurd rfl z)
    refine G_goto (tgt := 3388) dL_law_2547 (by decide) ?_
    exact G_wid (by omega) (by omega) (G_lv2 (ih M2 _ hC2 hG2 hO) ⟨rfl, rfl, rfl, rfl, rfl, rfl, trivial⟩)
theorem bl_qSafestPartner {x : Int32} : (qSafestPartner g x).1 < 3 := by rcases @b_qSafestPartner g x with b | b <;> omega
theorem l_safestPartner (hX : hSc E C a L xs) (hi : i + 5 ≤ L) (hL : L ≤ 2560) (hcs : cs + 4 ≤ 601024) (hss : ss + 24 ≤ 7293034) (hC : CG M g) (hG : MG M g) (hO : Okg g) (ih : ∀ (M' : Mm) (g' : Gs), CG M' g' → MG M' g' → Okg g' → G E C RL cL_law zLw P (cs + 4) (ss + 24) M' 3388 (lvL E a i) []) : G E C RL cL_law zLw P cs ss M 2550 (lvL E a i) [] := by
  refine G_aload_n dL_law_2550 rfl ?_
  refine G_aload_n dL_law_2551 rfl ?_
  refine G_iload dL_law_2552 rfl ?_
  refine G_iconst (v := 1) dL_law_2554 (by decide) ?_
  refine G_iadd dL_law_2555 ?_
  refine G_sld dL_law_2556 hX (show nI i + 1 = nI (i + 1) from nI_add i 1) (by omega) (by omega) ?_
  refine G_aload_n dL_law_2557 rfl ?_
  refine G_callSH (n := 3) (as := [.ref (ad E 0 0 0), .int (xs (i + 1)), .ref (ad E 27 0 0)]) (rest := []) (cs' := cs + 1) (ss' := ss + 6) dL_law_2558 lkw_291 rfl rfl (Nat.le_of_ble_eq_true rfl) (Nat.le_of_ble_eq_true rfl) (Nat.le_of_ble_eq_true rfl) rfl rfl (by show cs + 1 ≤ 601024; omega) (by show ss + 6 ≤ 7293034; omega) rfl ?_
  refine w_safestPartner hC hO hG (fun M1 hC1 hG1 e1 => hGo_i ?_)
  refine G_istore dL_law_2561 (Nat.le_of_ble_eq_true rfl) ?_
  refine G_aload_n dL_law_2563 rfl ?_
  refine G_aload_n dL_law_2564 rfl ?_
  refine G_iload dL_law_2565 rfl ?_
  refine G_iconst (v := 1) dL_law_2567 (by decide) ?_
  refine G_iadd dL_law_2568 ?_
  refine G_sld dL_law_2569 hX (show nI i + 1 = nI (i + 1) from nI_add i 1) (by omega) (by omega) ?_
  refine cv_L_293 (cs' := cs + 1) (ss' := ss + 6) dL_law_2570 (Nat.le_of_ble_eq_true rfl) (Nat.le_of_ble_eq_true rfl) (Nat.le_of_ble_eq_true rfl) rfl rfl (by show cs + 1 ≤ 601024; omega) (by show ss + 6 ≤ 7293034; omega) rfl ?_
  refine m_safestPartner hG1 hO (fun M2 v hG2 hf2 et ev => hGo_i ?_)
  have hC2 := hC1.fm hf2
  refine G_istore dL_law_2573 (Nat.le_of_ble_eq_true rfl) ?_
  refine G_aload_n dL_law_2575 rfl ?_
  refine cv_L_165 (cs' := cs + 1) (ss' := ss + 6) dL_law_2576 (Nat.le_of_ble_eq_true rfl) (Nat.le_of_ble_eq_true rfl) (Nat.le_of_ble_eq_true rfl) rfl rfl (by show cs + 1 ≤ 601024; omega) (by show ss + 6 ≤ 7293034; omega) rfl ?_
  refine m_thrown (hGo_i ?_)
  rw [et]
  refine G_iload dL_law_2579 rfl ?_
  refine G_icmp_eq (tgt := 2586) dL_law_2581 (by decide) (fun _ => ?_) (fun z => absurd rfl z)
  refine G_iload dL_law_2586 rfl ?_
  refine G_if_ne (tgt := 2603) dL_law_2588 (by decide) (fun _ => ?_) (fun z0 => ?_)
  · refine G_goto (tgt := 3388) dL_law_2603 (by decide) ?_
    exact G_wid (by omega) (by omega) (G_lv2 (ih M2 _ hC2 hG2 hO) ⟨rfl, rfl, rfl, rfl, rfl, rfl, trivial⟩)
  · have q0 : (qSafestPartner g (xs (i + 1))).1 = 0 := nI0 (bl_qSafestPartner) z0
    have eo : M2.2.1 = M1.2.1 := congrArg Prod.fst hf2.1.1
    have el : M2.2.1 = v.toInt64 := by rw [eo, ev q0]; exact e1 q0
    refine G_aload_n dL_law_2591 rfl ?_
    refine G_iconst (v := 0) dL_law_2592 (by decide) ?_
    refine G_lald dL_law_2593 ?_
    refine G_iload dL_law_2594 rfl ?_
    refine G_i2l dL_law_2596 ?_
    refine G_lcmpE dL_law_2597 el ?_
    refine G_if_eq (tgt := 2603) dL_law_2598 (by decide) (fun _ => ?_) (fun z => absurd rfl z)
    refine G_goto (tgt := 3388) dL_law_2603 (by decide) ?_
    exact G_wid (by omega) (by omega) (G_lv2 (ih M2 _ hC2 hG2 hO) ⟨rfl, rfl, rfl, rfl, rfl, rfl, trivial⟩)
theorem bl_qDrownsIn {x y : Int32} : (qDrownsIn g x y).1 < 3 := by rcases @b_qDrownsIn g x y with b | b | b <;> omega
theorem l_drownsIn (hX : hSc E C a L xs) (hi : i + 5 ≤ L) (hL : L ≤ 2560) (hcs : cs + 4 ≤ 601024) (hss : ss + 24 ≤ 7293034) (hC : CG M g) (hG : MG M g) (hO : Okg g) (ih : ∀ (M' : Mm) (g' : Gs), CG M' g' → MG M' g' → Okg g' → G E C RL cL_law zLw P (cs + 4) (ss + 24) M' 3388 (lvL E a i) []) : G E C RL cL_law zLw P cs ss M 2606 (lvL E a i) [] := by
  refine G_aload_n dL_law_2606 rfl ?_
  refine G_aload_n dL_law_2607 rfl ?_
  refine G_iload dL_law_2608 rfl ?_
  refine G_iconst (v := 1) dL_law_2610 (by decide) ?_
  refine G_iadd dL_law_2611 ?_
  refine G_sld dL_law_2612 hX (show nI i + 1 = nI (i + 1) from nI_add i 1) (by omega) (by omega) ?_
  refine G_aload_n dL_law_2613 rfl ?_
  refine G_iload dL_law_2614 rfl ?_
  refine G_iconst (v := 2) dL_law_2616 (by decide) ?_
  refine G_iadd dL_law_2617 ?_
  refine G_sld dL_law_2618 hX (show nI i + 2 = nI (i + 2) from nI_add i 2) (by omega) (by omega) ?_
  refine G_aload_n dL_law_2619 rfl ?_
  refine G_callSH (n := 4) (as := [.ref (ad E 0 0 0), .int (xs (i + 1)), .int (xs (i + 2)), .ref (ad E 27 0 0)]) (rest := []) (cs' := cs + 2) (ss' := ss + 12) dL_law_2620 lkw_294 rfl rfl (Nat.le_of_ble_eq_true rfl) (Nat.le_of_ble_eq_true rfl) (Nat.le_of_ble_eq_true rfl) rfl rfl (by show cs + 2 ≤ 601024; omega) (by show ss + 12 ≤ 7293034; omega) rfl ?_
  refine w_drownsIn hC hO hG (fun M1 hC1 hG1 e1 => hGo_i ?_)
  refine G_istore dL_law_2623 (Nat.le_of_ble_eq_true rfl) ?_
  refine G_aload_n dL_law_2625 rfl ?_
  refine G_aload_n dL_law_2626 rfl ?_
  refine G_iload dL_law_2627 rfl ?_
  refine G_iconst (v := 1) dL_law_2629 (by decide) ?_
  refine G_iadd dL_law_2630 ?_
  refine G_sld dL_law_2631 hX (show nI i + 1 = nI (i + 1) from nI_add i 1) (by omega) (by omega) ?_
  refine G_aload_n dL_law_2632 rfl ?_
  refine G_iload dL_law_2633 rfl ?_
  refine G_iconst (v := 2) dL_law_2635 (by decide) ?_
  refine G_iadd dL_law_2636 ?_
  refine G_sld dL_law_2637 hX (show nI i + 2 = nI (i + 2) from nI_add i 2) (by omega) (by omega) ?_
  refine cv_L_296 (cs' := cs + 2) (ss' := ss + 12) dL_law_2638 (Nat.le_of_ble_eq_true rfl) (Nat.le_of_ble_eq_true rfl) (Nat.le_of_ble_eq_true rfl) rfl rfl (by show cs + 2 ≤ 601024; omega) (by show ss + 12 ≤ 7293034; omega) rfl ?_
  refine m_drownsIn hG1 hO (fun M2 v hG2 hf2 et ev => hGo_i ?_)
  have hC2 := hC1.fm hf2
  refine G_istore dL_law_2641 (Nat.le_of_ble_eq_true rfl) ?_
  refine G_aload_n dL_law_2643 rfl ?_
  refine cv_L_165 (cs' := cs + 2) (ss' := ss + 12) dL_law_2644 (Nat.le_of_ble_eq_true rfl) (Nat.le_of_ble_eq_true rfl) (Nat.le_of_ble_eq_true rfl) rfl rfl (by show cs + 2 ≤ 601024; omega) (by show ss + 12 ≤ 7293034; omega) rfl ?_
  refine m_thrown (hGo_i ?_)
  rw [et]
  refine G_iload dL_law_2647 rfl ?_
  refine G_icmp_eq (tgt := 2654) dL_law_2649 (by decide) (fun _ => ?_) (fun z => absurd rfl z)
  refine G_iload dL_law_2654 rfl ?_
  refine G_if_ne (tgt := 2671) dL_law_2656 (by decide) (fun _ => ?_) (fun z0 => ?_)
  · refine G_goto (tgt := 3388) dL_law_2671 (by decide) ?_
    exact G_wid (by omega) (by omega) (G_lv2 (ih M2 _ hC2 hG2 hO) ⟨rfl, rfl, rfl, rfl, rfl, rfl, trivial⟩)
  · have q0 : (qDrownsIn g (xs (i + 1)) (xs (i + 2))).1 = 0 := nI0 (bl_qDrownsIn) z0
    have eo : M2.2.1 = M1.2.1 := congrArg Prod.fst hf2.1.1
    have el : M2.2.1 = v.toInt64 := by rw [eo, ev q0]; exact e1 q0
    refine G_aload_n dL_law_2659 rfl ?_
    refine G_iconst (v := 0) dL_law_2660 (by decide) ?_
    refine G_lald dL_law_2661 ?_
    refine G_iload dL_law_2662 rfl ?_
    refine G_i2l dL_law_2664 ?_
    refine G_lcmpE dL_law_2665 el ?_
    refine G_if_eq (tgt := 2671) dL_law_2666 (by decide) (fun _ => ?_) (fun z => absurd rfl z)
    refine G_goto (tgt := 3388) dL_law_2671 (by decide) ?_
    exact G_wid (by omega) (by omega) (G_lv2 (ih M2 _ hC2 hG2 hO) ⟨rfl, rfl, rfl, rfl, rfl, rfl, trivial⟩)
theorem bl_qWork {x y z' : Int32} : (qWork g x y z').2.1 < 3 := by rcases @b_qWork g x y z' with b | b | b <;> omega
theorem l_work (hX : hSc E C a L xs) (hi : i + 5 ≤ L) (hL : L ≤ 2560) (hcs : cs + 4 ≤ 601024) (hss : ss + 24 ≤ 7293034) (hC : CG M g) (hG : MG M g) (hO : Okg g) (ih : ∀ (M' : Mm) (g' : Gs), CG M' g' → MG M' g' → Okg g' → G E C RL cL_law zLw P (cs + 4) (ss + 24) M' 3388 (lvL E a i) []) : G E C RL cL_law zLw P cs ss M 2674 (lvL E a i) [] := by
  refine G_aload_n dL_law_2674 rfl ?_
  refine G_aload_n dL_law_2675 rfl ?_
  refine G_iload dL_law_2676 rfl ?_
  refine G_iconst (v := 1) dL_law_2678 (by decide) ?_
  refine G_iadd dL_law_2679 ?_
  refine G_sld dL_law_2680 hX (show nI i + 1 = nI (i + 1) from nI_add i 1) (by omega) (by omega) ?_
  refine G_aload_n dL_law_2681 rfl ?_
  refine G_iload dL_law_2682 rfl ?_
  refine G_iconst (v := 2) dL_law_2684 (by decide) ?_
  refine G_iadd dL_law_2685 ?_
  refine G_sld dL_law_2686 hX (show nI i + 2 = nI (i + 2) from nI_add i 2) (by omega) (by omega) ?_
  refine G_aload_n dL_law_2687 rfl ?_
  refine G_iload dL_law_2688 rfl ?_
  refine G_iconst (v := 3) dL_law_2690 (by decide) ?_
  refine G_iadd dL_law_2691 ?_
  refine G_sld dL_law_2692 hX (show nI i + 3 = nI (i + 3) from nI_add i 3) (by omega) (by omega) ?_
  refine G_aload_n dL_law_2693 rfl ?_
  refine G_callSH (n := 5) (as := [.ref (ad E 0 0 0), .int (xs (i + 1)), .int (xs (i + 2)), .int (xs (i + 3)), .ref (ad E 27 0 0)]) (rest := []) (cs' := cs + 3) (ss' := ss + 18) dL_law_2694 lkw_297 rfl rfl (Nat.le_of_ble_eq_true rfl) (Nat.le_of_ble_eq_true rfl) (Nat.le_of_ble_eq_true rfl) rfl rfl (by show cs + 3 ≤ 601024; omega) (by show ss + 18 ≤ 7293034; omega) rfl ?_
  refine w_work hC hO hG (fun M1 hC1 hG1 e1 => hGo_i ?_)
  refine G_istore dL_law_2697 (Nat.le_of_ble_eq_true rfl) ?_
  refine G_aload_n dL_law_2699 rfl ?_
  refine G_aload_n dL_law_2700 rfl ?_
  refine G_iload dL_law_2701 rfl ?_
  refine G_iconst (v := 1) dL_law_2703 (by decide) ?_
  refine G_iadd dL_law_2704 ?_
  refine G_sld dL_law_2705 hX (show nI i + 1 = nI (i + 1) from nI_add i 1) (by omega) (by omega) ?_
  refine G_aload_n dL_law_2706 rfl ?_
  refine G_iload dL_law_2707 rfl ?_
  refine G_iconst (v := 2) dL_law_2709 (by decide) ?_
  refine G_iadd dL_law_2710 ?_
  refine G_sld dL_law_2711 hX (show nI i + 2 = nI (i + 2) from nI_add i 2) (by omega) (by omega) ?_
  refine G_aload_n dL_law_2712 rfl ?_
  refine G_iload dL_law_2713 rfl ?_
  refine G_iconst (v := 3) dL_law_2715 (by decide) ?_
  refine G_iadd dL_law_2716 ?_
  refine G_sld dL_law_2717 hX (show nI i + 3 = nI (i + 3) from nI_add i 3) (by omega) (by omega) ?_
  refine cv_L_299 (cs' := cs + 3) (ss' := ss + 18) dL_law_2718 (Nat.le_of_ble_eq_true rfl) (Nat.le_of_ble_eq_true rfl) (Nat.le_of_ble_eq_true rfl) rfl rfl (by show cs + 3 ≤ 601024; omega) (by show ss + 18 ≤ 7293034; omega) rfl ?_
  refine m_work hG1 hO (fun M2 v hG2 hf2 et ev => hGo_i ?_)
  have hC2 := hC1.fm hf2
  refine G_istore dL_law_2721 (Nat.le_of_ble_eq_true rfl) ?_
  refine G_aload_n dL_law_2723 rfl ?_
  refine cv_L_165 (cs' := cs + 3) (ss' := ss + 18) dL_law_2724 (Nat.le_of_ble_eq_true rfl) (Nat.le_of_ble_eq_true rfl) (Nat.le_of_ble_eq_true rfl) rfl rfl (by show cs + 3 ≤ 601024; omega) (by show ss + 18 ≤ 7293034; omega) rfl ?_
  refine m_thrown (hGo_i ?_)
  rw [et]
  refine G_iload dL_law_2727 rfl ?_
  refine G_icmp_eq (tgt := 2734) dL_law_2729 (by decide) (fun _ => ?_) (fun z => absurd rfl z)
  refine G_iload dL_law_2734 rfl ?_
  refine G_if_ne (tgt := 2751) dL_law_2736 (by decide) (fun _ => ?_) (fun z0 => ?_)
  · refine G_goto (tgt := 3388) dL_law_2751 (by decide) ?_
    exact G_wid (by omega) (by omega) (G_lv2 (ih M2 _ hC2 hG2 (qWork_ok hO)) ⟨rfl, rfl, rfl, rfl, rfl, rfl, trivial⟩)
  · have q0 : (qWork g (xs (i + 1)) (xs (i + 2)) (xs (i + 3))).2.1 = 0 := nI0 (bl_qWork) z0
    have eo : M2.2.1 = M1.2.1 := congrArg Prod.fst hf2.1.1
    have el : M2.2.1 = v.toInt64 := by rw [eo, ev q0]; exact e1 q0
    refine G_aload_n dL_law_2739 rfl ?_
    refine G_iconst (v := 0) dL_law_2740 (by decide) ?_
    refine G_lald dL_law_2741 ?_
    refine G_iload dL_law_2742 rfl ?_
    refine G_i2l dL_law_2744 ?_
    refine G_lcmpE dL_law_2745 el ?_
    refine G_if_eq (tgt := 2751) dL_law_2746 (by decide) (fun _ => ?_) (fun z => absurd rfl z)
    refine G_goto (tgt := 3388) dL_law_2751 (by decide) ?_
    exact G_wid (by omega) (by omega) (G_lv2 (ih M2 _ hC2 hG2 (qWork_ok hO)) ⟨rfl, rfl, rfl, rfl, rfl, rfl, trivial⟩)
theorem bl_qSwap {x y n m : Int32} : (qSwap g x y n m).2.1 < 3 := by rcases @b_qSwap g x y n m with b | b | b <;> omega
theorem l_swap (hX : hSc E C a L xs) (hi : i + 5 ≤ L) (hL : L ≤ 2560) (hcs : cs + 4 ≤ 601024) (hss : ss + 24 ≤ 7293034) (hC : CG M g) (hG : MG M g) (hO : Okg g) (ih : ∀ (M' : Mm) (g' : Gs), CG M' g' → MG M' g' → Okg g' → G E C RL cL_law zLw P (cs + 4) (ss + 24) M' 3388 (lvL E a i) []) : G E C RL cL_law zLw P cs ss M 2754 (lvL E a i) [] := by
  refine G_aload_n dL_law_2754 rfl ?_
  refine G_aload_n dL_law_2755 rfl ?_
  refine G_iload dL_law_2756 rfl ?_
  refine G_iconst (v := 1) dL_law_2758 (by decide) ?_
  refine G_iadd dL_law_2759 ?_
  refine G_sld dL_law_2760 hX (show nI i + 1 = nI (i + 1) from nI_add i 1) (by omega) (by omega) ?_
  refine G_aload_n dL_law_2761 rfl ?_
  refine G_iload dL_law_2762 rfl ?_
  refine G_iconst (v := 2) dL_law_2764 (by decide) ?_
  refine G_iadd dL_law_2765 ?_
  refine G_sld dL_law_2766 hX (show nI i + 2 = nI (i + 2) from nI_add i 2) (by omega) (by omega) ?_
  refine G_aload_n dL_law_2767 rfl ?_
  refine G_iload dL_law_2768 rfl ?_
  refine G_iconst (v := 3) dL_law_2770 (by decide) ?_
  refine G_iadd dL_law_2771 ?_
  refine G_sld dL_law_2772 hX (show nI i + 3 = nI (i + 3) from nI_add i 3) (by omega) (by omega) ?_
  refine G_aload_n dL_law_2773 rfl ?_
  refine G_iload dL_law_2774 rfl ?_
  refine G_iconst (v := 4) dL_law_2776 (by decide) ?_
  refine G_iadd dL_law_2777 ?_
  refine G_sld dL_law_2778 hX (show nI i + 4 = nI (i + 4) from nI_add i 4) (by omega) (by omega) ?_
  refine G_aload_n dL_law_2779 rfl ?_
  refine G_callSH (n := 6) (as := [.ref (ad E 0 0 0), .int (xs (i + 1)), .int (xs (i + 2)), .int (xs (i + 3)), .int (xs (i + 4)), .ref (ad E 27 0 0)]) (rest := []) (cs' := cs + 4) (ss' := ss + 24) dL_law_2780 lkw_300 rfl rfl (Nat.le_of_ble_eq_true rfl) (Nat.le_of_ble_eq_true rfl) (Nat.le_of_ble_eq_true rfl) rfl rfl (by show cs + 4 ≤ 601024; omega) (by show ss + 24 ≤ 7293034; omega) rfl ?_
  refine w_swap hC hO hG (fun M1 hC1 hG1 e1 => hGo_i ?_)
  refine G_istore dL_law_2783 (Nat.le_of_ble_eq_true rfl) ?_
  refine G_aload_n dL_law_2785 rfl ?_
  refine G_aload_n dL_law_2786 rfl ?_
  refine G_iload dL_law_2787 rfl ?_
  refine G_iconst (v := 1) dL_law_2789 (by decide) ?_
  refine G_iadd dL_law_2790 ?_
  refine G_sld dL_law_2791 hX (show nI i + 1 = nI (i + 1) from nI_add i 1) (by omega) (by omega) ?_
  refine G_aload_n dL_law_2792 rfl ?_
  refine G_iload dL_law_2793 rfl ?_
  refine G_iconst (v := 2) dL_law_2795 (by decide) ?_
  refine G_iadd dL_law_2796 ?_
  refine G_sld dL_law_2797 hX (show nI i + 2 = nI (i + 2) from nI_add i 2) (by omega) (by omega) ?_
  refine G_aload_n dL_law_2798 rfl ?_
  refine G_iload dL_law_2799 rfl ?_
  refine G_iconst (v := 3) dL_law_2801 (by decide) ?_
  refine G_iadd dL_law_2802 ?_
  refine G_sld dL_law_2803 hX (show nI i + 3 = nI (i + 3) from nI_add i 3) (by omega) (by omega) ?_
  refine G_aload_n dL_law_2804 rfl ?_
  refine G_iload dL_law_2805 rfl ?_
  refine G_iconst (v := 4) dL_law_2807 (by decide) ?_
  refine G_iadd dL_law_2808 ?_
  refine G_sld dL_law_2809 hX (show nI i + 4 = nI (i + 4) from nI_add i 4) (by omega) (by omega) ?_
  refine cv_L_302 (cs' := cs + 4) (ss' := ss + 24) dL_law_2810 (Nat.le_of_ble_eq_true rfl) (Nat.le_of_ble_eq_true rfl) (Nat.le_of_ble_eq_true rfl) rfl rfl (by show cs + 4 ≤ 601024; omega) (by show ss + 24 ≤ 7293034; omega) rfl ?_
  refine m_swap hG1 hO (fun M2 v hG2 hf2 et ev => hGo_i ?_)
  have hC2 := hC1.fm hf2
  refine G_istore dL_law_2813 (Nat.le_of_ble_eq_true rfl) ?_
  refine G_aload_n dL_law_2815 rfl ?_
  refine cv_L_165 (cs' := cs + 4) (ss' := ss + 24) dL_law_2816 (Nat.le_of_ble_eq_true rfl) (Nat.le_of_ble_eq_true rfl) (Nat.le_of_ble_eq_true rfl) rfl rfl (by show cs + 4 ≤ 601024; omega) (by show ss + 24 ≤ 7293034; omega) rfl ?_
  refine m_thrown (hGo_i ?_)
  rw [et]
  refine G_iload dL_law_2819 rfl ?_
  refine G_icmp_eq (tgt := 2826) dL_law_2821 (by decide) (fun _ => ?_) (fun z => absurd rfl z)
  refine G_iload dL_law_2826 rfl ?_
  refine G_if_ne (tgt := 2843) dL_law_2828 (by decide) (fun _ => ?_) (fun z0 => ?_)
  · refine G_goto (tgt := 3388) dL_law_2843 (by decide) ?_
    exact G_wid (by omega) (by omega) (G_lv2 (ih M2 _ hC2 hG2 (qSwap_ok hO)) ⟨rfl, rfl, rfl, rfl, rfl, rfl, trivial⟩)
  · have q0 : (qSwap g (xs (i + 1)) (xs (i + 2)) (xs (i + 3)) (xs (i + 4))).2.1 = 0 := nI0 (bl_qSwap) z0
    have eo : M2.2.1 = M1.2.1 := congrArg Prod.fst hf2.1.1
    have el : M2.2.1 = v.toInt64 := by rw [eo, ev q0]; exact e1 q0
    refine G_aload_n dL_law_2831 rfl ?_
    refine G_iconst (v := 0) dL_law_2832 (by decide) ?_
    refine G_lald dL_law_2833 ?_
    refine G_iload dL_law_2834 rfl ?_
    refine G_i2l dL_law_2836 ?_
    refine G_lcmpE dL_law_2837 el ?_
    refine G_if_eq (tgt := 2843) dL_law_2838 (by decide) (fun _ => ?_) (fun z => absurd rfl z)
    refine G_goto (tgt := 3388) dL_law_2843 (by decide) ?_
    exact G_wid (by omega) (by omega) (G_lv2 (ih M2 _ hC2 hG2 (qSwap_ok hO)) ⟨rfl, rfl, rfl, rfl, rfl, rfl, trivial⟩)
theorem bl_qLend {x y n m : Int32} : (qLend g x y n m).2.1 < 3 := by rcases @b_qLend g x y n m with b | b | b <;> omega
theorem l_lend (hX : hSc E C a L xs) (hi : i + 5 ≤ L) (hL : L ≤ 2560) (hcs : cs + 4 ≤ 601024) (hss : ss + 24 ≤ 7293034) (hC : CG M g) (hG : MG M g) (hO : Okg g) (ih : ∀ (M' : Mm) (g' : Gs), CG M' g' → MG M' g' → Okg g' → G E C RL cL_law zLw P (cs + 4) (ss + 24) M' 3388 (lvL E a i) []) : G E C RL cL_law zLw P cs ss M 2846 (lvL E a i) [] := by
  refine G_aload_n dL_law_2846 rfl ?_
  refine G_aload_n dL_law_2847 rfl ?_
  refine G_iload dL_law_2848 rfl ?_
  refine G_iconst (v := 1) dL_law_2850 (by decide) ?_
  refine G_iadd dL_law_2851 ?_
  refine G_sld dL_law_2852 hX (show nI i + 1 = nI (i + 1) from nI_add i 1) (by omega) (by omega) ?_
  refine G_aload_n dL_law_2853 rfl ?_
  refine G_iload dL_law_2854 rfl ?_
  refine G_iconst (v := 2) dL_law_2856 (by decide) ?_
  refine G_iadd dL_law_2857 ?_
  refine G_sld dL_law_2858 hX (show nI i + 2 = nI (i + 2) from nI_add i 2) (by omega) (by omega) ?_
  refine G_aload_n dL_law_2859 rfl ?_
  refine G_iload dL_law_2860 rfl ?_
  refine G_iconst (v := 3) dL_law_2862 (by decide) ?_
  refine G_iadd dL_law_2863 ?_
  refine G_sld dL_law_2864 hX (show nI i + 3 = nI (i + 3) from nI_add i 3) (by omega) (by omega) ?_
  refine G_aload_n dL_law_2865 rfl ?_
  refine G_iload dL_law_2866 rfl ?_
  refine G_iconst (v := 4) dL_law_2868 (by decide) ?_
  refine G_iadd dL_law_2869 ?_
  refine G_sld dL_law_2870 hX (show nI i + 4 = nI (i + 4) from nI_add i 4) (by omega) (by omega) ?_
  refine G_aload_n dL_law_2871 rfl ?_
  refine G_callSH (n := 6) (as := [.ref (ad E 0 0 0), .int (xs (i + 1)), .int (xs (i + 2)), .int (xs (i + 3)), .int (xs (i + 4)), .ref (ad E 27 0 0)]) (rest := []) (cs' := cs + 4) (ss' := ss + 24) dL_law_2872 lkw_303 rfl rfl (Nat.le_of_ble_eq_true rfl) (Nat.le_of_ble_eq_true rfl) (Nat.le_of_ble_eq_true rfl) rfl rfl (by show cs + 4 ≤ 601024; omega) (by show ss + 24 ≤ 7293034; omega) rfl ?_
  refine w_lend hC hO hG (fun M1 hC1 hG1 e1 => hGo_i ?_)
  refine G_istore dL_law_2875 (Nat.le_of_ble_eq_true rfl) ?_
  refine G_aload_n dL_law_2877 rfl ?_
  refine G_aload_n dL_law_2878 rfl ?_
  refine G_iload dL_law_2879 rfl ?_
  refine G_iconst (v := 1) dL_law_2881 (by decide) ?_
  refine G_iadd dL_law_2882 ?_
  refine G_sld dL_law_2883 hX (show nI i + 1 = nI (i + 1) from nI_add i 1) (by omega) (by omega) ?_
  refine G_aload_n dL_law_2884 rfl ?_
  refine G_iload dL_law_2885 rfl ?_
  refine G_iconst (v := 2) dL_law_2887 (by decide) ?_
  refine G_iadd dL_law_2888 ?_
  refine G_sld dL_law_2889 hX (show nI i + 2 = nI (i + 2) from nI_add i 2) (by omega) (by omega) ?_
  refine G_aload_n dL_law_2890 rfl ?_
  refine G_iload dL_law_2891 rfl ?_
  refine G_iconst (v := 3) dL_law_2893 (by decide) ?_
  refine G_iadd dL_law_2894 ?_
  refine G_sld dL_law_2895 hX (show nI i + 3 = nI (i + 3) from nI_add i 3) (by omega) (by omega) ?_
  refine G_aload_n dL_law_2896 rfl ?_
  refine G_iload dL_law_2897 rfl ?_
  refine G_iconst (v := 4) dL_law_2899 (by decide) ?_
  refine G_iadd dL_law_2900 ?_
  refine G_sld dL_law_2901 hX (show nI i + 4 = nI (i + 4) from nI_add i 4) (by omega) (by omega) ?_
  refine cv_L_305 (cs' := cs + 4) (ss' := ss + 24) dL_law_2902 (Nat.le_of_ble_eq_true rfl) (Nat.le_of_ble_eq_true rfl) (Nat.le_of_ble_eq_true rfl) rfl rfl (by show cs + 4 ≤ 601024; omega) (by show ss + 24 ≤ 7293034; omega) rfl ?_
  refine m_lend hG1 hO (fun M2 v hG2 hf2 et ev => hGo_i ?_)
  have hC2 := hC1.fm hf2
  refine G_istore dL_law_2905 (Nat.le_of_ble_eq_true rfl) ?_
  refine G_aload_n dL_law_2907 rfl ?_
  refine cv_L_165 (cs' := cs + 4) (ss' := ss + 24) dL_law_2908 (Nat.le_of_ble_eq_true rfl) (Nat.le_of_ble_eq_true rfl) (Nat.le_of_ble_eq_true rfl) rfl rfl (by show cs + 4 ≤ 601024; omega) (by show ss + 24 ≤ 7293034; omega) rfl ?_
  refine m_thrown (hGo_i ?_)
  rw [et]
  refine G_iload dL_law_2911 rfl ?_
  refine G_icmp_eq (tgt := 2918) dL_law_2913 (by decide) (fun _ => ?_) (fun z => absurd rfl z)
  refine G_iload dL_law_2918 rfl ?_
  refine G_if_ne (tgt := 2935) dL_law_2920 (by decide) (fun _ => ?_) (fun z0 => ?_)
  · refine G_goto (tgt := 3388) dL_law_2935 (by decide) ?_
    exact G_wid (by omega) (by omega) (G_lv2 (ih M2 _ hC2 hG2 (qLend_ok hO)) ⟨rfl, rfl, rfl, rfl, rfl, rfl, trivial⟩)
  · have q0 : (qLend g (xs (i + 1)) (xs (i + 2)) (xs (i + 3)) (xs (i + 4))).2.1 = 0 := nI0 (bl_qLend) z0
    have eo : M2.2.1 = M1.2.1 := congrArg Prod.fst hf2.1.1
    have el : M2.2.1 = v.toInt64 := by rw [eo, ev q0]; exact e1 q0
    refine G_aload_n dL_law_2923 rfl ?_
    refine G_iconst (v := 0) dL_law_2924 (by decide) ?_
    refine G_lald dL_law_2925 ?_
    refine G_iload dL_law_2926 rfl ?_
    refine G_i2l dL_law_2928 ?_
    refine G_lcmpE dL_law_2929 el ?_
    refine G_if_eq (tgt := 2935) dL_law_2930 (by decide) (fun _ => ?_) (fun z => absurd rfl z)
    refine G_goto (tgt := 3388) dL_law_2935 (by decide) ?_
    exact G_wid (by omega) (by omega) (G_lv2 (ih M2 _ hC2 hG2 (qLend_ok hO)) ⟨rfl, rfl, rfl, rfl, rfl, rfl, trivial⟩)
theorem bl_qPay {x y n m : Int32} : (qPay g x y n m).2.1 < 3 := by rcases @b_qPay g x y n m with b | b | b <;> omega
theorem l_payBack (hX : hSc E C a L xs) (hi : i + 5 ≤ L) (hL : L ≤ 2560) (hcs : cs + 4 ≤ 601024) (hss : ss + 24 ≤ 7293034) (hC : CG M g) (hG : MG M g) (hO : Okg g) (ih : ∀ (M' : Mm) (g' : Gs), CG M' g' → MG M' g' → Okg g' → G E C RL cL_law zLw P (cs + 4) (ss + 24) M' 3388 (lvL E a i) []) : G E C RL cL_law zLw P cs ss M 2938 (lvL E a i) [] := by
  refine G_aload_n dL_law_2938 rfl ?_
  refine G_aload_n dL_law_2939 rfl ?_
  refine G_iload dL_law_2940 rfl ?_
  refine G_iconst (v := 1) dL_law_2942 (by decide) ?_
  refine G_iadd dL_law_2943 ?_
  refine G_sld dL_law_2944 hX (show nI i + 1 = nI (i + 1) from nI_add i 1) (by omega) (by omega) ?_
  refine G_aload_n dL_law_2945 rfl ?_
  refine G_iload dL_law_2946 rfl ?_
  refine G_iconst (v := 2) dL_law_2948 (by decide) ?_
  refine G_iadd dL_law_2949 ?_
  refine G_sld dL_law_2950 hX (show nI i + 2 = nI (i + 2) from nI_add i 2) (by omega) (by omega) ?_
  refine G_aload_n dL_law_2951 rfl ?_
  refine G_iload dL_law_2952 rfl ?_
  refine G_iconst (v := 3) dL_law_2954 (by decide) ?_
  refine G_iadd dL_law_2955 ?_
  refine G_sld dL_law_2956 hX (show nI i + 3 = nI (i + 3) from nI_add i 3) (by omega) (by omega) ?_
  refine G_aload_n dL_law_2957 rfl ?_
  refine G_iload dL_law_2958 rfl ?_
  refine G_iconst (v := 4) dL_law_2960 (by decide) ?_
  refine G_iadd dL_law_2961 ?_
  refine G_sld dL_law_2962 hX (show nI i + 4 = nI (i + 4) from nI_add i 4) (by omega) (by omega) ?_
  refine G_aload_n dL_law_2963 rfl ?_
  refine G_callSH (n := 6) (as := [.ref (ad E 0 0 0), .int (xs (i + 1)), .int (xs (i + 2)), .int (xs (i + 3)), .int (xs (i + 4)), .ref (ad E 27 0 0)]) (rest := []) (cs' := cs + 4) (ss' := ss + 24) dL_law_2964 lkw_306 rfl rfl (Nat.le_of_ble_eq_true rfl) (Nat.le_of_ble_eq_true rfl) (Nat.le_of_ble_eq_true rfl) rfl rfl (by show cs + 4 ≤ 601024; omega) (by show ss + 24 ≤ 7293034; omega) rfl ?_
  refine w_payBack hC hO hG (fun M1 hC1 hG1 e1 => hGo_i ?_)
  refine G_istore dL_law_2967 (Nat.le_of_ble_eq_true rfl) ?_
  refine G_aload_n dL_law_2969 rfl ?_
  refine G_aload_n dL_law_2970 rfl ?_
  refine G_iload dL_law_2971 rfl ?_
  refine G_iconst (v := 1) dL_law_2973 (by decide) ?_
  refine G_iadd dL_law_2974 ?_
  refine G_sld dL_law_2975 hX (show nI i + 1 = nI (i + 1) from nI_add i 1) (by omega) (by omega) ?_
  refine G_aload_n dL_law_2976 rfl ?_
  refine G_iload dL_law_2977 rfl ?_
  refine G_iconst (v := 2) dL_law_2979 (by decide) ?_
  refine G_iadd dL_law_2980 ?_
  refine G_sld dL_law_2981 hX (show nI i + 2 = nI (i + 2) from nI_add i 2) (by omega) (by omega) ?_
  refine G_aload_n dL_law_2982 rfl ?_
  refine G_iload dL_law_2983 rfl ?_
  refine G_iconst (v := 3) dL_law_2985 (by decide) ?_
  refine G_iadd dL_law_2986 ?_
  refine G_sld dL_law_2987 hX (show nI i + 3 = nI (i + 3) from nI_add i 3) (by omega) (by omega) ?_
  refine G_aload_n dL_law_2988 rfl ?_
  refine G_iload dL_law_2989 rfl ?_
  refine G_iconst (v := 4) dL_law_2991 (by decide) ?_
  refine G_iadd dL_law_2992 ?_
  refine G_sld dL_law_2993 hX (show nI i + 4 = nI (i + 4) from nI_add i 4) (by omega) (by omega) ?_
  refine cv_L_308 (cs' := cs + 4) (ss' := ss + 24) dL_law_2994 (Nat.le_of_ble_eq_true rfl) (Nat.le_of_ble_eq_true rfl) (Nat.le_of_ble_eq_true rfl) rfl rfl (by show cs + 4 ≤ 601024; omega) (by show ss + 24 ≤ 7293034; omega) rfl ?_
  refine m_payBack hG1 hO (fun M2 v hG2 hf2 et ev => hGo_i ?_)
  have hC2 := hC1.fm hf2
  refine G_istore dL_law_2997 (Nat.le_of_ble_eq_true rfl) ?_
  refine G_aload_n dL_law_2999 rfl ?_
  refine cv_L_165 (cs' := cs + 4) (ss' := ss + 24) dL_law_3000 (Nat.le_of_ble_eq_true rfl) (Nat.le_of_ble_eq_true rfl) (Nat.le_of_ble_eq_true rfl) rfl rfl (by show cs + 4 ≤ 601024; omega) (by show ss + 24 ≤ 7293034; omega) rfl ?_
  refine m_thrown (hGo_i ?_)
  rw [et]
  refine G_iload dL_law_3003 rfl ?_
  refine G_icmp_eq (tgt := 3010) dL_law_3005 (by decide) (fun _ => ?_) (fun z => absurd rfl z)
  refine G_iload dL_law_3010 rfl ?_
  refine G_if_ne (tgt := 3027) dL_law_3012 (by decide) (fun _ => ?_) (fun z0 => ?_)
  · refine G_goto (tgt := 3388) dL_law_3027 (by decide) ?_
    exact G_wid (by omega) (by omega) (G_lv2 (ih M2 _ hC2 hG2 (qPay_ok hO)) ⟨rfl, rfl, rfl, rfl, rfl, rfl, trivial⟩)
  · have q0 : (qPay g (xs (i + 1)) (xs (i + 2)) (xs (i + 3)) (xs (i + 4))).2.1 = 0 := nI0 (bl_qPay) z0
    have eo : M2.2.1 = M1.2.1 := congrArg Prod.fst hf2.1.1
    have el : M2.2.1 = v.toInt64 := by rw [eo, ev q0]; exact e1 q0
    refine G_aload_n dL_law_3015 rfl ?_
    refine G_iconst (v := 0) dL_law_3016 (by decide) ?_
    refine G_lald dL_law_3017 ?_
    refine G_iload dL_law_3018 rfl ?_
    refine G_i2l dL_law_3020 ?_
    refine G_lcmpE dL_law_3021 el ?_
    refine G_if_eq (tgt := 3027) dL_law_3022 (by decide) (fun _ => ?_) (fun z => absurd rfl z)
    refine G_goto (tgt := 3388) dL_law_3027 (by decide) ?_
    exact G_wid (by omega) (by omega) (G_lv2 (ih M2 _ hC2 hG2 (qPay_ok hO)) ⟨rfl, rfl, rfl, rfl, rfl, rfl, trivial⟩)
theorem bl_qMove {x r t : Int32} : (qMove g x r t).2.1 < 3 := by rcases @b_qMove g x r t with b | b | b <;> omega
theorem l_move (hX : hSc E C a L xs) (hi : i + 5 ≤ L) (hL : L ≤ 2560) (hcs : cs + 4 ≤ 601024) (hss : ss + 24 ≤ 7293034) (hC : CG M g) (hG : MG M g) (hO : Okg g) (ih : ∀ (M' : Mm) (g' : Gs), CG M' g' → MG M' g' → Okg g' → G E C RL cL_law zLw P (cs + 4) (ss + 24) M' 3388 (lvL E a i) []) : G E C RL cL_law zLw P cs ss M 3030 (lvL E a i) [] := by
  refine G_aload_n dL_law_3030 rfl ?_
  refine G_aload_n dL_law_3031 rfl ?_
  refine G_iload dL_law_3032 rfl ?_
  refine G_iconst (v := 1) dL_law_3034 (by decide) ?_
  refine G_iadd dL_law_3035 ?_
  refine G_sld dL_law_3036 hX (show nI i + 1 = nI (i + 1) from nI_add i 1) (by omega) (by omega) ?_
  refine G_aload_n dL_law_3037 rfl ?_
  refine G_iload dL_law_3038 rfl ?_
  refine G_iconst (v := 2) dL_law_3040 (by decide) ?_
  refine G_iadd dL_law_3041 ?_
  refine G_sld dL_law_3042 hX (show nI i + 2 = nI (i + 2) from nI_add i 2) (by omega) (by omega) ?_
  refine G_aload_n dL_law_3043 rfl ?_
  refine G_iload dL_law_3044 rfl ?_
  refine G_iconst (v := 3) dL_law_3046 (by decide) ?_
  refine G_iadd dL_law_3047 ?_
  refine G_sld dL_law_3048 hX (show nI i + 3 = nI (i + 3) from nI_add i 3) (by omega) (by omega) ?_
  refine G_aload_n dL_law_3049 rfl ?_
  refine G_callSH (n := 5) (as := [.ref (ad E 0 0 0), .int (xs (i + 1)), .int (xs (i + 2)), .int (xs (i + 3)), .ref (ad E 27 0 0)]) (rest := []) (cs' := cs + 3) (ss' := ss + 18) dL_law_3050 lkw_309 rfl rfl (Nat.le_of_ble_eq_true rfl) (Nat.le_of_ble_eq_true rfl) (Nat.le_of_ble_eq_true rfl) rfl rfl (by show cs + 3 ≤ 601024; omega) (by show ss + 18 ≤ 7293034; omega) rfl ?_
  refine w_move hC hO hG (fun M1 hC1 hG1 e1 => hGo_i ?_)
  refine G_istore dL_law_3053 (Nat.le_of_ble_eq_true rfl) ?_
  refine G_aload_n dL_law_3055 rfl ?_
  refine G_aload_n dL_law_3056 rfl ?_
  refine G_iload dL_law_3057 rfl ?_
  refine G_iconst (v := 1) dL_law_3059 (by decide) ?_
  refine G_iadd dL_law_3060 ?_
  refine G_sld dL_law_3061 hX (show nI i + 1 = nI (i + 1) from nI_add i 1) (by omega) (by omega) ?_
  refine G_aload_n dL_law_3062 rfl ?_
  refine G_iload dL_law_3063 rfl ?_
  refine G_iconst (v := 2) dL_law_3065 (by decide) ?_
  refine G_iadd dL_law_3066 ?_
  refine G_sld dL_law_3067 hX (show nI i + 2 = nI (i + 2) from nI_add i 2) (by omega) (by omega) ?_
  refine G_aload_n dL_law_3068 rfl ?_
  refine G_iload dL_law_3069 rfl ?_
  refine G_iconst (v := 3) dL_law_3071 (by decide) ?_
  refine G_iadd dL_law_3072 ?_
  refine G_sld dL_law_3073 hX (show nI i + 3 = nI (i + 3) from nI_add i 3) (by omega) (by omega) ?_
  refine cv_L_311 (cs' := cs + 3) (ss' := ss + 18) dL_law_3074 (Nat.le_of_ble_eq_true rfl) (Nat.le_of_ble_eq_true rfl) (Nat.le_of_ble_eq_true rfl) rfl rfl (by show cs + 3 ≤ 601024; omega) (by show ss + 18 ≤ 7293034; omega) rfl ?_
  refine m_move hG1 hO (fun M2 v hG2 hf2 et ev => hGo_i ?_)
  have hC2 := hC1.fm hf2
  refine G_istore dL_law_3077 (Nat.le_of_ble_eq_true rfl) ?_
  refine G_aload_n dL_law_3079 rfl ?_
  refine cv_L_165 (cs' := cs + 3) (ss' := ss + 18) dL_law_3080 (Nat.le_of_ble_eq_true rfl) (Nat.le_of_ble_eq_true rfl) (Nat.le_of_ble_eq_true rfl) rfl rfl (by show cs + 3 ≤ 601024; omega) (by show ss + 18 ≤ 7293034; omega) rfl ?_
  refine m_thrown (hGo_i ?_)
  rw [et]
  refine G_iload dL_law_3083 rfl ?_
  refine G_icmp_eq (tgt := 3090) dL_law_3085 (by decide) (fun _ => ?_) (fun z => absurd rfl z)
  refine G_iload dL_law_3090 rfl ?_
  refine G_if_ne (tgt := 3107) dL_law_3092 (by decide) (fun _ => ?_) (fun z0 => ?_)
  · refine G_goto (tgt := 3388) dL_law_3107 (by decide) ?_
    exact G_wid (by omega) (by omega) (G_lv2 (ih M2 _ hC2 hG2 (qMove_ok hO)) ⟨rfl, rfl, rfl, rfl, rfl, rfl, trivial⟩)
  · have q0 : (qMove g (xs (i + 1)) (xs (i + 2)) (xs (i + 3))).2.1 = 0 := nI0 (bl_qMove) z0
    have eo : M2.2.1 = M1.2.1 := congrArg Prod.fst hf2.1.1
    have el : M2.2.1 = v.toInt64 := by rw [eo, ev q0]; exact e1 q0
    refine G_aload_n dL_law_3095 rfl ?_
    refine G_iconst (v := 0) dL_law_3096 (by decide) ?_
    refine G_lald dL_law_3097 ?_
    refine G_iload dL_law_3098 rfl ?_
    refine G_i2l dL_law_3100 ?_
    refine G_lcmpE dL_law_3101 el ?_
    refine G_if_eq (tgt := 3107) dL_law_3102 (by decide) (fun _ => ?_) (fun z => absurd rfl z)
    refine G_goto (tgt := 3388) dL_law_3107 (by decide) ?_
    exact G_wid (by omega) (by omega) (G_lv2 (ih M2 _ hC2 hG2 (qMove_ok hO)) ⟨rfl, rfl, rfl, rfl, rfl, rfl, trivial⟩)
theorem bl_qConfess {x : Int32} : (qConfess g x).2.1 < 3 := by rcases @b_qConfess g x with b | b <;> omega
theorem l_confess (hX : hSc E C a L xs) (hi : i + 5 ≤ L) (hL : L ≤ 2560) (hcs : cs + 4 ≤ 601024) (hss : ss + 24 ≤ 7293034) (hC : CG M g) (hG : MG M g) (hO : Okg g) (ih : ∀ (M' : Mm) (g' : Gs), CG M' g' → MG M' g' → Okg g' → G E C RL cL_law zLw P (cs + 4) (ss + 24) M' 3388 (lvL E a i) []) : G E C RL cL_law zLw P cs ss M 3110 (lvL E a i) [] := by
  refine G_aload_n dL_law_3110 rfl ?_
  refine G_aload_n dL_law_3111 rfl ?_
  refine G_iload dL_law_3112 rfl ?_
  refine G_iconst (v := 1) dL_law_3114 (by decide) ?_
  refine G_iadd dL_law_3115 ?_
  refine G_sld dL_law_3116 hX (show nI i + 1 = nI (i + 1) from nI_add i 1) (by omega) (by omega) ?_
  refine G_aload_n dL_law_3117 rfl ?_
  refine G_callSH (n := 3) (as := [.ref (ad E 0 0 0), .int (xs (i + 1)), .ref (ad E 27 0 0)]) (rest := []) (cs' := cs + 1) (ss' := ss + 6) dL_law_3118 lkw_312 rfl rfl (Nat.le_of_ble_eq_true rfl) (Nat.le_of_ble_eq_true rfl) (Nat.le_of_ble_eq_true rfl) rfl rfl (by show cs + 1 ≤ 601024; omega) (by show ss + 6 ≤ 7293034; omega) rfl ?_
  refine w_confess hC hO hG (fun M1 hC1 hG1 e1 => hGo_i ?_)
  refine G_istore dL_law_3121 (Nat.le_of_ble_eq_true rfl) ?_
  refine G_aload_n dL_law_3123 rfl ?_
  refine G_aload_n dL_law_3124 rfl ?_
  refine G_iload dL_law_3125 rfl ?_
  refine G_iconst (v := 1) dL_law_3127 (by decide) ?_
  refine G_iadd dL_law_3128 ?_
  refine G_sld dL_law_3129 hX (show nI i + 1 = nI (i + 1) from nI_add i 1) (by omega) (by omega) ?_
  refine cv_L_314 (cs' := cs + 1) (ss' := ss + 6) dL_law_3130 (Nat.le_of_ble_eq_true rfl) (Nat.le_of_ble_eq_true rfl) (Nat.le_of_ble_eq_true rfl) rfl rfl (by show cs + 1 ≤ 601024; omega) (by show ss + 6 ≤ 7293034; omega) rfl ?_
  refine m_confess hG1 hO (fun M2 v hG2 hf2 et ev => hGo_i ?_)
  have hC2 := hC1.fm hf2
  refine G_istore dL_law_3133 (Nat.le_of_ble_eq_true rfl) ?_
  refine G_aload_n dL_law_3135 rfl ?_
  refine cv_L_165 (cs' := cs + 1) (ss' := ss + 6) dL_law_3136 (Nat.le_of_ble_eq_true rfl) (Nat.le_of_ble_eq_true rfl) (Nat.le_of_ble_eq_true rfl) rfl rfl (by show cs + 1 ≤ 601024; omega) (by show ss + 6 ≤ 7293034; omega) rfl ?_
  refine m_thrown (hGo_i ?_)
  rw [et]
  refine G_iload dL_law_3139 rfl ?_
  refine G_icmp_eq (tgt := 3146) dL_law_3141 (by decide) (fun _ => ?_) (fun z => absurd rfl z)
  refine G_iload dL_law_3146 rfl ?_
  refine G_if_ne (tgt := 3163) dL_law_3148 (by decide) (fun _ => ?_) (fun z0 => ?_)
  · refine G_goto (tgt := 3388) dL_law_3163 (by decide) ?_
    exact G_wid (by omega) (by omega) (G_lv2 (ih M2 _ hC2 hG2 (qConfess_ok hO)) ⟨rfl, rfl, rfl, rfl, rfl, rfl, trivial⟩)
  · have q0 : (qConfess g (xs (i + 1))).2.1 = 0 := nI0 (bl_qConfess) z0
    have eo : M2.2.1 = M1.2.1 := congrArg Prod.fst hf2.1.1
    have el : M2.2.1 = v.toInt64 := by rw [eo, ev q0]; exact e1 q0
    refine G_aload_n dL_law_3151 rfl ?_
    refine G_iconst (v := 0) dL_law_3152 (by decide) ?_
    refine G_lald dL_law_3153 ?_
    refine G_iload dL_law_3154 rfl ?_
    refine G_i2l dL_law_3156 ?_
    refine G_lcmpE dL_law_3157 el ?_
    refine G_if_eq (tgt := 3163) dL_law_3158 (by decide) (fun _ => ?_) (fun z => absurd rfl z)
    refine G_goto (tgt := 3388) dL_law_3163 (by decide) ?_
    exact G_wid (by omega) (by omega) (G_lv2 (ih M2 _ hC2 hG2 (qConfess_ok hO)) ⟨rfl, rfl, rfl, rfl, rfl, rfl, trivial⟩)
theorem bl_qPass {x : Int32} : (qPass g x).2.1 < 3 := by rcases @b_qPass g x with b | b <;> omega
theorem l_pass (hX : hSc E C a L xs) (hi : i + 5 ≤ L) (hL : L ≤ 2560) (hcs : cs + 4 ≤ 601024) (hss : ss + 24 ≤ 7293034) (hC : CG M g) (hG : MG M g) (hO : Okg g) (ih : ∀ (M' : Mm) (g' : Gs), CG M' g' → MG M' g' → Okg g' → G E C RL cL_law zLw P (cs + 4) (ss + 24) M' 3388 (lvL E a i) []) : G E C RL cL_law zLw P cs ss M 3166 (lvL E a i) [] := by
  refine G_aload_n dL_law_3166 rfl ?_
  refine G_aload_n dL_law_3167 rfl ?_
  refine G_iload dL_law_3168 rfl ?_
  refine G_iconst (v := 1) dL_law_3170 (by decide) ?_
  refine G_iadd dL_law_3171 ?_
  refine G_sld dL_law_3172 hX (show nI i + 1 = nI (i + 1) from nI_add i 1) (by omega) (by omega) ?_
  refine G_aload_n dL_law_3173 rfl ?_
  refine G_callSH (n := 3) (as := [.ref (ad E 0 0 0), .int (xs (i + 1)), .ref (ad E 27 0 0)]) (rest := []) (cs' := cs + 1) (ss' := ss + 6) dL_law_3174 lkw_315 rfl rfl (Nat.le_of_ble_eq_true rfl) (Nat.le_of_ble_eq_true rfl) (Nat.le_of_ble_eq_true rfl) rfl rfl (by show cs + 1 ≤ 601024; omega) (by show ss + 6 ≤ 7293034; omega) rfl ?_
  refine w_pass hC hO hG (fun M1 hC1 hG1 e1 => hGo_i ?_)
  refine G_istore dL_law_3177 (Nat.le_of_ble_eq_true rfl) ?_
  refine G_aload_n dL_law_3179 rfl ?_
  refine G_aload_n dL_law_3180 rfl ?_
  refine G_iload dL_law_3181 rfl ?_
  refine G_iconst (v := 1) dL_law_3183 (by decide) ?_
  refine G_iadd dL_law_3184 ?_
  refine G_sld dL_law_3185 hX (show nI i + 1 = nI (i + 1) from nI_add i 1) (by omega) (by omega) ?_
  refine cv_L_317 (cs' := cs + 1) (ss' := ss + 6) dL_law_3186 (Nat.le_of_ble_eq_true rfl) (Nat.le_of_ble_eq_true rfl) (Nat.le_of_ble_eq_true rfl) rfl rfl (by show cs + 1 ≤ 601024; omega) (by show ss + 6 ≤ 7293034; omega) rfl ?_
  refine m_pass hG1 hO (fun M2 v hG2 hf2 et ev => hGo_i ?_)
  have hC2 := hC1.fm hf2
  refine G_istore dL_law_3189 (Nat.le_of_ble_eq_true rfl) ?_
  refine G_aload_n dL_law_3191 rfl ?_
  refine cv_L_165 (cs' := cs + 1) (ss' := ss + 6) dL_law_3192 (Nat.le_of_ble_eq_true rfl) (Nat.le_of_ble_eq_true rfl) (Nat.le_of_ble_eq_true rfl) rfl rfl (by show cs + 1 ≤ 601024; omega) (by show ss + 6 ≤ 7293034; omega) rfl ?_
  refine m_thrown (hGo_i ?_)
  rw [et]
  refine G_iload dL_law_3195 rfl ?_
  refine G_icmp_eq (tgt := 3202) dL_law_3197 (by decide) (fun _ => ?_) (fun z => absurd rfl z)
  refine G_iload dL_law_3202 rfl ?_
  refine G_if_ne (tgt := 3219) dL_law_3204 (by decide) (fun _ => ?_) (fun z0 => ?_)
  · refine G_goto (tgt := 3388) dL_law_3219 (by decide) ?_
    exact G_wid (by omega) (by omega) (G_lv2 (ih M2 _ hC2 hG2 (qPass_ok hO)) ⟨rfl, rfl, rfl, rfl, rfl, rfl, trivial⟩)
  · have q0 : (qPass g (xs (i + 1))).2.1 = 0 := nI0 (bl_qPass) z0
    have eo : M2.2.1 = M1.2.1 := congrArg Prod.fst hf2.1.1
    have el : M2.2.1 = v.toInt64 := by rw [eo, ev q0]; exact e1 q0
    refine G_aload_n dL_law_3207 rfl ?_
    refine G_iconst (v := 0) dL_law_3208 (by decide) ?_
    refine G_lald dL_law_3209 ?_
    refine G_iload dL_law_3210 rfl ?_
    refine G_i2l dL_law_3212 ?_
    refine G_lcmpE dL_law_3213 el ?_
    refine G_if_eq (tgt := 3219) dL_law_3214 (by decide) (fun _ => ?_) (fun z => absurd rfl z)
    refine G_goto (tgt := 3388) dL_law_3219 (by decide) ?_
    exact G_wid (by omega) (by omega) (G_lv2 (ih M2 _ hC2 hG2 (qPass_ok hO)) ⟨rfl, rfl, rfl, rfl, rfl, rfl, trivial⟩)
theorem bl_qWrite {x : Int32} : (qWrite g x).2.1 < 3 := by rcases @b_qWrite g x with b | b <;> omega
theorem l_write (hX : hSc E C a L xs) (hi : i + 5 ≤ L) (hL : L ≤ 2560) (hcs : cs + 4 ≤ 601024) (hss : ss + 24 ≤ 7293034) (hC : CG M g) (hG : MG M g) (hO : Okg g) (ih : ∀ (M' : Mm) (g' : Gs), CG M' g' → MG M' g' → Okg g' → G E C RL cL_law zLw P (cs + 4) (ss + 24) M' 3388 (lvL E a i) []) : G E C RL cL_law zLw P cs ss M 3222 (lvL E a i) [] := by
  refine G_aload_n dL_law_3222 rfl ?_
  refine G_aload_n dL_law_3223 rfl ?_
  refine G_iload dL_law_3224 rfl ?_
  refine G_iconst (v := 1) dL_law_3226 (by decide) ?_
  refine G_iadd dL_law_3227 ?_
  refine G_sld dL_law_3228 hX (show nI i + 1 = nI (i + 1) from nI_add i 1) (by omega) (by omega) ?_
  refine G_aload_n dL_law_3229 rfl ?_
  refine G_callSH (n := 3) (as := [.ref (ad E 0 0 0), .int (xs (i + 1)), .ref (ad E 27 0 0)]) (rest := []) (cs' := cs + 1) (ss' := ss + 6) dL_law_3230 lkw_318 rfl rfl (Nat.le_of_ble_eq_true rfl) (Nat.le_of_ble_eq_true rfl) (Nat.le_of_ble_eq_true rfl) rfl rfl (by show cs + 1 ≤ 601024; omega) (by show ss + 6 ≤ 7293034; omega) rfl ?_
  refine w_write hC hO hG (fun M1 hC1 hG1 e1 => hGo_i ?_)
  refine G_istore dL_law_3233 (Nat.le_of_ble_eq_true rfl) ?_
  refine G_aload_n dL_law_3235 rfl ?_
  refine G_aload_n dL_law_3236 rfl ?_
  refine G_iload dL_law_3237 rfl ?_
  refine G_iconst (v := 1) dL_law_3239 (by decide) ?_
  refine G_iadd dL_law_3240 ?_
  refine G_sld dL_law_3241 hX (show nI i + 1 = nI (i + 1) from nI_add i 1) (by omega) (by omega) ?_
  refine cv_L_320 (cs' := cs + 1) (ss' := ss + 6) dL_law_3242 (Nat.le_of_ble_eq_true rfl) (Nat.le_of_ble_eq_true rfl) (Nat.le_of_ble_eq_true rfl) rfl rfl (by show cs + 1 ≤ 601024; omega) (by show ss + 6 ≤ 7293034; omega) rfl ?_
  refine m_write hG1 hO (fun M2 v hG2 hf2 et ev => hGo_i ?_)
  have hC2 := hC1.fm hf2
  refine G_istore dL_law_3245 (Nat.le_of_ble_eq_true rfl) ?_
  refine G_aload_n dL_law_3247 rfl ?_
  refine cv_L_165 (cs' := cs + 1) (ss' := ss + 6) dL_law_3248 (Nat.le_of_ble_eq_true rfl) (Nat.le_of_ble_eq_true rfl) (Nat.le_of_ble_eq_true rfl) rfl rfl (by show cs + 1 ≤ 601024; omega) (by show ss + 6 ≤ 7293034; omega) rfl ?_
  refine m_thrown (hGo_i ?_)
  rw [et]
  refine G_iload dL_law_3251 rfl ?_
  refine G_icmp_eq (tgt := 3258) dL_law_3253 (by decide) (fun _ => ?_) (fun z => absurd rfl z)
  refine G_iload dL_law_3258 rfl ?_
  refine G_if_ne (tgt := 3275) dL_law_3260 (by decide) (fun _ => ?_) (fun z0 => ?_)
  · refine G_goto (tgt := 3388) dL_law_3275 (by decide) ?_
    exact G_wid (by omega) (by omega) (G_lv2 (ih M2 _ hC2 hG2 (qWrite_ok hO)) ⟨rfl, rfl, rfl, rfl, rfl, rfl, trivial⟩)
  · have q0 : (qWrite g (xs (i + 1))).2.1 = 0 := nI0 (bl_qWrite) z0
    have eo : M2.2.1 = M1.2.1 := congrArg Prod.fst hf2.1.1
    have el : M2.2.1 = v.toInt64 := by rw [eo, ev q0]; exact e1 q0
    refine G_aload_n dL_law_3263 rfl ?_
    refine G_iconst (v := 0) dL_law_3264 (by decide) ?_
    refine G_lald dL_law_3265 ?_
    refine G_iload dL_law_3266 rfl ?_
    refine G_i2l dL_law_3268 ?_
    refine G_lcmpE dL_law_3269 el ?_
    refine G_if_eq (tgt := 3275) dL_law_3270 (by decide) (fun _ => ?_) (fun z => absurd rfl z)
    refine G_goto (tgt := 3388) dL_law_3275 (by decide) ?_
    exact G_wid (by omega) (by omega) (G_lv2 (ih M2 _ hC2 hG2 (qWrite_ok hO)) ⟨rfl, rfl, rfl, rfl, rfl, rfl, trivial⟩)
theorem l_output (hX : hSc E C a L xs) (hi : i + 5 ≤ L) (hL : L ≤ 2560) (hcs : cs + 4 ≤ 601024) (hss : ss + 24 ≤ 7293034) (hC : CG M g) (hG : MG M g) (hO : Okg g) (ih : ∀ (M' : Mm) (g' : Gs), CG M' g' → MG M' g' → Okg g' → G E C RL cL_law zLw P (cs + 4) (ss + 24) M' 3388 (lvL E a i) []) : G E C RL cL_law zLw P cs ss M 3278 (lvL E a i) [] := by
  refine G_aload_n dL_law_3278 rfl ?_
  refine G_aload_n dL_law_3279 rfl ?_
  refine G_iload dL_law_3280 rfl ?_
  refine G_iconst (v := 1) dL_law_3282 (by decide) ?_
  refine G_iadd dL_law_3283 ?_
  refine G_sld dL_law_3284 hX (show nI i + 1 = nI (i + 1) from nI_add i 1) (by omega) (by omega) ?_
  refine cv_L_321 (cs' := cs) (ss' := ss) dL_law_3285 (Nat.le_of_ble_eq_true rfl) (Nat.le_of_ble_eq_true rfl) (Nat.le_of_ble_eq_true rfl) rfl rfl (by show cs ≤ 601024; omega) (by show ss ≤ 7293034; omega) rfl ?_
  refine s_X8_output hC (hGo_i ?_)
  refine G_aload_n dL_law_3288 rfl ?_
  refine G_aload_n dL_law_3289 rfl ?_
  refine G_iload dL_law_3290 rfl ?_
  refine G_iconst (v := 1) dL_law_3292 (by decide) ?_
  refine G_iadd dL_law_3293 ?_
  refine G_sld dL_law_3294 hX (show nI i + 1 = nI (i + 1) from nI_add i 1) (by omega) (by omega) ?_
  refine cv_L_324 (cs' := cs) (ss' := ss) dL_law_3295 (Nat.le_of_ble_eq_true rfl) (Nat.le_of_ble_eq_true rfl) (Nat.le_of_ble_eq_true rfl) rfl rfl (by show cs ≤ 601024; omega) (by show ss ≤ 7293034; omega) rfl ?_
  refine m_output hG (fun M2 hG2 hf2 _ => hGo_i ?_)
  have hC2 := hC.fm hf2
  refine G_icmp_eq (tgt := 3388) dL_law_3298 (by decide) (fun _ => ?_) (fun z => absurd rfl z)
  exact G_wid (by omega) (by omega) (G_lv2 (ih M2 _ hC2 hG2 hO) ⟨rfl, rfl, rfl, rfl, rfl, rfl, trivial⟩)
theorem l_undo (hX : hSc E C a L xs) (hi : i + 5 ≤ L) (hL : L ≤ 2560) (hcs : cs + 4 ≤ 601024) (hss : ss + 24 ≤ 7293034) (hC : CG M g) (hG : MG M g) (hO : Okg g) (ih : ∀ (M' : Mm) (g' : Gs), CG M' g' → MG M' g' → Okg g' → G E C RL cL_law zLw P (cs + 4) (ss + 24) M' 3388 (lvL E a i) []) : G E C RL cL_law zLw P cs ss M 3303 (lvL E a i) [] := by
  refine G_aload_n dL_law_3303 rfl ?_
  refine cv_L_325 (cs' := cs) (ss' := ss) dL_law_3304 (Nat.le_of_ble_eq_true rfl) (Nat.le_of_ble_eq_true rfl) (Nat.le_of_ble_eq_true rfl) rfl rfl (by show cs ≤ 601024; omega) (by show ss ≤ 7293034; omega) rfl ?_
  refine s_X8_undo hC hO (fun M1 hC1 hf => hGo_i ?_)
  refine G_aload_n dL_law_3307 rfl ?_
  refine cv_L_328 (cs' := cs) (ss' := ss) dL_law_3308 (Nat.le_of_ble_eq_true rfl) (Nat.le_of_ble_eq_true rfl) (Nat.le_of_ble_eq_true rfl) rfl rfl (by show cs ≤ 601024; omega) (by show ss ≤ 7293034; omega) rfl ?_
  refine m_undo (hG.cl hf) hO (fun M2 hG2 hf2 _ => hGo_i ?_)
  have hC2 := hC1.fm hf2
  refine G_icmp_eq (tgt := 3388) dL_law_3311 (by decide) (fun _ => ?_) (fun z => absurd rfl z)
  exact G_wid (by omega) (by omega) (G_lv2 (ih M2 _ hC2 hG2 (sUndo_ok hO)) ⟨rfl, rfl, rfl, rfl, rfl, rfl, trivial⟩)
theorem l_save (hX : hSc E C a L xs) (hi : i + 5 ≤ L) (hL : L ≤ 2560) (hcs : cs + 4 ≤ 601024) (hss : ss + 24 ≤ 7293034) (hC : CG M g) (hG : MG M g) (hO : Okg g) (ih : ∀ (M' : Mm) (g' : Gs), CG M' g' → MG M' g' → Okg g' → G E C RL cL_law zLw P (cs + 4) (ss + 24) M' 3388 (lvL E a i) []) : G E C RL cL_law zLw P cs ss M 3316 (lvL E a i) [] := by
  refine G_aload_n dL_law_3316 rfl ?_
  refine G_aload_n dL_law_3317 rfl ?_
  refine G_iload dL_law_3318 rfl ?_
  refine G_iconst (v := 1) dL_law_3320 (by decide) ?_
  refine G_iadd dL_law_3321 ?_
  refine G_sld dL_law_3322 hX (show nI i + 1 = nI (i + 1) from nI_add i 1) (by omega) (by omega) ?_
  refine G_callSH (n := 2) (as := [.ref (ad E 0 0 0), .int (xs (i + 1))]) (rest := []) (cs' := cs + 1) (ss' := ss + 6) dL_law_3323 lkw_329 rfl rfl (Nat.le_of_ble_eq_true rfl) (Nat.le_of_ble_eq_true rfl) (Nat.le_of_ble_eq_true rfl) rfl rfl (by show cs + 1 ≤ 601024; omega) (by show ss + 6 ≤ 7293034; omega) rfl ?_
  refine w_save hC hO hG (fun M1 hC1 hG1 => hGo_i ?_)
  refine G_istore dL_law_3326 (Nat.le_of_ble_eq_true rfl) ?_
  refine G_aload_n dL_law_3328 rfl ?_
  refine G_aload_n dL_law_3329 rfl ?_
  refine G_iload dL_law_3330 rfl ?_
  refine G_iconst (v := 1) dL_law_3332 (by decide) ?_
  refine G_iadd dL_law_3333 ?_
  refine G_sld dL_law_3334 hX (show nI i + 1 = nI (i + 1) from nI_add i 1) (by omega) (by omega) ?_
  refine cv_L_332 (cs' := cs + 1) (ss' := ss + 6) dL_law_3335 (Nat.le_of_ble_eq_true rfl) (Nat.le_of_ble_eq_true rfl) (Nat.le_of_ble_eq_true rfl) rfl rfl (by show cs + 1 ≤ 601024; omega) (by show ss + 6 ≤ 7293034; omega) rfl ?_
  refine m_save hG1 hO (fun M2 hG2 hf2 et => hGo_v ?_)
  have hC2 := hC1.fm hf2
  refine G_aload_n dL_law_3338 rfl ?_
  refine cv_L_165 (cs' := cs + 1) (ss' := ss + 6) dL_law_3339 (Nat.le_of_ble_eq_true rfl) (Nat.le_of_ble_eq_true rfl) (Nat.le_of_ble_eq_true rfl) rfl rfl (by show cs + 1 ≤ 601024; omega) (by show ss + 6 ≤ 7293034; omega) rfl ?_
  refine m_thrown (hGo_i ?_)
  rw [et]
  refine G_iload dL_law_3342 rfl ?_
  refine G_icmp_eq (tgt := 3349) dL_law_3344 (by decide) (fun _ => ?_) (fun z => absurd rfl z)
  refine G_goto (tgt := 3388) dL_law_3349 (by decide) ?_
  exact G_wid (by omega) (by omega) (G_lv2 (ih M2 _ hC2 hG2 (qSave_ok hO)) ⟨rfl, rfl, rfl, rfl, rfl, rfl, trivial⟩)
theorem l_restore (hX : hSc E C a L xs) (hi : i + 5 ≤ L) (hL : L ≤ 2560) (hcs : cs + 4 ≤ 601024) (hss : ss + 24 ≤ 7293034) (hC : CG M g) (hG : MG M g) (hO : Okg g) (ih : ∀ (M' : Mm) (g' : Gs), CG M' g' → MG M' g' → Okg g' → G E C RL cL_law zLw P (cs + 4) (ss + 24) M' 3388 (lvL E a i) []) : G E C RL cL_law zLw P cs ss M 3352 (lvL E a i) [] := by
  refine G_aload_n dL_law_3352 rfl ?_
  refine G_aload_n dL_law_3353 rfl ?_
  refine G_iload dL_law_3354 rfl ?_
  refine G_iconst (v := 1) dL_law_3356 (by decide) ?_
  refine G_iadd dL_law_3357 ?_
  refine G_sld dL_law_3358 hX (show nI i + 1 = nI (i + 1) from nI_add i 1) (by omega) (by omega) ?_
  refine G_callSH (n := 2) (as := [.ref (ad E 0 0 0), .int (xs (i + 1))]) (rest := []) (cs' := cs + 2) (ss' := ss + 12) dL_law_3359 lkw_333 rfl rfl (Nat.le_of_ble_eq_true rfl) (Nat.le_of_ble_eq_true rfl) (Nat.le_of_ble_eq_true rfl) rfl rfl (by show cs + 2 ≤ 601024; omega) (by show ss + 12 ≤ 7293034; omega) rfl ?_
  refine w_restore hC hO hG (fun M1 hC1 hG1 => hGo_i ?_)
  refine G_istore dL_law_3362 (Nat.le_of_ble_eq_true rfl) ?_
  refine G_aload_n dL_law_3364 rfl ?_
  refine G_aload_n dL_law_3365 rfl ?_
  refine G_iload dL_law_3366 rfl ?_
  refine G_iconst (v := 1) dL_law_3368 (by decide) ?_
  refine G_iadd dL_law_3369 ?_
  refine G_sld dL_law_3370 hX (show nI i + 1 = nI (i + 1) from nI_add i 1) (by omega) (by omega) ?_
  refine cv_L_335 (cs' := cs + 2) (ss' := ss + 12) dL_law_3371 (Nat.le_of_ble_eq_true rfl) (Nat.le_of_ble_eq_true rfl) (Nat.le_of_ble_eq_true rfl) rfl rfl (by show cs + 2 ≤ 601024; omega) (by show ss + 12 ≤ 7293034; omega) rfl ?_
  refine m_restore hG1 hO (fun M2 hG2 hf2 et => hGo_v ?_)
  have hC2 := hC1.fm hf2
  refine G_aload_n dL_law_3374 rfl ?_
  refine cv_L_165 (cs' := cs + 2) (ss' := ss + 12) dL_law_3375 (Nat.le_of_ble_eq_true rfl) (Nat.le_of_ble_eq_true rfl) (Nat.le_of_ble_eq_true rfl) rfl rfl (by show cs + 2 ≤ 601024; omega) (by show ss + 12 ≤ 7293034; omega) rfl ?_
  refine m_thrown (hGo_i ?_)
  rw [et]
  refine G_iload dL_law_3378 rfl ?_
  refine G_icmp_eq (tgt := 3385) dL_law_3380 (by decide) (fun _ => ?_) (fun z => absurd rfl z)
  refine G_goto (tgt := 3388) dL_law_3385 (by decide) ?_
  exact G_wid (by omega) (by omega) (G_lv2 (ih M2 _ hC2 hG2 (qRestore_ok hO)) ⟨rfl, rfl, rfl, rfl, rfl, rfl, trivial⟩)
end LCASE
