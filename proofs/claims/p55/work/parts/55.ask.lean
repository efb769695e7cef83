/-! ===== what is asked of the class, the arguments in their ranges ===== -/
section LASK
variable {E : Ed} {M : Mm} {P : Res → Mm → Prop} {g : Gs}
theorem inR_nI {a k b : Nat} (h1 : a ≤ k) (h2 : k ≤ b) (hb : b < 2 ^ 31) : inR (nI k) (nI a) (nI b) := ⟨nI_le h1 (by omega), nI_le h2 hb⟩
theorem inP_nI {A : Ab} {p : Nat} (hp : p < A.n) (hn : A.n ≤ 12) : inP A (nI p) := ⟨nI_pos' (by omega), nI_lt hp (by omega)⟩
theorem inD_nI {A : Ab} {p : Nat} (hp : p < A.d.length) (hn : A.d.length ≤ 30) : inD A (nI p) := ⟨nI_pos' (by omega), nI_lt hp (by omega)⟩
theorem u_count {k : Nat} (hk : k ≤ 12) (hC : CG M g) (h : P (.inl (some (.int (cntV g k)))) M) : Sp E yX8_count cX8_count zX8_count [.ref (ad E 0 0 0), .int (nI k)] M P := by
  have h12 := hC.1.n12
  have h30 := hC.1.d.2.1
  refine s_X8_count hC ?_
  rw [qCount, if_pos (show inR (nI k) 0 12 from inR_nI (a := 0) (b := 12) (Nat.zero_le _) (by omega) (by decide)), tn_nI (show k < 2 ^ 31 by omega)]
  exact h
theorem u_tally {k : Nat} (hk : k ≤ 9) (hC : CG M g) (h : P (.inl (some (.int (g.A.g (7 + k))))) M) : Sp E yX8_tally cX8_tally zX8_tally [.ref (ad E 0 0 0), .int (nI k)] M P := by
  have h12 := hC.1.n12
  have h30 := hC.1.d.2.1
  refine s_X8_tally hC ?_
  rw [qTally, if_pos (show inR (nI k) 0 9 from inR_nI (a := 0) (b := 9) (Nat.zero_le _) (by omega) (by decide)), tn_nI (show k < 2 ^ 31 by omega)]
  exact h
theorem u_pupil {p k : Nat} (hp : p < g.A.n) (hk : k ≤ 13) (hC : CG M g) (hO : Okg g) (h : P (.inl (some (.int (pupV g.A p k)))) M) : Sp E yX8_pupil cX8_pupil zX8_pupil [.ref (ad E 0 0 0), .int (nI p), .int (nI k)] M P := by
  have h12 := hC.1.n12
  have h30 := hC.1.d.2.1
  refine s_X8_pupil hC hO ?_
  rw [qPupil, if_pos (inP_nI hp h12), if_pos (show inR (nI k) 0 13 from inR_nI (a := 0) (b := 13) (Nat.zero_le _) (by omega) (by decide)), tn_nI (show p < 2 ^ 31 by omega), tn_nI (show k < 2 ^ 31 by omega)]
  exact h
theorem u_piece {p s : Nat} {x : Int32} (hp : p < g.A.n) (hs : s ≤ 1) (hC : CG M g) (h : P (.inl (some (.int (atL (g.A.s (2 * p + s)) x)))) M) : Sp E yX8_piece cX8_piece zX8_piece [.ref (ad E 0 0 0), .int (nI p), .int (nI s), .int x] M P := by
  have h12 := hC.1.n12
  have h30 := hC.1.d.2.1
  refine s_X8_piece hC ?_
  rw [qPiece, if_pos (inP_nI hp h12), if_pos (show inR (nI s) 0 1 from inR_nI (a := 0) (b := 1) (Nat.zero_le _) (by omega) (by decide)), tn_nI (show p < 2 ^ 31 by omega), tn_nI (show s < 2 ^ 31 by omega)]
  exact h
theorem u_madeBy {p s m : Nat} (hp : p < g.A.n) (hs : s ≤ 1) (hm : m < g.A.n) (hC : CG M g) (h : P (.inl (some (.int (sm (g.A.s (2 * p + s)).length (fun k => if (g.A.s (2 * p + s)).getD k 0 = nI m then 1 else 0))))) M) : Sp E yX8_madeBy cX8_madeBy zX8_madeBy [.ref (ad E 0 0 0), .int (nI p), .int (nI s), .int (nI m)] M P := by
  have h12 := hC.1.n12
  have h30 := hC.1.d.2.1
  refine s_X8_madeBy hC ?_
  rw [qMadeBy, if_pos ⟨inP_nI hp h12, inP_nI hm h12⟩, if_pos (show inR (nI s) 0 1 from inR_nI (a := 0) (b := 1) (Nat.zero_le _) (by omega) (by decide)), tn_nI (show p < 2 ^ 31 by omega), tn_nI (show s < 2 ^ 31 by omega)]
  exact h
theorem u_debt {i k : Nat} (hi : i < g.A.d.length) (hk : k ≤ 3) (hC : CG M g) (h : P (.inl (some (.int (dg g.A.d i k)))) M) : Sp E yX8_debt cX8_debt zX8_debt [.ref (ad E 0 0 0), .int (nI i), .int (nI k)] M P := by
  have h12 := hC.1.n12
  have h30 := hC.1.d.2.1
  refine s_X8_debt hC ?_
  rw [qDebt, if_pos (inD_nI hi h30), if_pos (show inR (nI k) 0 3 from inR_nI (a := 0) (b := 3) (Nat.zero_le _) (by omega) (by decide)), tn_nI (show i < 2 ^ 31 by omega), tn_nI (show k < 2 ^ 31 by omega)]
  exact h
theorem u_owes {x y s : Nat} (hx : x < g.A.n) (hy : y < g.A.n) (hs : s ≤ 1) (hC : CG M g) (h : P (.inl (some (.int (owedV g.A.d (nI x) (nI y) (nI s))))) M) : Sp E yX8_owes cX8_owes zX8_owes [.ref (ad E 0 0 0), .int (nI x), .int (nI y), .int (nI s)] M P := by
  have h12 := hC.1.n12
  have h30 := hC.1.d.2.1
  refine s_X8_owes hC ?_
  rw [qOwes, if_pos ⟨inP_nI hx h12, inP_nI hy h12⟩, if_pos (show inR (nI s) 0 1 from inR_nI (a := 0) (b := 1) (Nat.zero_le _) (by omega) (by decide))]
  exact h
theorem u_isNear {x y : Nat} (hx : x < g.A.n) (hy : y < g.A.n) (hC : CG M g) (h : P (.inl (some (.int (if nr g.A x y = true then 1 else 0)))) M) : Sp E yX8_isNear cX8_isNear zX8_isNear [.ref (ad E 0 0 0), .int (nI x), .int (nI y)] M P := by
  have h12 := hC.1.n12
  have h30 := hC.1.d.2.1
  refine s_X8_isNear hC ?_
  rw [qNear, if_pos ⟨inP_nI hx h12, inP_nI hy h12⟩, tn_nI (show x < 2 ^ 31 by omega), tn_nI (show y < 2 ^ 31 by omega)]
  exact h
theorem u_witness {p : Nat} {x : Int32} (hp : p < g.A.n) (hC : CG M g) (h : P (.inl (some (.int (lowV (g.A.f p 9) x)))) M) : Sp E yX8_witness cX8_witness zX8_witness [.ref (ad E 0 0 0), .int (nI p), .int x] M P := by
  have h12 := hC.1.n12
  have h30 := hC.1.d.2.1
  refine s_X8_witness hC ?_
  rw [qWitness, if_pos (inP_nI hp h12), tn_nI (show p < 2 ^ 31 by omega)]
  exact h
theorem u_bench {r t : Nat} (hr : r ≤ 5) (ht : t ≤ 5) (hC : CG M g) (h : P (.inl (some (.int (onV g.A (nI r) (nI t))))) M) : Sp E yX8_bench cX8_bench zX8_bench [.ref (ad E 0 0 0), .int (nI r), .int (nI t)] M P := by
  have h12 := hC.1.n12
  have h30 := hC.1.d.2.1
  refine s_X8_bench hC ?_
  rw [qBench, if_pos ⟨(show inR (nI r) 0 5 from inR_nI (a := 0) (b := 5) (Nat.zero_le _) (by omega) (by decide)), (show inR (nI t) 0 5 from inR_nI (a := 0) (b := 5) (Nat.zero_le _) (by omega) (by decide))⟩]
  exact h
theorem u_seers {x y : Nat} (hx : x < g.A.n) (hy : y < g.A.n) (hxy : x ≠ y) (hC : CG M g) (h : P (.inl (some (.int (bc (seersV g.A x y))))) M) : Sp E yX8_seers cX8_seers zX8_seers [.ref (ad E 0 0 0), .int (nI x), .int (nI y)] M P := by
  have h12 := hC.1.n12
  have h30 := hC.1.d.2.1
  refine s_X8_seers hC ?_
  rw [qSeers, if_pos ⟨inP_nI hx h12, inP_nI hy h12⟩, if_pos (fun q => hxy ((nI_eq (by omega) (by omega)).mp q)), tn_nI (show x < 2 ^ 31 by omega), tn_nI (show y < 2 ^ 31 by omega)]
  exact h
theorem u_why0 {p : Nat} (hp : p < g.A.n) (hC : CG M g) (hO : Okg g) (h : P (.inl (some (.int (standV g.A p)))) M) : Sp E yX8_why cX8_why zX8_why [.ref (ad E 0 0 0), .int (nI p), .int 0] M P := by
  have h12 := hC.1.n12
  refine s_X8_why hC hO ?_
  rw [qWhy, if_pos (inP_nI hp h12), if_pos (show inR 0 0 1 by decide), if_pos rfl, tn_nI (show p < 2 ^ 31 by omega)]
  exact h
theorem u_why1 {p : Nat} (hp : p < g.A.n) (hC : CG M g) (hO : Okg g) (h : P (.inl (some (.int (whyV g.A p)))) M) : Sp E yX8_why cX8_why zX8_why [.ref (ad E 0 0 0), .int (nI p), .int 1] M P := by
  have h12 := hC.1.n12
  refine s_X8_why hC hO ?_
  rw [qWhy, if_pos (inP_nI hp h12), if_pos (show inR 1 0 1 by decide), if_neg (show ¬ (1 : Int32) = 0 by decide), tn_nI (show p < 2 ^ 31 by omega)]
  exact h
theorem u_most  (hC : CG M g) (hO : Okg g) (h : P (.inl (some (.int (nI (bestV (fun p => g.A.f p 7) g.A.n))))) M) : Sp E yX8_most cX8_most zX8_most [.ref (ad E 0 0 0), .int 0] M P := by
  have h12 := hC.1.n12
  have h30 := hC.1.d.2.1
  refine s_X8_most hC hO ?_
  rw [qMost, if_pos (show inR 0 0 4 by decide)]
  exact h
theorem u_ranked {s : Nat} {x : Int32} (hs : s ≤ 1) (hC : CG M g) (h : P (.inl (some (.int (first g.A.n (fun i => decide (rankV g.A i s = x)))))) M) : Sp E yX8_ranked cX8_ranked zX8_ranked [.ref (ad E 0 0 0), .int (nI s), .int x] M P := by
  have h12 := hC.1.n12
  have h30 := hC.1.d.2.1
  refine s_X8_ranked hC ?_
  rw [qRanked, if_pos (show inR (nI s) 0 1 from inR_nI (a := 0) (b := 1) (Nat.zero_le _) (by omega) (by decide)), tn_nI (show s < 2 ^ 31 by omega)]
  exact h
theorem u_mostOf {s : Nat} (hs : s ≤ 1) (hC : CG M g) (hO : Okg g) (h : P (.inl (some (.int (nI (bestV (fun p => nI (g.A.s (2 * p + s)).length) g.A.n))))) M) : Sp E yX8_mostOf cX8_mostOf zX8_mostOf [.ref (ad E 0 0 0), .int (nI s)] M P := by
  have h12 := hC.1.n12
  have h30 := hC.1.d.2.1
  refine s_X8_mostOf hC hO ?_
  rw [qMostOf, if_pos (show inR (nI s) 0 1 from inR_nI (a := 0) (b := 1) (Nat.zero_le _) (by omega) (by decide)), tn_nI (show s < 2 ^ 31 by omega)]
  exact h
theorem u_makers {p s : Nat} (hp : p < g.A.n) (hs : s ≤ 1) (hC : CG M g) (h : P (.inl (some (.int (bc (bitsL (g.A.s (2 * p + s)) (-1) (g.A.s (2 * p + s)).length))))) M) : Sp E yX8_makers cX8_makers zX8_makers [.ref (ad E 0 0 0), .int (nI p), .int (nI s)] M P := by
  have h12 := hC.1.n12
  have h30 := hC.1.d.2.1
  refine s_X8_makers hC ?_
  rw [qMakers, if_pos (inP_nI hp h12), if_pos (show inR (nI s) 0 1 from inR_nI (a := 0) (b := 1) (Nat.zero_le _) (by omega) (by decide)), tn_nI (show p < 2 ^ 31 by omega), tn_nI (show s < 2 ^ 31 by omega)]
  exact h
theorem u_needs {p s : Nat} (hp : p < g.A.n) (hs : s ≤ 1) (hC : CG M g) (h : P (.inl (some (.int (g.A.g (4 + s) - hdV g.A p s)))) M) : Sp E yX8_needs cX8_needs zX8_needs [.ref (ad E 0 0 0), .int (nI p), .int (nI s)] M P := by
  have h12 := hC.1.n12
  have h30 := hC.1.d.2.1
  refine s_X8_needs hC ?_
  rw [qNeeds, if_pos (inP_nI hp h12), if_pos (show inR (nI s) 0 1 from inR_nI (a := 0) (b := 1) (Nat.zero_le _) (by omega) (by decide)), tn_nI (show p < 2 ^ 31 by omega), tn_nI (show s < 2 ^ 31 by omega)]
  exact h
theorem u_nearTo {p : Nat} {x : Int32} (hp : p < g.A.n) (hC : CG M g) (h : P (.inl (some (.int (lowV (nearsV g.A p) x)))) M) : Sp E yX8_nearTo cX8_nearTo zX8_nearTo [.ref (ad E 0 0 0), .int (nI p), .int x] M P := by
  have h12 := hC.1.n12
  have h30 := hC.1.d.2.1
  refine s_X8_nearTo hC ?_
  rw [qNearTo, if_pos (inP_nI hp h12), tn_nI (show p < 2 ^ 31 by omega)]
  exact h
theorem u_debtOf {p : Nat} {x : Int32} (hp : p < g.A.n) (hC : CG M g) (h : P (.inl (some (.int (debtOfV g.A.d (nI p) x)))) M) : Sp E yX8_debtOf cX8_debtOf zX8_debtOf [.ref (ad E 0 0 0), .int (nI p), .int x] M P := by
  have h12 := hC.1.n12
  have h30 := hC.1.d.2.1
  refine s_X8_debtOf hC ?_
  rw [qDebtOf, if_pos (inP_nI hp h12)]
  exact h
theorem u_canPay {i : Nat} (hi : i < g.A.d.length) (hC : CG M g) (hO : Okg g) (h : P (.inl (some (.int (canPayV g.A i)))) M) : Sp E yX8_canPay cX8_canPay zX8_canPay [.ref (ad E 0 0 0), .int (nI i)] M P := by
  have h12 := hC.1.n12
  have h30 := hC.1.d.2.1
  refine s_X8_canPay hC hO ?_
  rw [qCanPay, if_pos (inD_nI hi h30), tn_nI (show i < 2 ^ 31 by omega)]
  exact h
theorem u_couldMake {p s : Nat} (hp : p < g.A.n) (hs : s ≤ 1) (hC : CG M g) (h : P (.inl (some (.int (couldV g.A p s)))) M) : Sp E yX8_couldMake cX8_couldMake zX8_couldMake [.ref (ad E 0 0 0), .int (nI p), .int (nI s)] M P := by
  have h12 := hC.1.n12
  have h30 := hC.1.d.2.1
  refine s_X8_couldMake hC ?_
  rw [qCouldMake, if_pos (inP_nI hp h12), if_pos (show inR (nI s) 0 1 from inR_nI (a := 0) (b := 1) (Nat.zero_le _) (by omega) (by decide)), tn_nI (show p < 2 ^ 31 by omega), tn_nI (show s < 2 ^ 31 by omega)]
  exact h
theorem u_ifWeek {p k : Nat} (hp : p < g.A.n) (hk : k ≤ 2) (hC : CG M g) (hO : Okg g) (h : P (.inl (some (.int (ifWeekV g.A p k)))) M) : Sp E yX8_ifWeek cX8_ifWeek zX8_ifWeek [.ref (ad E 0 0 0), .int (nI p), .int (nI k)] M P := by
  have h12 := hC.1.n12
  have h30 := hC.1.d.2.1
  refine s_X8_ifWeek hC hO ?_
  rw [qIfWeek, if_pos (inP_nI hp h12), if_pos (show inR (nI k) 0 2 from inR_nI (a := 0) (b := 2) (Nat.zero_le _) (by omega) (by decide)), tn_nI (show p < 2 ^ 31 by omega), tn_nI (show k < 2 ^ 31 by omega)]
  exact h
theorem u_ifMoved {p r t : Nat} (hp : p < g.A.n) (hr : r ≤ 5) (ht : t ≤ 5) (hC : CG M g) (h : P (.inl (some (.int (spNearV g.A p (nI r) (nI t))))) M) : Sp E yX8_ifMoved cX8_ifMoved zX8_ifMoved [.ref (ad E 0 0 0), .int (nI p), .int (nI r), .int (nI t)] M P := by
  have h12 := hC.1.n12
  have h30 := hC.1.d.2.1
  refine s_X8_ifMoved hC ?_
  rw [qIfMoved, if_pos (inP_nI hp h12), if_pos ⟨(show inR (nI r) 0 5 from inR_nI (a := 0) (b := 5) (Nat.zero_le _) (by omega) (by decide)), (show inR (nI t) 0 5 from inR_nI (a := 0) (b := 5) (Nat.zero_le _) (by omega) (by decide))⟩, tn_nI (show p < 2 ^ 31 by omega)]
  exact h
theorem u_whySwap {x y n m : Nat} (hx : x < g.A.n) (hy : y < g.A.n) (hn : n ≤ 20) (hm : m ≤ 20) (hC : CG M g) (h : P (.inl (some (.int (rSwap g.A x y n m)))) M) : Sp E yX8_whySwap cX8_whySwap zX8_whySwap [.ref (ad E 0 0 0), .int (nI x), .int (nI y), .int (nI n), .int (nI m)] M P := by
  have h12 := hC.1.n12
  have h30 := hC.1.d.2.1
  refine s_X8_whySwap hC ?_
  rw [qWhySwap, if_pos ⟨inP_nI hx h12, inP_nI hy h12⟩, if_pos ⟨(show inR (nI n) 0 20 from inR_nI (a := 0) (b := 20) (Nat.zero_le _) (by omega) (by decide)), (show inR (nI m) 0 20 from inR_nI (a := 0) (b := 20) (Nat.zero_le _) (by omega) (by decide))⟩, tn_nI (show x < 2 ^ 31 by omega), tn_nI (show y < 2 ^ 31 by omega), tn_nI (show n < 2 ^ 31 by omega), tn_nI (show m < 2 ^ 31 by omega)]
  exact h
theorem u_whyLend {x y s n : Nat} (hx : x < g.A.n) (hy : y < g.A.n) (hs : s ≤ 1) (hn1 : 1 ≤ n) (hn : n ≤ 20) (hC : CG M g) (h : P (.inl (some (.int (rLend g.A x y s n)))) M) : Sp E yX8_whyLend cX8_whyLend zX8_whyLend [.ref (ad E 0 0 0), .int (nI x), .int (nI y), .int (nI s), .int (nI n)] M P := by
  have h12 := hC.1.n12
  have h30 := hC.1.d.2.1
  refine s_X8_whyLend hC ?_
  rw [qWhyLend, if_pos ⟨inP_nI hx h12, inP_nI hy h12⟩, if_pos ⟨(show inR (nI s) 0 1 from inR_nI (a := 0) (b := 1) (Nat.zero_le _) (by omega) (by decide)), (show inR (nI n) 1 20 from inR_nI (a := 1) (b := 20) (by omega) (by omega) (by decide))⟩, tn_nI (show x < 2 ^ 31 by omega), tn_nI (show y < 2 ^ 31 by omega), tn_nI (show s < 2 ^ 31 by omega), tn_nI (show n < 2 ^ 31 by omega)]
  exact h
theorem u_safestBench {p : Nat} (hp : p < g.A.n) (hC : CG M g) (h : P (.inl (some (.int ((sbF g.A p 36).1)))) M) : Sp E yX8_safestBench cX8_safestBench zX8_safestBench [.ref (ad E 0 0 0), .int (nI p)] M P := by
  have h12 := hC.1.n12
  have h30 := hC.1.d.2.1
  refine s_X8_safestBench hC ?_
  rw [qSafestBench, if_pos (inP_nI hp h12), tn_nI (show p < 2 ^ 31 by omega)]
  exact h
theorem u_work {p s n : Nat} (hp : p < g.A.n) (hs : s ≤ 1) (hn1 : 1 ≤ n) (hn : n ≤ 20) (hC : CG M g) (hO : Okg g) (h : ∀ M', CG M' (sWork g p s n).1 → Fr dCl M M' → P (.inl (some (.int (sWork g p s n).2))) M') : Sp E yX8_work cX8_work zX8_work [.ref (ad E 0 0 0), .int (nI p), .int (nI s), .int (nI n)] M P := by
  have h12 := hC.1.n12
  have e : qWork g (nI p) (nI s) (nI n) = ans (sWork g p s n) := by
    rw [qWork, if_pos (inP_nI hp h12), if_pos ⟨(show inR (nI s) 0 1 from inR_nI (a := 0) (b := 1) (Nat.zero_le _) (by omega) (by decide)), (show inR (nI n) 1 20 from inR_nI (a := 1) (b := 20) (by omega) (by omega) (by decide))⟩, tn_nI (show p < 2 ^ 31 by omega), tn_nI (show s < 2 ^ 31 by omega), tn_nI (show n < 2 ^ 31 by omega)]
  refine s_X8_work hC hO ?_
  rw [e]
  exact h
theorem u_swap {x y n m : Nat} (hx : x < g.A.n) (hy : y < g.A.n) (hn : n ≤ 20) (hm : m ≤ 20) (hC : CG M g) (hO : Okg g) (h : ∀ M', CG M' (sSwap g x y n m).1 → Fr dCl M M' → P (.inl (some (.int (sSwap g x y n m).2))) M') : Sp E yX8_swap cX8_swap zX8_swap [.ref (ad E 0 0 0), .int (nI x), .int (nI y), .int (nI n), .int (nI m)] M P := by
  have h12 := hC.1.n12
  have e : qSwap g (nI x) (nI y) (nI n) (nI m) = ans (sSwap g x y n m) := by
    rw [qSwap, if_pos ⟨inP_nI hx h12, inP_nI hy h12⟩, if_pos ⟨(show inR (nI n) 0 20 from inR_nI (a := 0) (b := 20) (Nat.zero_le _) (by omega) (by decide)), (show inR (nI m) 0 20 from inR_nI (a := 0) (b := 20) (Nat.zero_le _) (by omega) (by decide))⟩, tn_nI (show x < 2 ^ 31 by omega), tn_nI (show y < 2 ^ 31 by omega), tn_nI (show n < 2 ^ 31 by omega), tn_nI (show m < 2 ^ 31 by omega)]
  refine s_X8_swap hC hO ?_
  rw [e]
  exact h
theorem u_lend {x y s n : Nat} (hx : x < g.A.n) (hy : y < g.A.n) (hs : s ≤ 1) (hn1 : 1 ≤ n) (hn : n ≤ 20) (hC : CG M g) (hO : Okg g) (h : ∀ M', CG M' (sLend g x y s n).1 → Fr dCl M M' → P (.inl (some (.int (sLend g x y s n).2))) M') : Sp E yX8_lend cX8_lend zX8_lend [.ref (ad E 0 0 0), .int (nI x), .int (nI y), .int (nI s), .int (nI n)] M P := by
  have h12 := hC.1.n12
  have e : qLend g (nI x) (nI y) (nI s) (nI n) = ans (sLend g x y s n) := by
    rw [qLend, if_pos ⟨inP_nI hx h12, inP_nI hy h12⟩, if_pos ⟨(show inR (nI s) 0 1 from inR_nI (a := 0) (b := 1) (Nat.zero_le _) (by omega) (by decide)), (show inR (nI n) 1 20 from inR_nI (a := 1) (b := 20) (by omega) (by omega) (by decide))⟩, tn_nI (show x < 2 ^ 31 by omega), tn_nI (show y < 2 ^ 31 by omega), tn_nI (show s < 2 ^ 31 by omega), tn_nI (show n < 2 ^ 31 by omega)]
  refine s_X8_lend hC hO ?_
  rw [e]
  exact h
theorem u_payBack {x y s n : Nat} (hx : x < g.A.n) (hy : y < g.A.n) (hs : s ≤ 1) (hn1 : 1 ≤ n) (hn : n ≤ 20) (hC : CG M g) (hO : Okg g) (h : ∀ M', CG M' (sPay g x y s n).1 → Fr dCl M M' → P (.inl (some (.int (sPay g x y s n).2))) M') : Sp E yX8_payBack cX8_payBack zX8_payBack [.ref (ad E 0 0 0), .int (nI x), .int (nI y), .int (nI s), .int (nI n)] M P := by
  have h12 := hC.1.n12
  have e : qPay g (nI x) (nI y) (nI s) (nI n) = ans (sPay g x y s n) := by
    rw [qPay, if_pos ⟨inP_nI hx h12, inP_nI hy h12⟩, if_pos ⟨(show inR (nI s) 0 1 from inR_nI (a := 0) (b := 1) (Nat.zero_le _) (by omega) (by decide)), (show inR (nI n) 1 20 from inR_nI (a := 1) (b := 20) (by omega) (by omega) (by decide))⟩, tn_nI (show x < 2 ^ 31 by omega), tn_nI (show y < 2 ^ 31 by omega), tn_nI (show s < 2 ^ 31 by omega), tn_nI (show n < 2 ^ 31 by omega)]
  refine s_X8_payBack hC hO ?_
  rw [e]
  exact h
theorem u_move {p r t : Nat} (hp : p < g.A.n) (hr : r ≤ 5) (ht : t ≤ 5) (hC : CG M g) (hO : Okg g) (h : ∀ M', CG M' (sMove g p (nI r) (nI t)).1 → Fr dCl M M' → P (.inl (some (.int (sMove g p (nI r) (nI t)).2))) M') : Sp E yX8_move cX8_move zX8_move [.ref (ad E 0 0 0), .int (nI p), .int (nI r), .int (nI t)] M P := by
  have h12 := hC.1.n12
  have e : qMove g (nI p) (nI r) (nI t) = ans (sMove g p (nI r) (nI t)) := by
    rw [qMove, if_pos (inP_nI hp h12), if_pos ⟨(show inR (nI r) 0 5 from inR_nI (a := 0) (b := 5) (Nat.zero_le _) (by omega) (by decide)), (show inR (nI t) 0 5 from inR_nI (a := 0) (b := 5) (Nat.zero_le _) (by omega) (by decide))⟩, tn_nI (show p < 2 ^ 31 by omega)]
  refine s_X8_move hC hO ?_
  rw [e]
  exact h
theorem u_confess {p : Nat} (hp : p < g.A.n) (hC : CG M g) (hO : Okg g) (h : ∀ M', CG M' (sConfess g p).1 → Fr dCl M M' → P (.inl (some (.int (sConfess g p).2))) M') : Sp E yX8_confess cX8_confess zX8_confess [.ref (ad E 0 0 0), .int (nI p)] M P := by
  have h12 := hC.1.n12
  have e : qConfess g (nI p) = ans (sConfess g p) := by
    rw [qConfess, if_pos (inP_nI hp h12), tn_nI (show p < 2 ^ 31 by omega)]
  refine s_X8_confess hC hO ?_
  rw [e]
  exact h
theorem u_pass  (hC : CG M g) (hO : Okg g) (h : ∀ M', CG M' (sPass g 1).1 → Fr dCl M M' → P (.inl (some (.int (sPass g 1).2))) M') : Sp E yX8_pass cX8_pass zX8_pass [.ref (ad E 0 0 0), .int 1] M P := by
  have h12 := hC.1.n12
  have e : qPass g 1 = ans (sPass g 1) := by
    rw [qPass, if_pos (show inR 1 1 10 by decide)]
    rfl
  refine s_X8_pass hC hO ?_
  rw [e]
  exact h
theorem u_ifPassed {k : Nat} (hk : k ≤ 3) (hC : CG M g) (hO : Okg g) (h : ∀ M', CG M' g → Fr dCl M M' → P (.inl (some (.int (ipV (weekA g.A) k)))) M') : Sp E yX8_ifPassed cX8_ifPassed zX8_ifPassed [.ref (ad E 0 0 0), .int 1, .int (nI k)] M P := by
  refine s_X8_ifPassed hC hO (fun M' h1 h2 => ?_)
  rw [qIfPassed, if_pos ⟨(show inR 1 0 30 by decide), inR_nI (a := 0) (b := 3) (Nat.zero_le _) hk (by decide)⟩, tn_nI (show k < 2 ^ 31 by omega)]
  exact h M' h1 h2
theorem u_ownShare {p : Nat} (hp : p < g.A.n) (hC : CG M g) (h : P (.inl (some (.float (ownV g.A p)))) M) : Sp E yX8_ownShare cX8_ownShare zX8_ownShare [.ref (ad E 0 0 0), .int (nI p)] M P := by
  have h12 := hC.1.n12
  refine s_X8_ownShare hC (fun q => absurd (inP_nI hp h12) q) (fun p' hp' e => ?_)
  rw [← (nI_eq (by omega) (by omega)).mp e]
  exact h
end LASK
