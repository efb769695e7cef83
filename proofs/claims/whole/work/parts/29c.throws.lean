/-! ===== throw new X(text) ===== -/
section HTHR
theorem hat_of {ws : List Cond} (ix : List Nat) (h : ws = ix.filterMap (fun i => tables_1[i]?)) (hk : ws.all (fun w => goodWord w || decide (w ∈ hXw)) = true) : ∀ w ∈ ws, w ∈ hTB ∨ w ∈ hXw := fun w hw => by
  have h1 := List.all_eq_true.mp hk w hw
  rw [h] at hw
  obtain ⟨i, -, hi⟩ := List.mem_filterMap.mp hw
  rw [Bool.or_eq_true] at h1
  rcases h1 with h1 | h1
  · exact Or.inl (hq i hi h1)
  · exact Or.inr (of_decide_eq_true h1)
theorem hXw_args {s : State} {w : Cond} {args : Array Value} (hw : w ∈ hXw) (h : w.before #[] s = true) : w.before args s = true := by
  have key : w.before #[] (s.setVm s.vm) = w.before args (s.setVm s.vm) := by
    refine Cond.onTables_vm s.vm w ?_
    simp only [hXw, List.mem_cons, List.not_mem_nil, or_false] at hw
    rcases hw with rfl | rfl | rfl | rfl | rfl | rfl <;> rfl
  have h2 : w.before #[] (s.setVm s.vm) = true := h
  rw [key] at h2
  exact h2
abbrev thN : List String := ["java/lang/RuntimeException", "java/lang/Exception"]
/-- what a throw of cls asks of the tables -/
def hThr (ik ic : Nat) (cls : String) : Prop := Bundle.fit cls = true ∧ Cond.classLink RX8 ik cls ∈ hTB ∧ Cond.initialized cls ∈ hTB ∧ (∀ w ∈ vx_atS RX8 ic cls thN, w ∈ hTB ∨ w ∈ hXw) ∧ (∀ w ∈ Cond.classLink RX8 ik cls :: Cond.initialized cls :: vx_atS RX8 ic cls thN, vx_ot w = true)
variable {E : Ed} {C : Cx} {b : ByteArray} {z : Zd} {P : Res → Mm → Prop} {cs ss pc : Nat} {M : Mm} {lv : List (Nat × Value)} {st : List Value}
theorem hXc_of {cls : String} {s t : State} {H : Heap} {locs : List Loc} (hP : va_P E.2.1 hCl (hW E M) H) (hS : va_S (hA E) s.heap H locs) (h : P (.inr cls) M) (h2 : H.size ≤ t.heap.size) (h3 : ∀ q : Nat, q < H.size → t.heap[q]? = H[q]?) : hXc E P cls s t :=
  ⟨M, h, hP.kept (fun k q hk => h3 q.1 (hP k q hk).lt), Nat.le_trans hS.1 h2, fun q hq hA => (h3 q (Nat.lt_of_lt_of_le hq hS.1)).trans (hS.2.1 q hq hA)⟩
theorem G_thrW {ik is ic : Nat} {cls : String} (i : Nat) (hT : hThr ik ic cls) (d0 : decode b pc = .ok (.new ik, 3)) (d3 : decode b (pc + 3) = .ok (.dup, 1)) (d4 : decode b (pc + 4) = .ok (.ldc_w is, 3)) (d7 : decode b (pc + 7) = .ok (.invokespecial ic, 3)) (d10 : decode b (pc + 10) = .ok (.athrow, 1)) (hi : i < 33) (h1 : hSo i = RX8) (h2 : hSk i = is) (hz : z.2.2.2.2.2 = []) (hfr : 6 ≤ z.2.2.2.1) (hlo : (st.map fun v => v.category).sum + 82 ≤ z.2.2.2.2.1) (hcm : cs + 1 ≤ z.2.2.1.1) (hsm : ss + 6 ≤ z.2.2.1.2) (h : P (.inr cls) M) : G E C RX8 b z P cs ss M pc lv st := by
  obtain ⟨p', l, e, s, m, args, below, meth, c, Q⟩ := C
  intro K H locs ls hP hS hlv
  obtain ⟨hx, hb, hr, hlk, hml, hown, hts, htab, hK, hF1, hst, hAm, hQ⟩ := id K
  obtain ⟨w1, w2, w3, w4, w5⟩ := hT
  have hsr := hF1.2.2.2.2.1 i hi
  rw [h1, h2] at hsr
  exact W_imp hQ (vx_throwSW (cc := b) (own := RX8) (cls := cls) (names := thN) (A := hA E) (ik := ik) (is := is) (ic := ic) hx hb hst hown w1 (by decide) (hts _ w2) (hts _ w3) hsr (fun w hw => (w4 w hw).elim (fun q => hts _ q) (fun q => hXw_args q (hF1.2.1 w q))) w5 hF1.1.1 hF1.1.2 hS (hlv.1.trans hml.symm) d0 d3 d4 d7 d10
    (fun x hx2 => by rw [htab, hz] at hx2; cases hx2) hfr hlo (Nat.le_trans hcm (Nat.le_refl _)) hsm hlk (fun t _ q1 q2 => hXc_of hP hS h q1 q2) hS.2.2 hcm hsm)
theorem G_thr {ik is ic : Nat} {cls : String} (i : Nat) (hT : hThr ik ic cls) (d0 : decode b pc = .ok (.new ik, 3)) (d3 : decode b (pc + 3) = .ok (.dup, 1)) (d4 : decode b (pc + 4) = .ok (.ldc is, 2)) (d7 : decode b (pc + 6) = .ok (.invokespecial ic, 3)) (d10 : decode b (pc + 9) = .ok (.athrow, 1)) (hi : i < 33) (h1 : hSo i = RX8) (h2 : hSk i = is) (hz : z.2.2.2.2.2 = []) (hfr : 6 ≤ z.2.2.2.1) (hlo : (st.map fun v => v.category).sum + 82 ≤ z.2.2.2.2.1) (hcm : cs + 1 ≤ z.2.2.1.1) (hsm : ss + 6 ≤ z.2.2.1.2) (h : P (.inr cls) M) : G E C RX8 b z P cs ss M pc lv st := by
  obtain ⟨p', l, e, s, m, args, below, meth, c, Q⟩ := C
  intro K H locs ls hP hS hlv
  obtain ⟨hx, hb, hr, hlk, hml, hown, hts, htab, hK, hF1, hst, hAm, hQ⟩ := id K
  obtain ⟨w1, w2, w3, w4, w5⟩ := hT
  have hsr := hF1.2.2.2.2.1 i hi
  rw [h1, h2] at hsr
  exact W_imp hQ (vx_throwS (cc := b) (own := RX8) (cls := cls) (names := thN) (A := hA E) (ik := ik) (is := is) (ic := ic) hx hb hst hown w1 (by decide) (hts _ w2) (hts _ w3) hsr (fun w hw => (w4 w hw).elim (fun q => hts _ q) (fun q => hXw_args q (hF1.2.1 w q))) w5 hF1.1.1 hF1.1.2 hS (hlv.1.trans hml.symm) d0 d3 d4 d7 d10
    (fun x hx2 => by rw [htab, hz] at hx2; cases hx2) hfr hlo (Nat.le_trans hcm (Nat.le_refl _)) hsm hlk (fun t _ q1 q2 => hXc_of hP hS h q1 q2) hS.2.2 hcm hsm)
abbrev xIS : String := "java/lang/IllegalStateException"
set_option maxRecDepth 100000 in
theorem thIS : hThr 76 80 xIS := ⟨by decide +kernel, hq 826 (by decide +kernel) rfl, hq 14 (by decide +kernel) rfl, hat_of [11, 848, 857, 861, 864, 866, 849, 850, 30, 31, 851, 856, 862, 882, 838, 883, 840, 884, 842, 852, 854, 844, 878, 879, 881, 844, 869, 870, 871, 872, 830, 872, 873, 874, 875, 832, 875, 876, 877, 878, 834, 868, 827, 828, 835, 836, 837, 839, 841, 843, 847, 846, 845] (by decide +kernel) (by decide +kernel), List.all_eq_true.mp (by decide +kernel)⟩
abbrev xIA : String := "java/lang/IllegalArgumentException"
set_option maxRecDepth 100000 in
theorem thIA : hThr 192 196 xIA := ⟨by decide +kernel, hq 908 (by decide +kernel) rfl, hq 15 (by decide +kernel) rfl, hat_of [11, 848, 857, 861, 864, 866, 849, 850, 30, 31, 851, 856, 862, 882, 838, 883, 840, 884, 842, 852, 854, 844, 878, 879, 881, 844, 919, 920, 921, 872, 830, 872, 873, 874, 875, 832, 875, 876, 877, 878, 834, 918, 909, 910, 911, 859, 912, 913, 914, 915, 847, 846, 916] (by decide +kernel) (by decide +kernel), List.all_eq_true.mp (by decide +kernel)⟩
abbrev xIO : String := "java/lang/IndexOutOfBoundsException"
set_option maxRecDepth 100000 in
theorem thIO : hThr 433 437 xIO := ⟨by decide +kernel, hq 964 (by decide +kernel) rfl, hq 23 (by decide +kernel) rfl, hat_of [11, 848, 857, 861, 864, 866, 849, 850, 30, 31, 851, 856, 862, 882, 838, 883, 840, 884, 842, 852, 854, 844, 878, 879, 881, 844, 975, 976, 977, 872, 830, 872, 873, 874, 875, 832, 875, 876, 877, 878, 834, 974, 965, 966, 967, 860, 968, 969, 970, 971, 847, 846, 972] (by decide +kernel) (by decide +kernel), List.all_eq_true.mp (by decide +kernel)⟩
end HTHR
