/-! the start: what the Statement gives -/
abbrev fl_L : List Cond := flatC (Jvm.Cond.and given_1 narrow_1)
def st_tm (i : Nat) : Term := .string RX6 (([70, 72, 74, 76, 78, 58, 64] : List Nat).getD i 0)
set_option maxRecDepth 100000 in
theorem fl_ex : ∀ i, i < 7 → Cond.exactly (st_tm i) "java/lang/String" ∈ fl_L := by decide +kernel
set_option maxRecDepth 100000 in
theorem fl_co : ∀ i, i < 7 → Cond.eq (.field (st_tm i) "java/lang/String" "coder" "B") (.int 0) ∈ fl_L := by decide +kernel
set_option maxRecDepth 100000 in
theorem fl_ar : ∀ i, i < 7 → Cond.arrayOf (.field (st_tm i) "java/lang/String" "value" "[B") .byte ∈ fl_L := by decide +kernel
set_option maxRecDepth 100000 in
theorem fl_le : ∀ i, i < 7 → Cond.eq (.length (.field (st_tm i) "java/lang/String" "value" "[B")) (.int (Int32.ofNat (amb_lens.getD i 0))) ∈ fl_L := by decide +kernel
set_option maxRecDepth 100000 in
theorem fl_el : ∀ i, i < 7 → ∀ j, j < amb_lens.getD i 0 → Cond.eq (.elem (.field (st_tm i) "java/lang/String" "value" "[B") (.int (Int32.ofNat j))) (.int ((amb_byts.getD i []).getD j 0)) ∈ fl_L := by decide +kernel
set_option maxRecDepth 100000 in
theorem fl_ne : ∀ i, i < 7 → ∀ j, j < 7 → i ≠ j → Cond.not (Cond.eq (st_tm i) (st_tm j)) ∈ fl_L ∨ Cond.not (Cond.eq (st_tm j) (st_tm i)) ∈ fl_L := by decide +kernel
set_option maxRecDepth 100000 in
theorem fl_st : ∀ q ∈ amb_strs, Cond.stringRef q.1 q.2.1 q.2.2.1 ∈ lw_tbl ∧ q.2.2.2 < 7 ∧ (Term.string q.1 q.2.1 = st_tm q.2.2.2 ∨ Cond.eq (st_tm q.2.2.2) (.string q.1 q.2.1) ∈ fl_L ∨ Cond.eq (.string q.1 q.2.1) (st_tm q.2.2.2) ∈ fl_L) := by decide +kernel
set_option maxRecDepth 100000 in
theorem fl_ms : ∀ q ∈ amb_msgs, Cond.stringRef RX9 q.1 q.2 ∈ lw_tbl ∧ Cond.exactly (.string RX9 q.1) "java/lang/String" ∈ fl_L := by decide +kernel
set_option maxRecDepth 100000 in
theorem fl_pz : ∀ j, j < 6 → Cond.eq (.elem (.static RX9 "PRIZES" "[I") (.int (Int32.ofNat j))) (.int (amb_prize j)) ∈ fl_L := by decide +kernel
set_option maxRecDepth 100000 in
theorem tb_ne : ∀ q ∈ amb_nest, Cond.methodLinkNest q.1 q.2.1 q.2.2 RX9 ∈ lw_tbl := by decide +kernel
set_option maxRecDepth 100000 in
theorem tb_ca : ∀ X ∈ amb_exc, Cond.castable X X ∈ lw_tbl := by decide +kernel
set_option maxRecDepth 100000 in
theorem tb_de : ∀ x ∈ amb_dec, Cond.declares x ∈ lw_tbl := by decide +kernel
set_option maxRecDepth 100000 in
theorem am_start {s : State} {b : Nat} (hts : ∀ w ∈ lw_tbl, w.before #[Value.ref b] s = true) (hgv : (Jvm.Cond.and given_1 narrow_1).before #[Value.ref b] s = true) : ∃ adK adV : Nat → Nat, Amb s.heap.size adK adV s := by
  have hs := flat_of_before _ hgv
  have hA : ∀ a : Nat, a < s.heap.size → ¬ (fun q : Nat => s.heap.size ≤ q) a := fun a h => Nat.not_le.mpr h
  obtain ⟨adK, adV, hS, hE⟩ := vk_Sof (N := 7) (tm := st_tm) (len := amb_lens) (byt := amb_byts) (A := fun q : Nat => s.heap.size ≤ q) (by decide) (fun i hi => hs _ (fl_ex i hi)) (fun i hi => hs _ (fl_co i hi)) (fun i hi => hs _ (fl_ar i hi)) (fun i hi => hs _ (fl_le i hi)) (fun i hi j hj => hs _ (fl_el i hi j hj)) (fun i j hi hj hij => (fl_ne i hi j hj hij).elim (fun h => Or.inl (hs _ h)) (fun h => Or.inr (hs _ h))) hA
  refine ⟨adK, adV, fun q hq => va_Nw.of rfl (hts _ (tb_ne q hq)), hS, fun q hq => ?_, fun q hq => ?_, ?_, ?_, ?_, ?_, ?_, fun X hX => va_Nw.of rfl (hts _ (tb_ca X hX)), ?_, ?_, fun x hx => va_Nw.of rfl (hts _ (tb_de x hx))⟩
  · obtain ⟨h1, h2, h3⟩ := fl_st q hq
    refine vk_R.of (hts _ h1) ?_
    rcases h3 with h3 | h3 | h3
    · rw [h3]; exact hE _ h2
    · exact va_eqR (hs _ h3) (hE _ h2)
    · exact va_eqv (hs _ h3) (hE _ h2)
  · obtain ⟨h1, h2⟩ := fl_ms q hq
    obtain ⟨a, c, cA, kA, q1, -⟩ := Cond.exactly_spec (args := #[Value.ref b]) (first := s) (o := none) (s := s) (idx := []) (hs _ h2)
    exact ⟨a, vk_R.of (hts _ h1) q1⟩
  · exact va_Zof (hts (.laysStatic "java/lang/String" "COMPACT_STRINGS" "Z") (by decide +kernel)) (hts (.initialized "java/lang/String") (by decide +kernel)) (va_eqi (hs (.eq (.static "java/lang/String" "COMPACT_STRINGS" "Z") (.int 1)) (by decide +kernel))) hA
  · exact va_Zqof (hts (.laysStatic "jdk/internal/util/Preconditions" "SIOOBE_FORMATTER" "Ljava/util/function/BiFunction;") (by decide +kernel)) (hts (.initialized "jdk/internal/util/Preconditions") (by decide +kernel)) (hs (.isRef (.static "jdk/internal/util/Preconditions" "SIOOBE_FORMATTER" "Ljava/util/function/BiFunction;")) (by decide +kernel)) hA
  · exact vx_Zqof (hts (.laysStatic Bundle.tN "UNASSIGNED_STACK" Bundle.steD) (by decide +kernel)) (hts (.initialized Bundle.tN) (by decide +kernel)) (hs (.isRef (.static Bundle.tN "UNASSIGNED_STACK" Bundle.steD)) (by decide +kernel)) hA
  · exact vx_Zqof (hts (.laysStatic Bundle.tN "SUPPRESSED_SENTINEL" Bundle.listD) (by decide +kernel)) (hts (.initialized Bundle.tN) (by decide +kernel)) (hs (.isRef (.static Bundle.tN "SUPPRESSED_SENTINEL" Bundle.listD)) (by decide +kernel)) hA
  · obtain ⟨t, ht, hT⟩ := va_Tof (tm := .static RX9 "PRIZES" "[I") (N := 6) (f := fun k => .int (amb_prize k)) (A := fun q : Nat => s.heap.size ≤ q) (by decide) (hs (.arrayOf (.static RX9 "PRIZES" "[I") .int) (by decide +kernel)) (va_eqt (hs (.eq (.length (.static RX9 "PRIZES" "[I")) (.int (Int32.ofNat 6))) (by decide +kernel))) (fun j hj => va_eqt (hs _ (fl_pz j hj))) hA
    exact ⟨t, va_Zof (hts (.laysStatic RX9 "PRIZES" "[I") (by decide +kernel)) (hts (.initialized RX9) (by decide +kernel)) ht hA, hT⟩
  · exact va_Nc.of (hs (.not (.castable "java/lang/IllegalStateException" "java/lang/IllegalArgumentException")) (by decide +kernel))
  · exact va_Nc.of (hs (.not (.castable "java/lang/IllegalArgumentException" "java/lang/IndexOutOfBoundsException")) (by decide +kernel))
theorem arr_st {s : State} {args : Array Value} {ty : FieldType} (h : (Cond.arrayClass ty).before args s = true) : ∃ cA : ClassId, ArrOfT s cA ty ∧ s.vm.findClass ("[" ++ ty.toString) = some cA := by
  obtain ⟨cA, k, comp, h1, h2, h3⟩ := Cond.arrayClass_spec (args := args) (first := s) (o := none) (s := s) (idx := []) h
  exact ⟨cA, fun n z => ⟨fun k h => (by cases h), k, h2, comp, h3⟩, h1⟩
set_option maxRecDepth 100000 in
theorem kn_start {s : State} {b : Nat} (hts : ∀ w ∈ lw_tbl, w.before #[Value.ref b] s = true) : ∃ (D : va_G) (cI cZ cB cJ : ClassId), va_K D vwCl (TYs cI cZ cB cJ) s := by
  obtain ⟨c0, iS0, hK0⟩ := u_known (C := RX0) (T := TX0) (N := 5) (n := 5) hts inX0 (hts (.instantiable RX0 5) (by decide +kernel))
  obtain ⟨c1, iS1, hK1⟩ := u_known (C := RX1) (T := TX1) (N := 7) (n := 7) hts inX1 (hts (.instantiable RX1 7) (by decide +kernel))
  obtain ⟨c2, iS2, hK2⟩ := u_known (C := RX2) (T := TX2) (N := 3) (n := 3) hts inX2 (hts (.instantiable RX2 3) (by decide +kernel))
  obtain ⟨c3, iS3, hK3⟩ := u_known (C := RX3) (T := TX3) (N := 2) (n := 2) hts inX3 (hts (.instantiable RX3 2) (by decide +kernel))
  obtain ⟨c4, iS4, hK4⟩ := u_known (C := RX4) (T := TX4) (N := 6) (n := 6) hts inX4 (hts (.instantiable RX4 6) (by decide +kernel))
  obtain ⟨c5, iS5, hK5⟩ := u_known (C := RX5) (T := TX5) (N := 4) (n := 4) hts inX5 (hts (.instantiable RX5 4) (by decide +kernel))
  obtain ⟨c6, iS6, hK6⟩ := u_known (C := RX6) (T := TX6) (N := 5) (n := 5) hts inX6 (hts (.instantiable RX6 5) (by decide +kernel))
  obtain ⟨c7, iS7, hK7⟩ := u_known (C := RX7) (T := TX7) (N := 7) (n := 7) hts inX7 (hts (.instantiable RX7 7) (by decide +kernel))
  obtain ⟨c8, iS8, hK8⟩ := u_known (C := RX8) (T := TX8) (N := 2) (n := 2) hts inX8 (hts (.instantiable RX8 2) (by decide +kernel))
  obtain ⟨c9, iS9, hK9⟩ := u_known (C := RX9) (T := TX9) (N := 11) (n := 11) hts inX9 (hts (.instantiable RX9 11) (by decide +kernel))
  obtain ⟨c10, iS10, hK10⟩ := u_known (C := RX10) (T := TX10) (N := 34) (n := 34) hts inX10 (hts (.instantiable RX10 34) (by decide +kernel))
  obtain ⟨cI, hAI, hNI⟩ := arr_st (hts (.arrayClass .int) (by decide +kernel))
  obtain ⟨cZ, hAZ, hNZ⟩ := arr_st (hts (.arrayClass .boolean) (by decide +kernel))
  obtain ⟨cB, hAB, hNB⟩ := arr_st (hts (.arrayClass .byte) (by decide +kernel))
  obtain ⟨cJ, hAJ, hNJ⟩ := arr_st (hts (.arrayClass .long) (by decide +kernel))
  refine ⟨(fun k => if k = 0 then c0 else if k = 1 then c1 else if k = 2 then c2 else if k = 3 then c3 else if k = 4 then c4 else if k = 5 then c5 else if k = 6 then c6 else if k = 7 then c7 else if k = 8 then c8 else if k = 9 then c9 else c10, fun k => if k = 0 then iS0 else if k = 1 then iS1 else if k = 2 then iS2 else if k = 3 then iS3 else if k = 4 then iS4 else if k = 5 then iS5 else if k = 6 then iS6 else if k = 7 then iS7 else if k = 8 then iS8 else if k = 9 then iS9 else iS10), cI, cZ, cB, cJ, ?_, ?_⟩
  · intro k q hq
    match k, hq with
    | 0, hq => cases hq; exact hK0
    | 1, hq => cases hq; exact hK1
    | 2, hq => cases hq; exact hK2
    | 3, hq => cases hq; exact hK3
    | 4, hq => cases hq; exact hK4
    | 5, hq => cases hq; exact hK5
    | 6, hq => cases hq; exact hK6
    | 7, hq => cases hq; exact hK7
    | 8, hq => cases hq; exact hK8
    | 9, hq => cases hq; exact hK9
    | 10, hq => cases hq; exact hK10
    | k + 11, hq => simp [vwCl] at hq
  · intro k q hq
    match k, hq with
    | 0, hq => cases hq; exact ⟨hAI, hNI⟩
    | 1, hq => cases hq; exact ⟨hAZ, hNZ⟩
    | 2, hq => cases hq; exact ⟨hAB, hNB⟩
    | 3, hq => cases hq; exact ⟨hAJ, hNJ⟩
    | k + 4, hq => simp [TYs] at hq
