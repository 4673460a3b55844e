/-! what the law's run takes from its surroundings -/
theorem law_arr {args : Array Value} {s : State} {ty : FieldType} (hn : ∀ C, ty ≠ .object C) (h : (Cond.arrayClass ty).before args s = true) : ∃ cA : ClassId, ArrOfT s cA ty ∧ va_RA s cA ty := by
  obtain ⟨cA, kA, comp, h1, h2, h3⟩ := Cond.arrayClass_spec h
  refine ⟨cA, fun n z => ⟨(fun k h => by cases h), kA, h2, comp, h3⟩, ?_⟩
  cases ty with
  | object C => exact absurd rfl (hn C)
  | _ => exact h1
theorem law_over {args : Array Value} {s : State} {C : String} (h : (Cond.arrayOver (.object C)).before args s = true) : ∃ cA : ClassId, ArrOfT s cA (.object C) ∧ va_RA s cA (.object C) := by
  obtain ⟨comp, c, k, h1, h2, h3, h4, h5⟩ := Cond.arrayOver_spec h
  exact ⟨c, fun n z => ⟨(fun k h => by cases h), k, h3, comp, h4⟩, k, comp, h3, h4, h1, h5⟩
def law_tm (i : Nat) : Term := Term.string RX4 (tf_sidx.getD i 0)
def law_fl : List Cond := flatC (Jvm.Cond.and given_1 narrow_1)
set_option maxRecDepth 100000 in
theorem law_s1 : ∀ i, i < 9 → (Cond.exactly (law_tm i) "java/lang/String") ∈ law_fl ∧ (Cond.eq (.field (law_tm i) "java/lang/String" "coder" "B") (.int 0)) ∈ law_fl ∧ (Cond.arrayOf (.field (law_tm i) "java/lang/String" "value" "[B") .byte) ∈ law_fl ∧ (Cond.eq (.length (.field (law_tm i) "java/lang/String" "value" "[B")) (.int (Int32.ofNat (tf_slen.getD i 0)))) ∈ law_fl := by decide +kernel
set_option maxRecDepth 100000 in
theorem law_s2 : ∀ i, i < 9 → ∀ j, j < tf_slen.getD i 0 → (Cond.eq (.elem (.field (law_tm i) "java/lang/String" "value" "[B") (.int (Int32.ofNat j))) (.int ((tf_sbyt.getD i []).getD j 0))) ∈ law_fl := by decide +kernel
set_option maxRecDepth 100000 in
theorem law_s3 : ∀ i, i < 9 → ∀ j, j < 9 → i ≠ j → (Cond.not (Cond.eq (law_tm i) (law_tm j))) ∈ law_fl ∨ (Cond.not (Cond.eq (law_tm j) (law_tm i))) ∈ law_fl := by decide +kernel
set_option maxRecDepth 100000 in
theorem law_w1 : (Cond.eq (.static "java/lang/String" "COMPACT_STRINGS" "Z") (.int 1)) ∈ law_fl ∧ (Cond.isRef (.static "jdk/internal/util/Preconditions" "SIOOBE_FORMATTER" "Ljava/util/function/BiFunction;")) ∈ law_fl := by decide +kernel
set_option maxRecDepth 100000 in
theorem law_w2 : Cond.arrayClass .int ∈ tables_1 ∧ Cond.arrayClass .byte ∈ tables_1 ∧ Cond.arrayClass .boolean ∈ tables_1 ∧ Cond.arrayOver (.object "TributeFleet$Squadron") ∈ tables_1 ∧ Cond.arrayOver (.object "TributeFleet$Statute") ∈ tables_1 ∧ Cond.laysStatic "java/lang/String" "COMPACT_STRINGS" "Z" ∈ tables_1 ∧ Cond.initialized "java/lang/String" ∈ tables_1 ∧ Cond.laysStatic "jdk/internal/util/Preconditions" "SIOOBE_FORMATTER" "Ljava/util/function/BiFunction;" ∈ tables_1 ∧ Cond.initialized "jdk/internal/util/Preconditions" ∈ tables_1 := by decide +kernel
set_option maxRecDepth 100000 in
theorem law_w3 : Cond.methodLinkNest RX0 40 yX9_isPlace RX9 ∈ tables_1 ∧ Cond.methodLinkNest RX2 25 yX9_isCounty RX9 ∈ tables_1 ∧ Cond.methodLinkNest RX3 29 yX9_isPlace RX9 ∈ tables_1 ∧ Cond.methodLinkNest RX5 39 yX9_isPlace RX9 ∈ tables_1 ∧ Cond.methodLinkNest RX6 54 yX9_isPlace RX9 ∈ tables_1 ∧ Cond.methodLinkNest RX7 34 yX9_isPlace RX9 ∈ tables_1 := by decide +kernel
set_option maxRecDepth 100000 in
theorem law_w4 : ∀ i, i < 9 → Cond.stringRef RX4 (tf_sidx.getD i 0) (tf_stxt.getD i "") ∈ tables_1 := by decide +kernel
set_option maxRecDepth 100000 in
theorem law_w5 : Cond.instantiable RX0 9 ∈ tables_1 ∧ Cond.instantiable RX1 3 ∈ tables_1 ∧ Cond.instantiable RX2 4 ∈ tables_1 ∧ Cond.instantiable RX3 3 ∈ tables_1 ∧ Cond.instantiable RX4 5 ∈ tables_1 ∧ Cond.instantiable RX5 6 ∈ tables_1 ∧ Cond.instantiable RX6 12 ∈ tables_1 ∧ Cond.instantiable RX7 7 ∈ tables_1 ∧ Cond.instantiable RX8 2 ∈ tables_1 ∧ Cond.instantiable RX9 9 ∈ tables_1 ∧ Cond.instantiable RX10 45 ∈ tables_1 := by decide +kernel
theorem law_tb {w : Cond} (h : w ∈ tables_1) : w ∈ lw_tbl := List.mem_append_right _ h
theorem law_E {p : Program} {s : State} {m : MethodId} {meth : Method} {c : Code} {b L : Nat} {xs : Nat → Int32} (C0 : lw_At p s m meth c b L xs) : ∃ G : tf_G, tf_E G (fun q => s.heap.size ≤ q) s s.heap := by
  obtain ⟨hx, hb, hr, hml, hown, hts, hX, hbl, hlocks, hgv⟩ := id C0
  have hs : ∀ c ∈ law_fl, c.before #[Value.ref b] s = true := flat_of_before _ hgv
  have hA : ∀ a : Nat, a < s.heap.size → ¬ (fun q : Nat => s.heap.size ≤ q) a := fun a h => Nat.not_le.mpr h
  obtain ⟨ta1, ta2, ta3, ta4, ta5, tb1, tb2, tb3, tb4⟩ := law_w2
  obtain ⟨n1, n2, n3, n4, n5, n6⟩ := law_w3
  obtain ⟨v0, v1, v2, v3, v4, v5, v6, v7, v8, v9, v10⟩ := law_w5
  obtain ⟨c0, i0, h0⟩ := u_known (C := RX0) (T := TX0) (N := 9) (n := 9) hts inX0 (hts _ (law_tb v0))
  obtain ⟨c1, i1, h1⟩ := u_known (C := RX1) (T := TX1) (N := 3) (n := 3) hts inX1 (hts _ (law_tb v1))
  obtain ⟨c2, i2, h2⟩ := u_known (C := RX2) (T := TX2) (N := 4) (n := 4) hts inX2 (hts _ (law_tb v2))
  obtain ⟨c3, i3, h3⟩ := u_known (C := RX3) (T := TX3) (N := 3) (n := 3) hts inX3 (hts _ (law_tb v3))
  obtain ⟨c4, i4, h4⟩ := u_known (C := RX4) (T := TX4) (N := 5) (n := 5) hts inX4 (hts _ (law_tb v4))
  obtain ⟨c5, i5, h5⟩ := u_known (C := RX5) (T := TX5) (N := 6) (n := 6) hts inX5 (hts _ (law_tb v5))
  obtain ⟨c6, i6, h6⟩ := u_known (C := RX6) (T := TX6) (N := 12) (n := 12) hts inX6 (hts _ (law_tb v6))
  obtain ⟨c7, i7, h7⟩ := u_known (C := RX7) (T := TX7) (N := 7) (n := 7) hts inX7 (hts _ (law_tb v7))
  obtain ⟨c8, i8, h8⟩ := u_known (C := RX8) (T := TX8) (N := 2) (n := 2) hts inX8 (hts _ (law_tb v8))
  obtain ⟨c9, i9, h9⟩ := u_known (C := RX9) (T := TX9) (N := 9) (n := 9) hts inX9 (hts _ (law_tb v9))
  obtain ⟨c10, i10, h10⟩ := u_known (C := RX10) (T := TX10) (N := 45) (n := 45) hts inX10 (hts _ (law_tb v10))
  obtain ⟨aI, hI1, hI2⟩ := law_arr (ty := .int) (fun C h => by cases h) (hts _ (law_tb ta1))
  obtain ⟨aB, hB1, hB2⟩ := law_arr (ty := .byte) (fun C h => by cases h) (hts _ (law_tb ta2))
  obtain ⟨aZ, hZ1, hZ2⟩ := law_arr (ty := .boolean) (fun C h => by cases h) (hts _ (law_tb ta3))
  obtain ⟨aQ, hQ1, hQ2⟩ := law_over (hts _ (law_tb ta4))
  obtain ⟨aT, hT1, hT2⟩ := law_over (hts _ (law_tb ta5))
  obtain ⟨adK, adV, hK, hKe⟩ := vk_Sof (args := #[Value.ref b]) (s := s) (N := 9) (tm := law_tm) (len := tf_slen) (byt := tf_sbyt) (A := fun q => s.heap.size ≤ q) (by decide) (fun i hi => hs _ (law_s1 i hi).1) (fun i hi => hs _ (law_s1 i hi).2.1) (fun i hi => hs _ (law_s1 i hi).2.2.1) (fun i hi => hs _ (law_s1 i hi).2.2.2) (fun i hi j hj => hs _ (law_s2 i hi j hj)) (fun i j hi hj h => (law_s3 i hi j hj h).elim (fun g => Or.inl (hs _ g)) (fun g => Or.inr (hs _ g))) hA
  refine ⟨((fun k => if k = 0 then c0 else if k = 1 then c1 else if k = 2 then c2 else if k = 3 then c3 else if k = 4 then c4 else if k = 5 then c5 else if k = 6 then c6 else if k = 7 then c7 else if k = 8 then c8 else if k = 9 then c9 else c10, fun k => if k = 0 then i0 else if k = 1 then i1 else if k = 2 then i2 else if k = 3 then i3 else if k = 4 then i4 else if k = 5 then i5 else if k = 6 then i6 else if k = 7 then i7 else if k = 8 then i8 else if k = 9 then i9 else i10), fun k => if k = 0 then aI else if k = 1 then aB else if k = 2 then aZ else if k = 3 then aQ else aT, adK, adV), ⟨fun k q hq => ?_, fun k q hk => ?_⟩, ⟨va_Nw.of rfl (hts _ (law_tb n1)), va_Nw.of rfl (hts _ (law_tb n2)), va_Nw.of rfl (hts _ (law_tb n3)), va_Nw.of rfl (hts _ (law_tb n4)), va_Nw.of rfl (hts _ (law_tb n5)), va_Nw.of rfl (hts _ (law_tb n6))⟩, fun i hi => vk_R.of (hts _ (law_tb (law_w4 i hi))) (hKe i hi), ⟨hK, va_Zof (hts _ (law_tb tb1)) (hts _ (law_tb tb2)) (va_eqi (hs _ law_w1.1)) hA, va_Zqof (hts _ (law_tb tb3)) (hts _ (law_tb tb4)) (hs _ law_w1.2) hA⟩, va_AO.of (hts _ (law_tb ta4)), va_AO.of (hts _ (law_tb ta5))⟩
  · match k, hq with
    | 0, hq => cases hq; exact h0
    | 1, hq => cases hq; exact h1
    | 2, hq => cases hq; exact h2
    | 3, hq => cases hq; exact h3
    | 4, hq => cases hq; exact h4
    | 5, hq => cases hq; exact h5
    | 6, hq => cases hq; exact h6
    | 7, hq => cases hq; exact h7
    | 8, hq => cases hq; exact h8
    | 9, hq => cases hq; exact h9
    | 10, hq => cases hq; exact h10
    | k + 11, hq => simp [vwCl] at hq
  · match k, hk with
    | 0, hk => cases hk; exact ⟨hI1, hI2⟩
    | 1, hk => cases hk; exact ⟨hB1, hB2⟩
    | 2, hk => cases hk; exact ⟨hZ1, hZ2⟩
    | 3, hk => cases hk; exact ⟨hQ1, hQ2⟩
    | 4, hk => cases hk; exact ⟨hT1, hT2⟩
    | k + 5, hk => simp [tf_tys] at hk
