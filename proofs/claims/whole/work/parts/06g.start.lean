/-! the start -/
def r0_2 : Nat → Int32 := (upd (upd (upd (upd (upd (upd (upd (upd (upd (upd (upd (upd (fun _ => 0) 0 100) 1 100) 2 100) 3 100) 4 100) 5 100) 6 100) 7 100) 8 100) 9 100) 10 100) 11 100)
def r0_3 : Nat → Int32 := (upd (upd (upd (upd (upd (upd (upd (upd (upd (upd (upd (upd (fun _ => 0) 0 20) 1 20) 2 20) 3 20) 4 20) 5 20) 6 20) 7 20) 8 20) 9 20) 10 20) 11 20)
def r0_31 : Nat → Int32 := (upd (upd (upd (upd (upd (upd (upd (upd (upd (upd (upd (upd (fun _ => 0) 0 100) 1 100) 2 100) 3 100) 4 100) 5 100) 6 100) 7 100) 8 100) 9 100) 10 100) 11 100)
def r0_32 : Nat → Int32 := (upd (upd (upd (upd (upd (upd (upd (upd (upd (upd (upd (fun _ => 0) 0 20) 1 20) 2 20) 3 20) 4 20) 5 20) 6 20) 7 20) 8 20) 9 20) 10 20)
def S00 (nR : Nat) : tf_M := fun j => match j with
  | 0 => fun k => if k = 8 then -1 else 0
  | 1 => fun k => if k = 0 then (nI nR) else if k = 7 then 401 else 0
  | 2 => r0_2
  | 3 => r0_3
  | 4 => (fun _ => 0)
  | 5 => (fun _ => 0)
  | 6 => (fun _ => 0)
  | 7 => fun k => 0
  | 8 => fun _ => 0
  | 9 => (fun _ => 0)
  | 10 => fun k => 0
  | 11 => (fun _ => 0)
  | 12 => fun k => 0
  | 13 => fun k => 0
  | 14 => fun _ => 0
  | 15 => fun k => if k = 0 then (-1) else if k = 3 then 2 else if k = 4 then 20 else if k = 5 then 2 else if k = 6 then 1 else 0
  | 16 => (al3 nR)
  | 17 => fun k => 0
  | 18 => (fun _ => 0)
  | 19 => (fun _ => 0)
  | 20 => (fun _ => 0)
  | 21 => fun k => 0
  | 22 => (fun _ => 0)
  | 23 => (fun _ => 0)
  | 24 => (fun _ => 0)
  | 25 => (fun _ => 0)
  | 30 => fun k => if k = 0 then nI nR else if k = 6 then 1000 else if k = 32 then -1 else 0
  | 31 => r0_31
  | 32 => r0_32
  | 39 => (fun _ => 0)
  | 40 => (fun _ => 0)
  | 41 => (fun _ => 0)
  | 42 => (fun _ => 0)
  | 43 => (fun _ => 0)
  | 44 => (fun _ => 0)
  | 45 => (fun _ => 0)
  | 46 => (fun _ => 0)
  | 47 => (fun _ => 0)
  | 48 => (fun _ => 0)
  | 49 => (fun _ => 0)
  | 50 => (fun _ => 0)
  | 51 => (fun _ => 0)
  | 52 => (fun _ => 0)
  | 53 => (fun _ => 0)
  | 54 => (fun _ => 0)
  | 55 => (fun _ => 0)
  | 56 => (fun _ => 0)
  | 57 => (fun _ => 0)
  | 58 => (fun _ => 0)
  | 64 => (fun _ => 0)
  | 65 => (fun _ => 0)
  | 66 => (fun _ => 0)
  | 67 => (fun _ => 0)
  | 68 => (fun _ => 0)
  | 71 => (fun _ => 0)
  | 72 => (fun _ => 0)
  | 73 => (fun _ => 0)
  | 74 => (fun _ => 0)
  | _ => fun _ => 0
theorem nR_of (x : Int32) : ∃ nR : Nat, imax 3 (imin 12 x) = nI nR ∧ 3 ≤ nR ∧ nR ≤ 12 := by
  unfold imin imax
  have e12 : (12 : Int32).toInt = 12 := rfl
  have e3 : (3 : Int32).toInt = 3 := rfl
  by_cases h : x < 12
  · rw [if_pos h]
    by_cases h3 : 3 < x
    · rw [if_pos h3]
      have g1 := Int32.lt_iff_toInt_lt.mp h
      have g2 := Int32.lt_iff_toInt_lt.mp h3
      obtain ⟨j, hj, rfl⟩ := nI_of (x := x) (by rw [Int32.lt_iff_toInt_lt]; have e0 : (0 : Int32).toInt = 0 := rfl; omega)
      rw [nI_toInt hj] at g1 g2
      exact ⟨j, rfl, by omega, by omega⟩
    · rw [if_neg h3]; exact ⟨3, rfl, by decide, by decide⟩
  · rw [if_neg h]; exact ⟨12, by decide, by decide, by decide⟩
theorem iv_0 {nR : Nat} (h3 : 3 ≤ nR) (hR : nR ≤ 12) : Iv nR 0 0 0 0 0 (S00 nR) := by
  have e32 : ∀ l, l < 11 → r0_3 l = 20 ∧ r0_32 l = 20 := by decide
  refine ⟨⟨h3, hR, by decide, by decide, by decide, by decide, by decide⟩, ⟨rfl, rfl, rfl, fun l hl => (e32 l hl).1.trans (e32 l hl).2.symm, fun l hl => ⟨20, by decide, by decide, (e32 l hl).2⟩, rfl, rfl, rfl, rfl, rfl, fun i hi => absurd hi (Nat.not_lt_zero i), fun e he => ⟨fun h => ?_, fun h => ?_⟩, rfl, rfl, rfl, rfl, rfl, rfl, rfl, rfl, fun j => by show vp_nar .byte 0 = 0; decide, rfl, rfl, rfl, rfl, rfl, rfl, rfl, fun i hi => absurd hi (Nat.not_lt_zero i), fun i _ => rfl, fun i hi => absurd hi (Nat.not_lt_zero i), fun i _ => rfl, ⟨rfl, rfl, rfl, rfl, rfl⟩, fun r hr => al3_3 nR r hr⟩, ⟨fun i hi => absurd hi (Nat.not_lt_zero i), fun i _ => ⟨rfl, rfl, rfl, rfl, fun _ _ => rfl, fun _ _ => rfl⟩⟩, fun i hi => absurd hi (Nat.not_lt_zero i)⟩
  · exact absurd (nI_ge' (b := 401) h (by decide)) (by omega)
  · exact absurd (nI_ge' (b := 1000) h (by decide)) (by omega)
set_option maxHeartbeats 40000000 in
set_option maxRecDepth 100000 in
theorem law_start {p : Program} {e : Env} {s : State} {m : MethodId} {below : List Frame} {meth : Method} {c : Code} (l : Launch) {b Ls : Nat} {xs : Nat → Int32} {G : tf_G} {A : Nat → Prop} (hX : va_X b Ls xs s s.heap) (hbl : b < s.heap.size) (hbA : ¬ A b) (hLs : Ls ≤ 3073) (hAs : ∀ q, A q → s.heap.size ≤ q) (hret : meth.sig.returnType = ret) (C : Cx p s m #[Value.ref b] meth c cL_law 4 RL wsL_law G A [] (fun _ => 0)) : XJ p l e room_1 s m #[Value.ref b] below meth c G A [] (fun _ => 0) (lw_Z below #[Value.ref b] s) 4 0 0 law_P0 0 [(0, .ref (b))] [] := by
  obtain ⟨x, hx0⟩ : ∃ x, (if 0 < Ls then xs 0 else 0) = x := ⟨_, rfl⟩
  obtain ⟨nR, hx, h3, hR12⟩ := nR_of x
  obtain ⟨ad, had⟩ : ∃ q : Nat → Nat, q = (fun _ => 0) := ⟨_, rfl⟩
  obtain ⟨P, hP9⟩ : ∃ q : Nat → va_E, q = law_P0 := ⟨_, rfl⟩
  rw [← had] at C ⊢
  rw [← hP9]
  have cl7 : Cond.classLink RL 7 RX9 ∈ wsL_law := by decide +kernel
  have inst9 : Cond.instantiable RX9 9 ∈ wsL_law := by decide +kernel
  have init9 : Cond.initialized RX9 ∈ wsL_law := by decide +kernel
  have ml15 : Cond.methodLink RL 15 yX9_init ∈ wsL_law := by decide +kernel
  have imX9_init : Cond.instanceMethod yX9_init ∈ wsL_law := by decide +kernel
  have cl18 : Cond.classLink RL 18 RX10 ∈ wsL_law := by decide +kernel
  have inst10 : Cond.instantiable RX10 45 ∈ wsL_law := by decide +kernel
  have init10 : Cond.initialized RX10 ∈ wsL_law := by decide +kernel
  have ml20 : Cond.methodLink RL 20 yX10_init ∈ wsL_law := by decide +kernel
  have imX10_init : Cond.instanceMethod yX10_init ∈ wsL_law := by decide +kernel
  refine x_newF C (ci := 9) (fs := [.null, .null, .null, .null, .null, .null, .null, .int 0, .int 0]) 0 inlX9 tyX9 tyX9_ok cl7 inst9 init9 (by decide) rfl df9 (Nat.le_of_ble_eq_true rfl) (Nat.le_of_ble_eq_true rfl) dL_law_0 (fun a1 p1 A1 B1 N1 C => ?_)
  refine x_dup C dL_law_3 rfl ?_
  refine x_aload_n C 0 dL_law_4 rfl rfl ?_
  refine x_iconst C dL_law_5 (v := 0) (by decide) ?_
  refine x_cell C hX hbl hbA (by omega) hx0 gL_law_L_cell ⟨(Nat.le_of_ble_eq_true rfl), (Nat.le_of_ble_eq_true rfl)⟩ ⟨(Nat.le_of_ble_eq_true rfl), (Nat.le_of_ble_eq_true rfl)⟩ (Nat.le_of_ble_eq_true rfl) dL_law_6 ?_
  refine x_I 0 C (k_X9_init l G a1 p1 x nR hx hR12 N1) gL_law_X9_init rfl init9 ml15 imX9_init rfl (by decide +kernel) ⟨(Nat.le_of_ble_eq_true rfl), (Nat.le_of_ble_eq_true rfl)⟩ ⟨(Nat.le_of_ble_eq_true rfl), (Nat.le_of_ble_eq_true rfl)⟩ (n := 1) rfl (st := [.ref (a1 0)]) (Nat.le_of_ble_eq_true rfl) rfl dL_law_9 (fun a2 p2 Q2 C => ?_)
  obtain ⟨A2, B2, N2_0, N2_1, N2_2, N2_3, N2_4, N2_5, N2_6, N2_7, N2_8, N2_9, N2_10, N2_11, N2_12, N2_13, N2_14, N2_15, N2_16, N2_17, N2_18, N2_19, N2_20, N2_21, N2_22, N2_23, N2_24, N2_25⟩ := Q2
  replace A2 : ∀ i, i ≠ 1 → i ≠ 2 → i ≠ 3 → i ≠ 4 → i ≠ 5 → i ≠ 6 → i ≠ 7 → i ≠ 8 → i ≠ 9 → i ≠ 10 → i ≠ 11 → i ≠ 12 → i ≠ 13 → i ≠ 14 → i ≠ 15 → i ≠ 16 → i ≠ 17 → i ≠ 18 → i ≠ 19 → i ≠ 20 → i ≠ 21 → i ≠ 22 → i ≠ 23 → i ≠ 24 → i ≠ 25 → a2 i = a1 i := A2
  replace B2 : ∀ i, i ≠ 0 → i ≠ 1 → i ≠ 2 → i ≠ 3 → i ≠ 4 → i ≠ 5 → i ≠ 6 → i ≠ 7 → i ≠ 8 → i ≠ 9 → i ≠ 10 → i ≠ 11 → i ≠ 12 → i ≠ 13 → i ≠ 14 → i ≠ 15 → i ≠ 16 → i ≠ 17 → i ≠ 18 → i ≠ 19 → i ≠ 20 → i ≠ 21 → i ≠ 22 → i ≠ 23 → i ≠ 24 → i ≠ 25 → p2 i = p1 i := B2
  replace N2_0 : p2 0 = .inr (9, [.ref (a2 1), .ref (a2 7), .ref (a2 10), .ref (a2 12), .ref (a2 13), .ref (a2 17), .ref (a2 21), .int 0, .int (-1)]) := N2_0
  replace N2_1 : p2 1 = .inr (0, [.int ((nI nR)), .ref (a2 2), .ref (a2 3), .ref (a2 4), .ref (a2 5), .ref (a2 6), .int 0, .int 401, .int 0]) := N2_1
  replace N2_2 : p2 2 = .inl (G.2.1 0, 12, .inl (upd (upd (upd (upd (upd (upd (upd (upd (upd (upd (upd (upd (fun _ => 0) 0 100) 1 100) 2 100) 3 100) 4 100) 5 100) 6 100) 7 100) 8 100) 9 100) 10 100) 11 100)) := N2_2
  replace N2_3 : p2 3 = .inl (G.2.1 0, 12, .inl (upd (upd (upd (upd (upd (upd (upd (upd (upd (upd (upd (upd (fun _ => 0) 0 20) 1 20) 2 20) 3 20) 4 20) 5 20) 6 20) 7 20) 8 20) 9 20) 10 20) 11 20)) := N2_3
  replace N2_4 : p2 4 = .inl (G.2.1 0, 4, .inl (fun _ => 0)) := N2_4
  replace N2_5 : p2 5 = .inl (G.2.1 0, 4, .inl (fun _ => 0)) := N2_5
  replace N2_6 : p2 6 = .inl (G.2.1 0, 4, .inl (fun _ => 0)) := N2_6
  replace N2_7 : p2 7 = .inr (3, [.ref (a2 8), .ref (a2 9), .int 0]) := N2_7
  replace N2_8 : p2 8 = .inl (G.2.1 3, 12, .inr (.inr (.inr (.inr (fun _ => none))))) := N2_8
  replace N2_9 : p2 9 = .inl (G.2.1 0, 12, .inl (fun _ => 0)) := N2_9
  replace N2_10 : p2 10 = .inr (8, [.ref (a2 11), .int 0]) := N2_10
  replace N2_11 : p2 11 = .inl (G.2.1 1, 400, .inl (fun _ => 0)) := N2_11
  replace N2_12 : p2 12 = .inr (4, [.ref (a2 10), .int 0, .int 0, .int 0, .int 0]) := N2_12
  replace N2_13 : p2 13 = .inr (1, [.ref (a2 14), .ref (a2 15), .int 0]) := N2_13
  replace N2_14 : p2 14 = .inl (G.2.1 4, 10, .inr (.inr (.inr (.inr (fun _ => none))))) := N2_14
  replace N2_15 : p2 15 = .inr (7, [.int (-1), .int 0, .ref (a2 16), .int 2, .int 20, .int 2, .int 1]) := N2_15
  replace N2_16 : p2 16 = .inl (G.2.1 0, nR, .inl (al3 nR)) := N2_16
  replace N2_17 : p2 17 = .inr (2, [.ref (a2 18), .ref (a2 19), .ref (a2 20), .int 0]) := N2_17
  replace N2_18 : p2 18 = .inl (G.2.1 0, 6, .inl (fun _ => 0)) := N2_18
  replace N2_19 : p2 19 = .inl (G.2.1 0, 6, .inl (fun _ => 0)) := N2_19
  replace N2_20 : p2 20 = .inl (G.2.1 0, 6, .inl (fun _ => 0)) := N2_20
  replace N2_21 : p2 21 = .inr (5, [.ref (a2 22), .ref (a2 23), .ref (a2 24), .ref (a2 25), .int 0, .int 0]) := N2_21
  replace N2_22 : p2 22 = .inl (G.2.1 0, 6, .inl (fun _ => 0)) := N2_22
  replace N2_23 : p2 23 = .inl (G.2.1 0, 6, .inl (fun _ => 0)) := N2_23
  replace N2_24 : p2 24 = .inl (G.2.1 0, 6, .inl (fun _ => 0)) := N2_24
  replace N2_25 : p2 25 = .inl (G.2.1 0, 64, .inl (fun _ => 0)) := N2_25
  rw [← A2 0 (by decide) (by decide) (by decide) (by decide) (by decide) (by decide) (by decide) (by decide) (by decide) (by decide) (by decide) (by decide) (by decide) (by decide) (by decide) (by decide) (by decide) (by decide) (by decide) (by decide) (by decide) (by decide) (by decide) (by decide) (by decide)]
  refine x_astore_n C (L1 := [(1, .ref (a2 0)), (0, .ref (b))]) dL_law_12 rfl (by decide) rfl ?_
  refine x_newF C (ci := 10) (fs := [.int 0, .null, .null, .int 0, .int 0, .int 0, .int 0, .int 0, .int 0, .null, .null, .null, .null, .null, .null, .null, .null, .null, .null, .null, .null, .null, .null, .null, .null, .null, .null, .null, .null, .int 0, .int 0, .int 0, .int 0, .int 0, .null, .null, .null, .null, .null, .int 0, .int 0, .null, .null, .null, .null]) 30 inlX10 tyX10 tyX10_ok cl18 inst10 init10 (by decide) rfl df10 (Nat.le_of_ble_eq_true rfl) (Nat.le_of_ble_eq_true rfl) dL_law_13 (fun a3 p3 A3 B3 N3 C => ?_)
  have F4 : p3 0 = .inr (9, [.ref (a3 1), .ref (a3 7), .ref (a3 10), .ref (a3 12), .ref (a3 13), .ref (a3 17), .ref (a3 21), .int 0, .int (-1)]) := by rw [A3 1 (by decide), A3 7 (by decide), A3 10 (by decide), A3 12 (by decide), A3 13 (by decide), A3 17 (by decide), A3 21 (by decide)]; exact (B3 0 (by decide)).trans N2_0
  have F5 : p3 1 = .inr (0, [.int ((nI nR)), .ref (a3 2), .ref (a3 3), .ref (a3 4), .ref (a3 5), .ref (a3 6), .int 0, .int 401, .int 0]) := by rw [A3 2 (by decide), A3 3 (by decide), A3 4 (by decide), A3 5 (by decide), A3 6 (by decide)]; exact (B3 1 (by decide)).trans N2_1
  have F6 : p3 7 = .inr (3, [.ref (a3 8), .ref (a3 9), .int 0]) := by rw [A3 8 (by decide), A3 9 (by decide)]; exact (B3 7 (by decide)).trans N2_7
  have F7 : p3 10 = .inr (8, [.ref (a3 11), .int 0]) := by rw [A3 11 (by decide)]; exact (B3 10 (by decide)).trans N2_10
  have F8 : p3 12 = .inr (4, [.ref (a3 10), .int 0, .int 0, .int 0, .int 0]) := by rw [A3 10 (by decide)]; exact (B3 12 (by decide)).trans N2_12
  have F9 : p3 13 = .inr (1, [.ref (a3 14), .ref (a3 15), .int 0]) := by rw [A3 14 (by decide), A3 15 (by decide)]; exact (B3 13 (by decide)).trans N2_13
  have F10 : p3 15 = .inr (7, [.int (-1), .int 0, .ref (a3 16), .int 2, .int 20, .int 2, .int 1]) := by rw [A3 16 (by decide)]; exact (B3 15 (by decide)).trans N2_15
  have F11 : p3 17 = .inr (2, [.ref (a3 18), .ref (a3 19), .ref (a3 20), .int 0]) := by rw [A3 18 (by decide), A3 19 (by decide), A3 20 (by decide)]; exact (B3 17 (by decide)).trans N2_17
  have F12 : p3 21 = .inr (5, [.ref (a3 22), .ref (a3 23), .ref (a3 24), .ref (a3 25), .int 0, .int 0]) := by rw [A3 22 (by decide), A3 23 (by decide), A3 24 (by decide), A3 25 (by decide)]; exact (B3 21 (by decide)).trans N2_21
  rw [← A3 0 (by decide)]
  refine x_dup C dL_law_16 rfl ?_
  refine x_aload_n C 1 dL_law_17 rfl rfl ?_
  refine x_iconst C dL_law_18 (v := 0) (by decide) ?_
  refine x_cell C hX hbl hbA (by omega) hx0 gL_law_L_cell ⟨(Nat.le_of_ble_eq_true rfl), (Nat.le_of_ble_eq_true rfl)⟩ ⟨(Nat.le_of_ble_eq_true rfl), (Nat.le_of_ble_eq_true rfl)⟩ (Nat.le_of_ble_eq_true rfl) dL_law_19 ?_
  refine x_I 30 C (k_X10_init l G a3 p3 x nR hx hR12 N3) gL_law_X10_init rfl init10 ml20 imX10_init rfl (by decide +kernel) ⟨(Nat.le_of_ble_eq_true rfl), (Nat.le_of_ble_eq_true rfl)⟩ ⟨(Nat.le_of_ble_eq_true rfl), (Nat.le_of_ble_eq_true rfl)⟩ (n := 1) rfl (st := [.ref (a3 30)]) (Nat.le_of_ble_eq_true rfl) rfl dL_law_22 (fun a13 p13 Q13 C => ?_)
  obtain ⟨A13, B13, N13_0, N13_1, N13_2, N13_3, N13_4, N13_5, N13_6, N13_7, N13_8, N13_9, N13_10, N13_11, N13_12, N13_13, N13_14, N13_15, N13_16, N13_17, N13_18, N13_19, N13_20, N13_21, N13_22, N13_23, N13_24, N13_25, N13_26, N13_27, N13_28, N13_29, N13_30, N13_31⟩ := Q13
  replace A13 : ∀ i, i ≠ 31 → i ≠ 32 → i ≠ 39 → i ≠ 40 → i ≠ 41 → i ≠ 42 → i ≠ 43 → i ≠ 44 → i ≠ 45 → i ≠ 46 → i ≠ 47 → i ≠ 48 → i ≠ 49 → i ≠ 50 → i ≠ 51 → i ≠ 52 → i ≠ 53 → i ≠ 54 → i ≠ 55 → i ≠ 56 → i ≠ 57 → i ≠ 58 → i ≠ 64 → i ≠ 65 → i ≠ 66 → i ≠ 67 → i ≠ 68 → i ≠ 71 → i ≠ 72 → i ≠ 73 → i ≠ 74 → a13 i = a3 i := A13
  replace B13 : ∀ i, i ≠ 30 → i ≠ 31 → i ≠ 32 → i ≠ 39 → i ≠ 40 → i ≠ 41 → i ≠ 42 → i ≠ 43 → i ≠ 44 → i ≠ 45 → i ≠ 46 → i ≠ 47 → i ≠ 48 → i ≠ 49 → i ≠ 50 → i ≠ 51 → i ≠ 52 → i ≠ 53 → i ≠ 54 → i ≠ 55 → i ≠ 56 → i ≠ 57 → i ≠ 58 → i ≠ 64 → i ≠ 65 → i ≠ 66 → i ≠ 67 → i ≠ 68 → i ≠ 71 → i ≠ 72 → i ≠ 73 → i ≠ 74 → p13 i = p3 i := B13
  replace N13_0 : p13 30 = .inr (10, [.int (nI nR), .ref (a13 31), .ref (a13 32), .int 0, .int 0, .int 0, .int 1000, .int 0, .int 0, .ref (a13 39), .ref (a13 40), .ref (a13 41), .ref (a13 42), .ref (a13 43), .ref (a13 44), .ref (a13 45), .ref (a13 46), .ref (a13 47), .ref (a13 48), .ref (a13 49), .ref (a13 50), .ref (a13 51), .ref (a13 52), .ref (a13 53), .ref (a13 54), .ref (a13 55), .ref (a13 56), .ref (a13 57), .ref (a13 58), .int 0, .int 0, .int 0, .int (-1), .int 0, .ref (a13 64), .ref (a13 65), .ref (a13 66), .ref (a13 67), .ref (a13 68), .int 0, .int 0, .ref (a13 71), .ref (a13 72), .ref (a13 73), .ref (a13 74)]) := N13_0
  replace N13_1 : p13 31 = .inl (G.2.1 0, 12, .inl (upd (upd (upd (upd (upd (upd (upd (upd (upd (upd (upd (upd (fun _ => 0) 0 100) 1 100) 2 100) 3 100) 4 100) 5 100) 6 100) 7 100) 8 100) 9 100) 10 100) 11 100)) := N13_1
  replace N13_2 : p13 32 = .inl (G.2.1 0, 11, .inl (upd (upd (upd (upd (upd (upd (upd (upd (upd (upd (upd (fun _ => 0) 0 20) 1 20) 2 20) 3 20) 4 20) 5 20) 6 20) 7 20) 8 20) 9 20) 10 20)) := N13_2
  replace N13_3 : p13 39 = .inl (G.2.1 0, 4, .inl (fun _ => 0)) := N13_3
  replace N13_4 : p13 40 = .inl (G.2.1 0, 4, .inl (fun _ => 0)) := N13_4
  replace N13_5 : p13 41 = .inl (G.2.1 0, 4, .inl (fun _ => 0)) := N13_5
  replace N13_6 : p13 42 = .inl (G.2.1 0, 12, .inl (fun _ => 0)) := N13_6
  replace N13_7 : p13 43 = .inl (G.2.1 0, 12, .inl (fun _ => 0)) := N13_7
  replace N13_8 : p13 44 = .inl (G.2.1 0, 12, .inl (fun _ => 0)) := N13_8
  replace N13_9 : p13 45 = .inl (G.2.1 0, 12, .inl (fun _ => 0)) := N13_9
  replace N13_10 : p13 46 = .inl (G.2.1 0, 12, .inl (fun _ => 0)) := N13_10
  replace N13_11 : p13 47 = .inl (G.2.1 0, 12, .inl (fun _ => 0)) := N13_11
  replace N13_12 : p13 48 = .inl (G.2.1 0, 12, .inl (fun _ => 0)) := N13_12
  replace N13_13 : p13 49 = .inl (G.2.1 0, 12, .inl (fun _ => 0)) := N13_13
  replace N13_14 : p13 50 = .inl (G.2.1 0, 12, .inl (fun _ => 0)) := N13_14
  replace N13_15 : p13 51 = .inl (G.2.1 2, 12, .inl (fun _ => 0)) := N13_15
  replace N13_16 : p13 52 = .inl (G.2.1 0, 144, .inl (fun _ => 0)) := N13_16
  replace N13_17 : p13 53 = .inl (G.2.1 0, 60, .inl (fun _ => 0)) := N13_17
  replace N13_18 : p13 54 = .inl (G.2.1 0, 6, .inl (fun _ => 0)) := N13_18
  replace N13_19 : p13 55 = .inl (G.2.1 0, 6, .inl (fun _ => 0)) := N13_19
  replace N13_20 : p13 56 = .inl (G.2.1 0, 6, .inl (fun _ => 0)) := N13_20
  replace N13_21 : p13 57 = .inl (G.2.1 1, 400, .inl (fun _ => 0)) := N13_21
  replace N13_22 : p13 58 = .inl (G.2.1 1, 400, .inl (fun _ => 0)) := N13_22
  replace N13_23 : p13 64 = .inl (G.2.1 0, 11, .inl (fun _ => 0)) := N13_23
  replace N13_24 : p13 65 = .inl (G.2.1 0, 11, .inl (fun _ => 0)) := N13_24
  replace N13_25 : p13 66 = .inl (G.2.1 0, 176, .inl (fun _ => 0)) := N13_25
  replace N13_26 : p13 67 = .inl (G.2.1 0, 176, .inl (fun _ => 0)) := N13_26
  replace N13_27 : p13 68 = .inl (G.2.1 0, 176, .inl (fun _ => 0)) := N13_27
  replace N13_28 : p13 71 = .inl (G.2.1 2, 12, .inl (fun _ => 0)) := N13_28
  replace N13_29 : p13 72 = .inl (G.2.1 0, 6, .inl (fun _ => 0)) := N13_29
  replace N13_30 : p13 73 = .inl (G.2.1 0, 6, .inl (fun _ => 0)) := N13_30
  replace N13_31 : p13 74 = .inl (G.2.1 0, 6, .inl (fun _ => 0)) := N13_31
  have F14 : p13 0 = .inr (9, [.ref (a13 1), .ref (a13 7), .ref (a13 10), .ref (a13 12), .ref (a13 13), .ref (a13 17), .ref (a13 21), .int 0, .int (-1)]) := by rw [A13 1 (by decide) (by decide) (by decide) (by decide) (by decide) (by decide) (by decide) (by decide) (by decide) (by decide) (by decide) (by decide) (by decide) (by decide) (by decide) (by decide) (by decide) (by decide) (by decide) (by decide) (by decide) (by decide) (by decide) (by decide) (by decide) (by decide) (by decide) (by decide) (by decide) (by decide) (by decide), A13 7 (by decide) (by decide) (by decide) (by decide) (by decide) (by decide) (by decide) (by decide) (by decide) (by decide) (by decide) (by decide) (by decide) (by decide) (by decide) (by decide) (by decide) (by decide) (by decide) (by decide) (by decide) (by decide) (by decide) (by decide) (by decide) (by decide) (by decide) (by decide) (by decide) (by decide) (by decide), A13 10 (by decide) (by decide) (by decide) (by decide) (by decide) (by decide) (by decide) (by decide) (by decide) (by decide) (by decide) (by decide) (by decide) (by decide) (by decide) (by decide) (by decide) (by decide) (by decide) (by decide) (by decide) (by decide) (by decide) (by decide) (by decide) (by decide) (by decide) (by decide) (by decide) (by decide) (by decide), A13 12 (by decide) (by decide) (by decide) (by decide) (by decide) (by decide) (by decide) (by decide) (by decide) (by decide) (by decide) (by decide) (by decide) (by decide) (by decide) (by decide) (by decide) (by decide) (by decide) (by decide) (by decide) (by decide) (by decide) (by decide) (by decide) (by decide) (by decide) (by decide) (by decide) (by decide) (by decide), A13 13 (by decide) (by decide) (by decide) (by decide) (by decide) (by decide) (by decide) (by decide) (by decide) (by decide) (by decide) (by decide) (by decide) (by decide) (by decide) (by decide) (by decide) (by decide) (by decide) (by decide) (by decide) (by decide) (by decide) (by decide) (by decide) (by decide) (by decide) (by decide) (by decide) (by decide) (by decide), A13 17 (by decide) (by decide) (by decide) (by decide) (by decide) (by decide) (by decide) (by decide) (by decide) (by decide) (by decide) (by decide) (by decide) (by decide) (by decide) (by decide) (by decide) (by decide) (by decide) (by decide) (by decide) (by decide) (by decide) (by decide) (by decide) (by decide) (by decide) (by decide) (by decide) (by decide) (by decide), A13 21 (by decide) (by decide) (by decide) (by decide) (by decide) (by decide) (by decide) (by decide) (by decide) (by decide) (by decide) (by decide) (by decide) (by decide) (by decide) (by decide) (by decide) (by decide) (by decide) (by decide) (by decide) (by decide) (by decide) (by decide) (by decide) (by decide) (by decide) (by decide) (by decide) (by decide) (by decide)]; exact (B13 0 (by decide) (by decide) (by decide) (by decide) (by decide) (by decide) (by decide) (by decide) (by decide) (by decide) (by decide) (by decide) (by decide) (by decide) (by decide) (by decide) (by decide) (by decide) (by decide) (by decide) (by decide) (by decide) (by decide) (by decide) (by decide) (by decide) (by decide) (by decide) (by decide) (by decide) (by decide) (by decide)).trans F4
  have F15 : p13 1 = .inr (0, [.int ((nI nR)), .ref (a13 2), .ref (a13 3), .ref (a13 4), .ref (a13 5), .ref (a13 6), .int 0, .int 401, .int 0]) := by rw [A13 2 (by decide) (by decide) (by decide) (by decide) (by decide) (by decide) (by decide) (by decide) (by decide) (by decide) (by decide) (by decide) (by decide) (by decide) (by decide) (by decide) (by decide) (by decide) (by decide) (by decide) (by decide) (by decide) (by decide) (by decide) (by decide) (by decide) (by decide) (by decide) (by decide) (by decide) (by decide), A13 3 (by decide) (by decide) (by decide) (by decide) (by decide) (by decide) (by decide) (by decide) (by decide) (by decide) (by decide) (by decide) (by decide) (by decide) (by decide) (by decide) (by decide) (by decide) (by decide) (by decide) (by decide) (by decide) (by decide) (by decide) (by decide) (by decide) (by decide) (by decide) (by decide) (by decide) (by decide), A13 4 (by decide) (by decide) (by decide) (by decide) (by decide) (by decide) (by decide) (by decide) (by decide) (by decide) (by decide) (by decide) (by decide) (by decide) (by decide) (by decide) (by decide) (by decide) (by decide) (by decide) (by decide) (by decide) (by decide) (by decide) (by decide) (by decide) (by decide) (by decide) (by decide) (by decide) (by decide), A13 5 (by decide) (by decide) (by decide) (by decide) (by decide) (by decide) (by decide) (by decide) (by decide) (by decide) (by decide) (by decide) (by decide) (by decide) (by decide) (by decide) (by decide) (by decide) (by decide) (by decide) (by decide) (by decide) (by decide) (by decide) (by decide) (by decide) (by decide) (by decide) (by decide) (by decide) (by decide), A13 6 (by decide) (by decide) (by decide) (by decide) (by decide) (by decide) (by decide) (by decide) (by decide) (by decide) (by decide) (by decide) (by decide) (by decide) (by decide) (by decide) (by decide) (by decide) (by decide) (by decide) (by decide) (by decide) (by decide) (by decide) (by decide) (by decide) (by decide) (by decide) (by decide) (by decide) (by decide)]; exact (B13 1 (by decide) (by decide) (by decide) (by decide) (by decide) (by decide) (by decide) (by decide) (by decide) (by decide) (by decide) (by decide) (by decide) (by decide) (by decide) (by decide) (by decide) (by decide) (by decide) (by decide) (by decide) (by decide) (by decide) (by decide) (by decide) (by decide) (by decide) (by decide) (by decide) (by decide) (by decide) (by decide)).trans F5
  have F16 : p13 7 = .inr (3, [.ref (a13 8), .ref (a13 9), .int 0]) := by rw [A13 8 (by decide) (by decide) (by decide) (by decide) (by decide) (by decide) (by decide) (by decide) (by decide) (by decide) (by decide) (by decide) (by decide) (by decide) (by decide) (by decide) (by decide) (by decide) (by decide) (by decide) (by decide) (by decide) (by decide) (by decide) (by decide) (by decide) (by decide) (by decide) (by decide) (by decide) (by decide), A13 9 (by decide) (by decide) (by decide) (by decide) (by decide) (by decide) (by decide) (by decide) (by decide) (by decide) (by decide) (by decide) (by decide) (by decide) (by decide) (by decide) (by decide) (by decide) (by decide) (by decide) (by decide) (by decide) (by decide) (by decide) (by decide) (by decide) (by decide) (by decide) (by decide) (by decide) (by decide)]; exact (B13 7 (by decide) (by decide) (by decide) (by decide) (by decide) (by decide) (by decide) (by decide) (by decide) (by decide) (by decide) (by decide) (by decide) (by decide) (by decide) (by decide) (by decide) (by decide) (by decide) (by decide) (by decide) (by decide) (by decide) (by decide) (by decide) (by decide) (by decide) (by decide) (by decide) (by decide) (by decide) (by decide)).trans F6
  have F17 : p13 10 = .inr (8, [.ref (a13 11), .int 0]) := by rw [A13 11 (by decide) (by decide) (by decide) (by decide) (by decide) (by decide) (by decide) (by decide) (by decide) (by decide) (by decide) (by decide) (by decide) (by decide) (by decide) (by decide) (by decide) (by decide) (by decide) (by decide) (by decide) (by decide) (by decide) (by decide) (by decide) (by decide) (by decide) (by decide) (by decide) (by decide) (by decide)]; exact (B13 10 (by decide) (by decide) (by decide) (by decide) (by decide) (by decide) (by decide) (by decide) (by decide) (by decide) (by decide) (by decide) (by decide) (by decide) (by decide) (by decide) (by decide) (by decide) (by decide) (by decide) (by decide) (by decide) (by decide) (by decide) (by decide) (by decide) (by decide) (by decide) (by decide) (by decide) (by decide) (by decide)).trans F7
  have F18 : p13 12 = .inr (4, [.ref (a13 10), .int 0, .int 0, .int 0, .int 0]) := by rw [A13 10 (by decide) (by decide) (by decide) (by decide) (by decide) (by decide) (by decide) (by decide) (by decide) (by decide) (by decide) (by decide) (by decide) (by decide) (by decide) (by decide) (by decide) (by decide) (by decide) (by decide) (by decide) (by decide) (by decide) (by decide) (by decide) (by decide) (by decide) (by decide) (by decide) (by decide) (by decide)]; exact (B13 12 (by decide) (by decide) (by decide) (by decide) (by decide) (by decide) (by decide) (by decide) (by decide) (by decide) (by decide) (by decide) (by decide) (by decide) (by decide) (by decide) (by decide) (by decide) (by decide) (by decide) (by decide) (by decide) (by decide) (by decide) (by decide) (by decide) (by decide) (by decide) (by decide) (by decide) (by decide) (by decide)).trans F8
  have F19 : p13 13 = .inr (1, [.ref (a13 14), .ref (a13 15), .int 0]) := by rw [A13 14 (by decide) (by decide) (by decide) (by decide) (by decide) (by decide) (by decide) (by decide) (by decide) (by decide) (by decide) (by decide) (by decide) (by decide) (by decide) (by decide) (by decide) (by decide) (by decide) (by decide) (by decide) (by decide) (by decide) (by decide) (by decide) (by decide) (by decide) (by decide) (by decide) (by decide) (by decide), A13 15 (by decide) (by decide) (by decide) (by decide) (by decide) (by decide) (by decide) (by decide) (by decide) (by decide) (by decide) (by decide) (by decide) (by decide) (by decide) (by decide) (by decide) (by decide) (by decide) (by decide) (by decide) (by decide) (by decide) (by decide) (by decide) (by decide) (by decide) (by decide) (by decide) (by decide) (by decide)]; exact (B13 13 (by decide) (by decide) (by decide) (by decide) (by decide) (by decide) (by decide) (by decide) (by decide) (by decide) (by decide) (by decide) (by decide) (by decide) (by decide) (by decide) (by decide) (by decide) (by decide) (by decide) (by decide) (by decide) (by decide) (by decide) (by decide) (by decide) (by decide) (by decide) (by decide) (by decide) (by decide) (by decide)).trans F9
  have F20 : p13 15 = .inr (7, [.int (-1), .int 0, .ref (a13 16), .int 2, .int 20, .int 2, .int 1]) := by rw [A13 16 (by decide) (by decide) (by decide) (by decide) (by decide) (by decide) (by decide) (by decide) (by decide) (by decide) (by decide) (by decide) (by decide) (by decide) (by decide) (by decide) (by decide) (by decide) (by decide) (by decide) (by decide) (by decide) (by decide) (by decide) (by decide) (by decide) (by decide) (by decide) (by decide) (by decide) (by decide)]; exact (B13 15 (by decide) (by decide) (by decide) (by decide) (by decide) (by decide) (by decide) (by decide) (by decide) (by decide) (by decide) (by decide) (by decide) (by decide) (by decide) (by decide) (by decide) (by decide) (by decide) (by decide) (by decide) (by decide) (by decide) (by decide) (by decide) (by decide) (by decide) (by decide) (by decide) (by decide) (by decide) (by decide)).trans F10
  have F21 : p13 17 = .inr (2, [.ref (a13 18), .ref (a13 19), .ref (a13 20), .int 0]) := by rw [A13 18 (by decide) (by decide) (by decide) (by decide) (by decide) (by decide) (by decide) (by decide) (by decide) (by decide) (by decide) (by decide) (by decide) (by decide) (by decide) (by decide) (by decide) (by decide) (by decide) (by decide) (by decide) (by decide) (by decide) (by decide) (by decide) (by decide) (by decide) (by decide) (by decide) (by decide) (by decide), A13 19 (by decide) (by decide) (by decide) (by decide) (by decide) (by decide) (by decide) (by decide) (by decide) (by decide) (by decide) (by decide) (by decide) (by decide) (by decide) (by decide) (by decide) (by decide) (by decide) (by decide) (by decide) (by decide) (by decide) (by decide) (by decide) (by decide) (by decide) (by decide) (by decide) (by decide) (by decide), A13 20 (by decide) (by decide) (by decide) (by decide) (by decide) (by decide) (by decide) (by decide) (by decide) (by decide) (by decide) (by decide) (by decide) (by decide) (by decide) (by decide) (by decide) (by decide) (by decide) (by decide) (by decide) (by decide) (by decide) (by decide) (by decide) (by decide) (by decide) (by decide) (by decide) (by decide) (by decide)]; exact (B13 17 (by decide) (by decide) (by decide) (by decide) (by decide) (by decide) (by decide) (by decide) (by decide) (by decide) (by decide) (by decide) (by decide) (by decide) (by decide) (by decide) (by decide) (by decide) (by decide) (by decide) (by decide) (by decide) (by decide) (by decide) (by decide) (by decide) (by decide) (by decide) (by decide) (by decide) (by decide) (by decide)).trans F11
  have F22 : p13 21 = .inr (5, [.ref (a13 22), .ref (a13 23), .ref (a13 24), .ref (a13 25), .int 0, .int 0]) := by rw [A13 22 (by decide) (by decide) (by decide) (by decide) (by decide) (by decide) (by decide) (by decide) (by decide) (by decide) (by decide) (by decide) (by decide) (by decide) (by decide) (by decide) (by decide) (by decide) (by decide) (by decide) (by decide) (by decide) (by decide) (by decide) (by decide) (by decide) (by decide) (by decide) (by decide) (by decide) (by decide), A13 23 (by decide) (by decide) (by decide) (by decide) (by decide) (by decide) (by decide) (by decide) (by decide) (by decide) (by decide) (by decide) (by decide) (by decide) (by decide) (by decide) (by decide) (by decide) (by decide) (by decide) (by decide) (by decide) (by decide) (by decide) (by decide) (by decide) (by decide) (by decide) (by decide) (by decide) (by decide), A13 24 (by decide) (by decide) (by decide) (by decide) (by decide) (by decide) (by decide) (by decide) (by decide) (by decide) (by decide) (by decide) (by decide) (by decide) (by decide) (by decide) (by decide) (by decide) (by decide) (by decide) (by decide) (by decide) (by decide) (by decide) (by decide) (by decide) (by decide) (by decide) (by decide) (by decide) (by decide), A13 25 (by decide) (by decide) (by decide) (by decide) (by decide) (by decide) (by decide) (by decide) (by decide) (by decide) (by decide) (by decide) (by decide) (by decide) (by decide) (by decide) (by decide) (by decide) (by decide) (by decide) (by decide) (by decide) (by decide) (by decide) (by decide) (by decide) (by decide) (by decide) (by decide) (by decide) (by decide)]; exact (B13 21 (by decide) (by decide) (by decide) (by decide) (by decide) (by decide) (by decide) (by decide) (by decide) (by decide) (by decide) (by decide) (by decide) (by decide) (by decide) (by decide) (by decide) (by decide) (by decide) (by decide) (by decide) (by decide) (by decide) (by decide) (by decide) (by decide) (by decide) (by decide) (by decide) (by decide) (by decide) (by decide)).trans F12
  rw [← A13 0 (by decide) (by decide) (by decide) (by decide) (by decide) (by decide) (by decide) (by decide) (by decide) (by decide) (by decide) (by decide) (by decide) (by decide) (by decide) (by decide) (by decide) (by decide) (by decide) (by decide) (by decide) (by decide) (by decide) (by decide) (by decide) (by decide) (by decide) (by decide) (by decide) (by decide) (by decide)]
  rw [← A13 30 (by decide) (by decide) (by decide) (by decide) (by decide) (by decide) (by decide) (by decide) (by decide) (by decide) (by decide) (by decide) (by decide) (by decide) (by decide) (by decide) (by decide) (by decide) (by decide) (by decide) (by decide) (by decide) (by decide) (by decide) (by decide) (by decide) (by decide) (by decide) (by decide) (by decide) (by decide)]
  refine x_astore_n C (L1 := [(2, .ref (a13 30)), (1, .ref (a13 0)), (0, .ref (b))]) dL_law_25 rfl (by decide) rfl ?_
  refine x_iconst C dL_law_26 (v := 1) (by decide) ?_
  refine x_istore_n C (L1 := [(3, .int 1), (2, .ref (a13 30)), (1, .ref (a13 0)), (0, .ref (b))]) dL_law_27 rfl (by decide) rfl ?_
  have hmem : ∀ j ∈ (((((((((((((((((((((((((((((((((((((((((((((((((((((((((([] ++ [0]) ++ [1]) ++ [2]) ++ [3]) ++ [4]) ++ [5]) ++ [6]) ++ [7]) ++ [8]) ++ [9]) ++ [10]) ++ [11]) ++ [12]) ++ [13]) ++ [14]) ++ [15]) ++ [16]) ++ [17]) ++ [18]) ++ [19]) ++ [20]) ++ [21]) ++ [22]) ++ [23]) ++ [24]) ++ [25]) ++ [30]) ++ [31]) ++ [32]) ++ [39]) ++ [40]) ++ [41]) ++ [42]) ++ [43]) ++ [44]) ++ [45]) ++ [46]) ++ [47]) ++ [48]) ++ [49]) ++ [50]) ++ [51]) ++ [52]) ++ [53]) ++ [54]) ++ [55]) ++ [56]) ++ [57]) ++ [58]) ++ [64]) ++ [65]) ++ [66]) ++ [67]) ++ [68]) ++ [71]) ++ [72]) ++ [73]) ++ [74]), pw G nR a13 (S00 nR) j = p13 j := by
    intro j hj
    simp only [List.mem_append, List.mem_singleton] at hj
    rcases hj with (((((((((((((((((((((((((((((((((((((((((((((((((((((((((h | rfl) | rfl) | rfl) | rfl) | rfl) | rfl) | rfl) | rfl) | rfl) | rfl) | rfl) | rfl) | rfl) | rfl) | rfl) | rfl) | rfl) | rfl) | rfl) | rfl) | rfl) | rfl) | rfl) | rfl) | rfl) | rfl) | rfl) | rfl) | rfl) | rfl) | rfl) | rfl) | rfl) | rfl) | rfl) | rfl) | rfl) | rfl) | rfl) | rfl) | rfl) | rfl) | rfl) | rfl) | rfl) | rfl) | rfl) | rfl) | rfl) | rfl) | rfl) | rfl) | rfl) | rfl) | rfl) | rfl) | rfl) | rfl
    · exact absurd h List.not_mem_nil
    · exact (F14).symm
    · exact (F15).symm
    · exact ((((B13 2 (by decide) (by decide) (by decide) (by decide) (by decide) (by decide) (by decide) (by decide) (by decide) (by decide) (by decide) (by decide) (by decide) (by decide) (by decide) (by decide) (by decide) (by decide) (by decide) (by decide) (by decide) (by decide) (by decide) (by decide) (by decide) (by decide) (by decide) (by decide) (by decide) (by decide) (by decide) (by decide)).trans (B3 2 (by decide))).trans N2_2)).symm
    · exact ((((B13 3 (by decide) (by decide) (by decide) (by decide) (by decide) (by decide) (by decide) (by decide) (by decide) (by decide) (by decide) (by decide) (by decide) (by decide) (by decide) (by decide) (by decide) (by decide) (by decide) (by decide) (by decide) (by decide) (by decide) (by decide) (by decide) (by decide) (by decide) (by decide) (by decide) (by decide) (by decide) (by decide)).trans (B3 3 (by decide))).trans N2_3)).symm
    · exact ((((B13 4 (by decide) (by decide) (by decide) (by decide) (by decide) (by decide) (by decide) (by decide) (by decide) (by decide) (by decide) (by decide) (by decide) (by decide) (by decide) (by decide) (by decide) (by decide) (by decide) (by decide) (by decide) (by decide) (by decide) (by decide) (by decide) (by decide) (by decide) (by decide) (by decide) (by decide) (by decide) (by decide)).trans (B3 4 (by decide))).trans N2_4)).symm
    · exact ((((B13 5 (by decide) (by decide) (by decide) (by decide) (by decide) (by decide) (by decide) (by decide) (by decide) (by decide) (by decide) (by decide) (by decide) (by decide) (by decide) (by decide) (by decide) (by decide) (by decide) (by decide) (by decide) (by decide) (by decide) (by decide) (by decide) (by decide) (by decide) (by decide) (by decide) (by decide) (by decide) (by decide)).trans (B3 5 (by decide))).trans N2_5)).symm
    · exact ((((B13 6 (by decide) (by decide) (by decide) (by decide) (by decide) (by decide) (by decide) (by decide) (by decide) (by decide) (by decide) (by decide) (by decide) (by decide) (by decide) (by decide) (by decide) (by decide) (by decide) (by decide) (by decide) (by decide) (by decide) (by decide) (by decide) (by decide) (by decide) (by decide) (by decide) (by decide) (by decide) (by decide)).trans (B3 6 (by decide))).trans N2_6)).symm
    · exact (F16).symm
    · exact ((pf_8 G nR a13 (S00 nR 8)).trans (by rw [show (fun i => if S00 nR 8 i = 0 then none else some (a13 (100 + i))) = (fun _ => none) from funext fun i => if_pos rfl])).trans ((((B13 8 (by decide) (by decide) (by decide) (by decide) (by decide) (by decide) (by decide) (by decide) (by decide) (by decide) (by decide) (by decide) (by decide) (by decide) (by decide) (by decide) (by decide) (by decide) (by decide) (by decide) (by decide) (by decide) (by decide) (by decide) (by decide) (by decide) (by decide) (by decide) (by decide) (by decide) (by decide) (by decide)).trans (B3 8 (by decide))).trans N2_8)).symm
    · exact ((((B13 9 (by decide) (by decide) (by decide) (by decide) (by decide) (by decide) (by decide) (by decide) (by decide) (by decide) (by decide) (by decide) (by decide) (by decide) (by decide) (by decide) (by decide) (by decide) (by decide) (by decide) (by decide) (by decide) (by decide) (by decide) (by decide) (by decide) (by decide) (by decide) (by decide) (by decide) (by decide) (by decide)).trans (B3 9 (by decide))).trans N2_9)).symm
    · exact (F17).symm
    · exact ((((B13 11 (by decide) (by decide) (by decide) (by decide) (by decide) (by decide) (by decide) (by decide) (by decide) (by decide) (by decide) (by decide) (by decide) (by decide) (by decide) (by decide) (by decide) (by decide) (by decide) (by decide) (by decide) (by decide) (by decide) (by decide) (by decide) (by decide) (by decide) (by decide) (by decide) (by decide) (by decide) (by decide)).trans (B3 11 (by decide))).trans N2_11)).symm
    · exact (F18).symm
    · exact (F19).symm
    · exact ((pf_14 G nR a13 (S00 nR 14)).trans (by rw [show (fun i => if S00 nR 14 i = 0 then none else some (a13 (400 + i))) = (fun _ => none) from funext fun i => if_pos rfl])).trans ((((B13 14 (by decide) (by decide) (by decide) (by decide) (by decide) (by decide) (by decide) (by decide) (by decide) (by decide) (by decide) (by decide) (by decide) (by decide) (by decide) (by decide) (by decide) (by decide) (by decide) (by decide) (by decide) (by decide) (by decide) (by decide) (by decide) (by decide) (by decide) (by decide) (by decide) (by decide) (by decide) (by decide)).trans (B3 14 (by decide))).trans N2_14)).symm
    · exact (F20).symm
    · exact ((((B13 16 (by decide) (by decide) (by decide) (by decide) (by decide) (by decide) (by decide) (by decide) (by decide) (by decide) (by decide) (by decide) (by decide) (by decide) (by decide) (by decide) (by decide) (by decide) (by decide) (by decide) (by decide) (by decide) (by decide) (by decide) (by decide) (by decide) (by decide) (by decide) (by decide) (by decide) (by decide) (by decide)).trans (B3 16 (by decide))).trans N2_16)).symm
    · exact (F21).symm
    · exact ((((B13 18 (by decide) (by decide) (by decide) (by decide) (by decide) (by decide) (by decide) (by decide) (by decide) (by decide) (by decide) (by decide) (by decide) (by decide) (by decide) (by decide) (by decide) (by decide) (by decide) (by decide) (by decide) (by decide) (by decide) (by decide) (by decide) (by decide) (by decide) (by decide) (by decide) (by decide) (by decide) (by decide)).trans (B3 18 (by decide))).trans N2_18)).symm
    · exact ((((B13 19 (by decide) (by decide) (by decide) (by decide) (by decide) (by decide) (by decide) (by decide) (by decide) (by decide) (by decide) (by decide) (by decide) (by decide) (by decide) (by decide) (by decide) (by decide) (by decide) (by decide) (by decide) (by decide) (by decide) (by decide) (by decide) (by decide) (by decide) (by decide) (by decide) (by decide) (by decide) (by decide)).trans (B3 19 (by decide))).trans N2_19)).symm
    · exact ((((B13 20 (by decide) (by decide) (by decide) (by decide) (by decide) (by decide) (by decide) (by decide) (by decide) (by decide) (by decide) (by decide) (by decide) (by decide) (by decide) (by decide) (by decide) (by decide) (by decide) (by decide) (by decide) (by decide) (by decide) (by decide) (by decide) (by decide) (by decide) (by decide) (by decide) (by decide) (by decide) (by decide)).trans (B3 20 (by decide))).trans N2_20)).symm
    · exact (F22).symm
    · exact ((((B13 22 (by decide) (by decide) (by decide) (by decide) (by decide) (by decide) (by decide) (by decide) (by decide) (by decide) (by decide) (by decide) (by decide) (by decide) (by decide) (by decide) (by decide) (by decide) (by decide) (by decide) (by decide) (by decide) (by decide) (by decide) (by decide) (by decide) (by decide) (by decide) (by decide) (by decide) (by decide) (by decide)).trans (B3 22 (by decide))).trans N2_22)).symm
    · exact ((((B13 23 (by decide) (by decide) (by decide) (by decide) (by decide) (by decide) (by decide) (by decide) (by decide) (by decide) (by decide) (by decide) (by decide) (by decide) (by decide) (by decide) (by decide) (by decide) (by decide) (by decide) (by decide) (by decide) (by decide) (by decide) (by decide) (by decide) (by decide) (by decide) (by decide) (by decide) (by decide) (by decide)).trans (B3 23 (by decide))).trans N2_23)).symm
    · exact ((((B13 24 (by decide) (by decide) (by decide) (by decide) (by decide) (by decide) (by decide) (by decide) (by decide) (by decide) (by decide) (by decide) (by decide) (by decide) (by decide) (by decide) (by decide) (by decide) (by decide) (by decide) (by decide) (by decide) (by decide) (by decide) (by decide) (by decide) (by decide) (by decide) (by decide) (by decide) (by decide) (by decide)).trans (B3 24 (by decide))).trans N2_24)).symm
    · exact ((((B13 25 (by decide) (by decide) (by decide) (by decide) (by decide) (by decide) (by decide) (by decide) (by decide) (by decide) (by decide) (by decide) (by decide) (by decide) (by decide) (by decide) (by decide) (by decide) (by decide) (by decide) (by decide) (by decide) (by decide) (by decide) (by decide) (by decide) (by decide) (by decide) (by decide) (by decide) (by decide) (by decide)).trans (B3 25 (by decide))).trans N2_25)).symm
    · exact (N13_0).symm
    · exact (N13_1).symm
    · exact (N13_2).symm
    · exact (N13_3).symm
    · exact (N13_4).symm
    · exact (N13_5).symm
    · exact (N13_6).symm
    · exact (N13_7).symm
    · exact (N13_8).symm
    · exact (N13_9).symm
    · exact (N13_10).symm
    · exact (N13_11).symm
    · exact (N13_12).symm
    · exact (N13_13).symm
    · exact (N13_14).symm
    · exact (N13_15).symm
    · exact (N13_16).symm
    · exact (N13_17).symm
    · exact (N13_18).symm
    · exact (N13_19).symm
    · exact (N13_20).symm
    · exact (N13_21).symm
    · exact (N13_22).symm
    · exact (N13_23).symm
    · exact (N13_24).symm
    · exact (N13_25).symm
    · exact (N13_26).symm
    · exact (N13_27).symm
    · exact (N13_28).symm
    · exact (N13_29).symm
    · exact (N13_30).symm
    · exact (N13_31).symm
  refine x_sub [3, 2, 1, 0] (L1 := [(0, .ref (b)), (1, .ref (a13 0)), (2, .ref (a13 30)), (3, .int 1)]) rfl ?_
  refine x_same C (ad1 := a13) (P1 := pw G nR a13 (S00 nR)) (fun j hj => ⟨rfl, hmem j hj⟩) (fun C => ?_)
  exact law_loop l hX hbl hbA hLs hAs hret (Ls + 1) 0 0 0 0 0 0 _ _ _ _ _ (by omega) (by omega) (Nat.le_of_ble_eq_true rfl) (Nat.le_of_ble_eq_true rfl) (iv_0 h3 hR12) ⟨by decide, fun i hi => absurd hi (Nat.not_lt_zero i), fun i hi => absurd hi (Nat.not_lt_zero i), fun j hj => Or.inl ((by decide : ∀ j ∈ (((((((((((((((((((((((((((((((((((((((((((((((((((((((((([] ++ [0]) ++ [1]) ++ [2]) ++ [3]) ++ [4]) ++ [5]) ++ [6]) ++ [7]) ++ [8]) ++ [9]) ++ [10]) ++ [11]) ++ [12]) ++ [13]) ++ [14]) ++ [15]) ++ [16]) ++ [17]) ++ [18]) ++ [19]) ++ [20]) ++ [21]) ++ [22]) ++ [23]) ++ [24]) ++ [25]) ++ [30]) ++ [31]) ++ [32]) ++ [39]) ++ [40]) ++ [41]) ++ [42]) ++ [43]) ++ [44]) ++ [45]) ++ [46]) ++ [47]) ++ [48]) ++ [49]) ++ [50]) ++ [51]) ++ [52]) ++ [53]) ++ [54]) ++ [55]) ++ [56]) ++ [57]) ++ [58]) ++ [64]) ++ [65]) ++ [66]) ++ [67]) ++ [68]) ++ [71]) ++ [72]) ++ [73]) ++ [74]), j < 100) j hj)⟩ C
