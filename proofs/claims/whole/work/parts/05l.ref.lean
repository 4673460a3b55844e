/-! the reference's statement -/
theorem s2_cm {S : tf_M} {j k j' k' : Nat} {v w : Int32} (h : j ≠ j') : s2 (s2 S j k v) j' k' w = s2 (s2 S j' k' w) j k v := by
  funext a b
  by_cases h1 : a = j
  · subst h1
    rw [s2_ne h]
    by_cases h2 : b = k
    · subst h2; rw [s2_eq, s2_eq]
    · rw [s2_nk h2, s2_nk h2, s2_ne h]
  · rw [s2_ne (S := s2 S j' k' w) h1]
    by_cases h3 : a = j'
    · subst h3
      by_cases h2 : b = k'
      · subst h2; rw [s2_eq, s2_eq]
      · rw [s2_nk h2, s2_nk h2, s2_ne h1]
    · rw [s2_ne h3, s2_ne h3, s2_ne h1]
def sx3 (S : tf_M) (q : Nat) (a b c : Int32) (Z : tf_M) : Prop := scx (s2 (s2 (s2 S 67 q a) 66 q b) 68 q c) Z
theorem sx3.in {S : tf_M} {q : Nat} {a : Int32} : sx3 S q a (S 66 q) (S 68 q) (s2 S 67 q a) := by
  unfold sx3
  rw [s2_id (S := s2 S 67 q a) (j := 66) (by rw [s2_ne (by decide)]), s2_id (S := s2 S 67 q a) (j := 68) (by rw [s2_ne (by decide)])]
  exact scx.rf
theorem sx3.tr {S Z W : tf_M} {q : Nat} {a b c : Int32} (h : sx3 S q a b c Z) (g : scx Z W) : sx3 S q a b c W := scx.tr h g
theorem sx3.p67 {S Z : tf_M} {q : Nat} {a b c v : Int32} (h : sx3 S q a b c Z) : sx3 S q v b c (s2 Z 67 q v) := by
  have g := scx.put (j := 67) (k := q) (v := v) (by decide) h
  rw [s2_cm (show (68 : Nat) ≠ 67 by decide), s2_cm (show (66 : Nat) ≠ 67 by decide), s2_s2] at g
  exact g
theorem sx3.p66 {S Z : tf_M} {q : Nat} {a b c v : Int32} (h : sx3 S q a b c Z) : sx3 S q a v c (s2 Z 66 q v) := by
  have g := scx.put (j := 66) (k := q) (v := v) (by decide) h
  rw [s2_cm (show (68 : Nat) ≠ 66 by decide), s2_s2] at g
  exact g
theorem sx3.p68 {S Z : tf_M} {q : Nat} {a b c v : Int32} (h : sx3 S q a b c Z) : sx3 S q a b v (s2 Z 68 q v) := by
  have g := scx.put (j := 68) (k := q) (v := v) (by decide) h
  rw [s2_s2] at g
  exact g
theorem sx3.r68 {S Z : tf_M} {q : Nat} {a b c : Int32} (h : sx3 S q a b c Z) : Z 68 q = c := by
  rw [h.1 68 (by decide)]; exact s2_eq
theorem sx3.r66 {S Z : tf_M} {q : Nat} {a b c : Int32} (h : sx3 S q a b c Z) : Z 66 q = b := by
  rw [h.1 66 (by decide), s2_ne (by decide)]; exact s2_eq
theorem sx3.r58 {S Z : tf_M} {q : Nat} {a b c : Int32} (h : sx3 S q a b c Z) : Z 58 = S 58 := by
  rw [h.1 58 (by decide), s2_ne (by decide), s2_ne (by decide), s2_ne (by decide)]
theorem sx3.r30 {S Z : tf_M} {q : Nat} {a b c : Int32} (h : sx3 S q a b c Z) : Z 30 30 = S 30 30 := by
  rw [h.2 30 (by decide) (by decide) (by decide), s2_ne (by decide), s2_ne (by decide), s2_ne (by decide)]
theorem kOf_3 {x : Int32} : kOf x = 3 ↔ x = 59 := by
  refine ⟨fun h => ?_, fun h => by rw [h]; decide⟩
  unfold kOf at h
  split at h
  · exact absurd h (by decide)
  · split at h
    · exact absurd h (by decide)
    · split at h
      · assumption
      · exact absurd h (by decide)
/-- what a right statement tells: its sort, first and second number -/
def mVal (T : Nat → Int32) (N e : Nat) : Int32 × Int32 × Int32 :=
  if wrdT T N e 0 = true then (0, 0, ordC T N (tkE T N e))
  else if wrdT T N e 1 = true then (1, numR T N (tkE T N e), numR T N (tkE T N (tkE T N (tkE T N e))))
  else (if wrdT T N e 2 = true then 2 else if wrdT T N e 3 = true then 3 else 4, 0, numR T N (tkE T N e))
set_option maxHeartbeats 4000000 in
set_option maxRecDepth 100000 in
theorem k_X10_statement (l : Launch) (G : tf_G) (nR : Nat) (LL : List Nat) (ad : Nat → Nat) (hF : ∀ j ∈ tf_fix, j ∈ LL) (S : tf_M) (N e : Nat) (hN : S 30 30 = nI N) (he : S 30 31 = nI e) (hN4 : N ≤ 400) (heN : e ≤ N) (o w q : Nat) (hq : q < 176) : Ci l yX10_statement wsX10_statement ({ frames := 3, cells := 0, slots := 0, locals := 64 } : Room) G LL ad (pw G nR ad) (pw G nR ad S) [.ref (ad 30), .int (nI q)] (fun z u => z = bI (stm nR o w (S 58) N e).1 ∧ u 30 31 = nI (if (stm nR o w (S 58) N e).1 = true then tkE (S 58) N (stm nR o w (S 58) N e).2.1 else tkS (S 58) N (stm nR o w (S 58) N e).2.1) ∧ ∃ a b c, sx3 S q a b c u ∧ ((stm nR o w (S 58) N e).1 = true → (b, a, c) = mVal (S 58) N e)) := by
  have hin10 : ∀ w ∈ u_ws RX10 TX10 45, w ∈ wsX10_statement := by decide +kernel
  have lk157 : Cond.fieldLink RX10 157 "TributeFleetModel" "place" "I" ∈ wsX10_statement := by decide +kernel
  have lk160 : Cond.fieldLink RX10 160 "TributeFleetModel" "size" "I" ∈ wsX10_statement := by decide +kernel
  have lk79 : Cond.fieldLink RX10 79 "TributeFleetModel" "text" "[B" ∈ wsX10_statement := by decide +kernel
  have lk94 : Cond.fieldLink RX10 94 "TributeFleetModel" "first" "[I" ∈ wsX10_statement := by decide +kernel
  have lk91 : Cond.fieldLink RX10 91 "TributeFleetModel" "sort" "[I" ∈ wsX10_statement := by decide +kernel
  have lk97 : Cond.fieldLink RX10 97 "TributeFleetModel" "second" "[I" ∈ wsX10_statement := by decide +kernel
  have lk173 : Cond.fieldLink RX10 173 "TributeFleetModel" "number" "I" ∈ wsX10_statement := by decide +kernel
  refine ci_of (cc := cX10_statement) (maxL := 2) (ret := (some .boolean)) (by decide +kernel) rfl (Nat.le_of_ble_eq_true rfl) ?_
  intro pv ev sv mv args below meth cv A C hrt9 hnm9
  have C : Cx pv sv mv args meth cv cX10_statement 2 RX10 wsX10_statement G A LL ad := C
  show XJ pv l ev _ sv mv args below meth cv G A LL ad _ 2 0 0 _ 0 [(0, .ref (ad 30)), (1, .int (nI q))] []
  have j230 : ∀ (Z : tf_M) (x : Nat) (a b c : Int32), ((stm nR o w (S 58) N e).1 = decide (tkK (S 58) N x = 3)) → ((stm nR o w (S 58) N e).2.1 = x) → ((b, a, c) = mVal (S 58) N e) → (x ≤ N) → (Z 30 31 = nI x) → (sx3 S q a b c Z) → XJ pv l ev ({ frames := 3, cells := 0, slots := 0, locals := 64 } : Room) sv mv args below meth cv G A LL ad (MQ below (va_Qi (fun z u => z = bI (stm nR o w (S 58) N e).1 ∧ u 30 31 = nI (if (stm nR o w (S 58) N e).1 = true then tkE (S 58) N (stm nR o w (S 58) N e).2.1 else tkS (S 58) N (stm nR o w (S 58) N e).2.1) ∧ ∃ a b c, sx3 S q a b c u ∧ ((stm nR o w (S 58) N e).1 = true → (b, a, c) = mVal (S 58) N e)) (tf_B G LL ad (pw G nR ad)) A) args sv 0 0 A) 2 0 0 (pw G nR ad Z) 230 [(0, .ref (ad 30)), (1, .int (nI q))] [] := by
    intro Z x a b c hs1 hs2 hv hxN he9 hxx
    refine x_aload_n C 0 dX10_statement_230 rfl rfl ?_
    refine x_Vv 30 C (k_X10_blanks l G nR LL ad hF Z N x (hxx.r30.trans hN) he9 hN4 hxN) gX10_statement_X10_blanks rfl (by decide +kernel) ⟨(Nat.le_of_ble_eq_true rfl), (Nat.le_of_ble_eq_true rfl)⟩ ⟨(Nat.le_of_ble_eq_true rfl), (Nat.le_of_ble_eq_true rfl)⟩ (hF 30 (by decide)) (pf_30 G nR ad _) (T := TX10) (N := 45) rfl (n := 0) rfl (st := []) (Nat.le_of_ble_eq_true rfl) rfl dX10_statement_231 (fun _ hr9 => ?_)
    subst hr9
    rw [hxx.r58]
    obtain ⟨t1, t2, t3⟩ := tk_le (T := (S 58)) hxN
    refine x_aload_n C 0 dX10_statement_234 rfl rfl ?_
    refine x_get C (T := TX10) (N := 45) (v := .int (nI (tkS (S 58) N x))) 30 31 hin10 (hF 30 (by decide)) (pf_30 G nR ad _) rfl (by decide) lk157 rfl rfl dX10_statement_235 ?_
    refine x_aload_n C 0 dX10_statement_238 rfl rfl ?_
    refine x_get C (T := TX10) (N := 45) (v := .int (Z 30 30)) 30 30 hin10 (hF 30 (by decide)) (pf_30 G nR ad _) rfl (by decide) lk160 rfl rfl dX10_statement_239 ?_
    refine x_icmp_eq C (tgt := 259) dX10_statement_242 (by decide) (fun c242 => ?_) (fun c242 => ?_)
    · skip
      refine x_iconst C dX10_statement_259 (v := 0) (by decide) ?_
      refine x_zret C hrt9 (Or.inl rfl) (s2 Z 30 31 (nI (tkS (S 58) N x))) ?_ rfl dX10_statement_260
      have hk : decide (tkK (S 58) N x = 3) = false := by
        have : N = (tkS (S 58) N x) := (nI_inj (c242.trans (hxx.r30.trans hN)) (by omega) (by omega)).symm
        unfold tkK
        rw [if_pos (by omega)]
        decide
      refine ⟨by rw [hs1, hk]; rfl, by rw [hs1, hs2, hk, if_neg (by decide)]; exact s2_eq, a, b, c, hxx.tr scx.p31, fun h => by rw [hs1, hk] at h; cases h⟩
    · skip
      refine x_aload_n C 0 dX10_statement_245 rfl rfl ?_
      have hlt : tkS (S 58) N x < N := by
        have : ¬ N = tkS (S 58) N x := fun h => c242 (by rw [← h]; exact (hxx.r30.trans hN).symm)
        omega
      refine x_get C (T := TX10) (N := 45) (v := .ref (ad 58)) 30 28 hin10 (hF 30 (by decide)) (pf_30 G nR ad _) rfl (by decide) lk79 rfl rfl dX10_statement_246 ?_
      refine x_aload_n C 0 dX10_statement_249 rfl rfl ?_
      refine x_get C (T := TX10) (N := 45) (v := .int (nI (tkS (S 58) N x))) 30 31 hin10 (hF 30 (by decide)) (pf_30 G nR ad _) rfl (by decide) lk157 rfl rfl dX10_statement_250 ?_
      refine x_bald C 58 (hF 58 (by decide)) (pf_58 G nR ad _) (nI_in (N := 400) (by omega) (by omega)) (kk := (tkS (S 58) N x)) (nI_clamp (by omega)) dX10_statement_253 ?_
      refine x_bipush C dX10_statement_254 (v := 59) (by decide) ?_
      refine x_icmp_eq C (tgt := 261) dX10_statement_256 (by decide) (fun c256 => ?_) (fun c256 => ?_)
      · skip
        refine x_aload_n C 0 dX10_statement_261 rfl rfl ?_
        refine x_dup C dX10_statement_262 rfl ?_
        refine x_get C (T := TX10) (N := 45) (v := .int (nI (tkS (S 58) N x))) 30 31 hin10 (hF 30 (by decide)) (pf_30 G nR ad _) rfl (by decide) lk157 rfl rfl dX10_statement_263 ?_
        refine x_iconst C dX10_statement_266 (v := 1) (by decide) ?_
        refine x_iadd C dX10_statement_267 ?_
        refine y_put C (T := TX10) (N := 45) (ty := .int) 30 31 hin10 tyX10 tyX10_ok nmX10 (hF 30 (by decide)) (pf_30 G nR ad _) (pf_30 G nR ad _) rfl (by decide) lk157 rfl rfl (by decide +kernel) rfl rfl (Nat.le_of_ble_eq_true rfl) dX10_statement_268 ?_
        refine x_iconst C dX10_statement_271 (v := 1) (by decide) ?_
        refine x_zret C hrt9 (Or.inr rfl) (s2 (s2 Z 30 31 (nI (tkS (S 58) N x))) 30 31 ((nI (tkS (S 58) N x)) + 1)) ?_ rfl dX10_statement_272
        have hk0 : tkK (S 58) N x = 3 := by
          unfold tkK
          rw [if_neg (by omega)]
          rw [s2_ne (show (58 : Nat) ≠ 30 by decide), hxx.r58] at c256
          exact kOf_3.mpr c256
        have hk : decide (tkK (S 58) N x = 3) = true := decide_eq_true hk0
        have hke : tkE (S 58) N x = (tkS (S 58) N x) + 1 := by
          unfold tkE
          rw [if_neg (by omega), hk0, if_neg (by decide)]
        refine ⟨by rw [hs1, hk]; rfl, by rw [hs1, hs2, hk, if_pos rfl, hke, nI_succ]; exact s2_eq, a, b, c, (hxx.tr scx.p31).tr scx.p31, fun _ => hv⟩
      · skip
        refine x_iconst C dX10_statement_259 (v := 0) (by decide) ?_
        refine x_zret C hrt9 (Or.inl rfl) (s2 Z 30 31 (nI (tkS (S 58) N x))) ?_ rfl dX10_statement_260
        have hk : decide (tkK (S 58) N x = 3) = false := by
          unfold tkK
          rw [if_neg (by omega)]
          rw [s2_ne (show (58 : Nat) ≠ 30 by decide), hxx.r58] at c256
          exact decide_eq_false fun h => c256 (kOf_3.mp h)
        refine ⟨by rw [hs1, hk]; rfl, by rw [hs1, hs2, hk, if_neg (by decide)]; exact s2_eq, a, b, c, hxx.tr scx.p31, fun h => by rw [hs1, hk] at h; cases h⟩
  refine x_aload_n C 0 dX10_statement_0 rfl rfl ?_
  refine x_get C (T := TX10) (N := 45) (v := .ref (ad 67)) 30 37 hin10 (hF 30 (by decide)) (pf_30 G nR ad _) rfl (by decide) lk94 rfl rfl dX10_statement_1 ?_
  refine x_iload_n C 1 dX10_statement_4 rfl rfl ?_
  refine x_iconst C dX10_statement_5 (v := 0) (by decide) ?_
  refine y_iast C 67 (hF 67 (by decide)) (fun f => (pf_67 G nR ad f)) (nI_in (N := 176) hq (by omega)) (kk := q) (nI_clamp (by omega)) dX10_statement_6 ?_
  obtain ⟨Z1, hZ1⟩ : ∃ Z1, Z1 = s2 S 67 q 0 := ⟨_, rfl⟩
  have hx1 := sx3.in (S := S) (q := q) (a := 0)
  have he1 : Z1 30 31 = nI e := by rw [hZ1, s2_ne (by decide)]; exact he
  rw [← hZ1] at hx1 ⊢
  refine x_aload_n C 0 dX10_statement_7 rfl rfl ?_
  refine x_ldc2 C (show Cond.constantLong RX10 176 (478660552050) ∈ wsX10_statement by decide +kernel) dX10_statement_8 ?_
  refine x_Vi 30 C (k_X10_takes l G nR LL ad hF Z1 (478660552050) N e (hx1.r30.trans hN) he1 hN4 heN) gX10_statement_X10_takes rfl (by decide +kernel) ⟨(Nat.le_of_ble_eq_true rfl), (Nat.le_of_ble_eq_true rfl)⟩ ⟨(Nat.le_of_ble_eq_true rfl), (Nat.le_of_ble_eq_true rfl)⟩ (hF 30 (by decide)) (pf_30 G nR ad _) (T := TX10) (N := 45) rfl (n := 1) rfl (st := []) (Nat.le_of_ble_eq_true rfl) rfl dX10_statement_11 (fun _ _ hr9 => ?_)
  obtain ⟨rfl, rfl⟩ := hr9
  obtain ⟨f2a, f2b, f2c⟩ := tk_fact (Z := Z1) (T := (S 58)) (N := N) (p := e) (e := e) 0 (c := (478660552050)) (by decide) (by decide +kernel) hx1.r58 rfl
  rw [f2a]
  obtain ⟨Z2, hZ2⟩ : ∃ Z2, Z2 = tkWd Z1 N e (478660552050) := ⟨_, rfl⟩
  rw [← hZ2] at f2b f2c ⊢
  have hx2 := hx1.tr f2b
  refine x_if_eq C (tgt := 85) dX10_statement_14 (by decide) (fun c14 => ?_) (fun c14 => ?_)
  · replace c14 := bI_z c14
    refine x_aload_n C 0 dX10_statement_85 rfl rfl ?_
    refine x_get C (T := TX10) (N := 45) (v := .ref (ad 66)) 30 36 hin10 (hF 30 (by decide)) (pf_30 G nR ad _) rfl (by decide) lk91 rfl rfl dX10_statement_86 ?_
    refine x_iload_n C 1 dX10_statement_89 rfl rfl ?_
    refine x_aload_n C 0 dX10_statement_90 rfl rfl ?_
    refine x_ldc2 C (show Cond.constantLong RX10 188 (1684109683) ∈ wsX10_statement by decide +kernel) dX10_statement_91 ?_
    have he2 : Z2 30 31 = nI (tkS (S 58) N e) := by rw [f2c, if_neg (by rw [c14]; decide)]
    have hl2 : (tkS (S 58) N e) ≤ N := Nat.le_trans (tk_le heN).2.1 (tk_le heN).2.2
    refine x_Vi 30 C (k_X10_takes l G nR LL ad hF Z2 (1684109683) N (tkS (S 58) N e) (hx2.r30.trans hN) he2 hN4 hl2) gX10_statement_X10_takes rfl (by decide +kernel) ⟨(Nat.le_of_ble_eq_true rfl), (Nat.le_of_ble_eq_true rfl)⟩ ⟨(Nat.le_of_ble_eq_true rfl), (Nat.le_of_ble_eq_true rfl)⟩ (hF 30 (by decide)) (pf_30 G nR ad _) (T := TX10) (N := 45) rfl (n := 1) rfl (st := [.int (nI q), .ref (ad 66)]) (Nat.le_of_ble_eq_true rfl) rfl dX10_statement_94 (fun _ _ hr9 => ?_)
    obtain ⟨rfl, rfl⟩ := hr9
    obtain ⟨f3a, f3b, f3c⟩ := tk_fact (Z := Z2) (T := (S 58)) (N := N) (p := (tkS (S 58) N e)) (e := e) 1 (c := (1684109683)) (by decide) (by decide +kernel) hx2.r58 (tkS_idem heN)
    rw [f3a]
    obtain ⟨Z3, hZ3⟩ : ∃ Z3, Z3 = tkWd Z2 N (tkS (S 58) N e) (1684109683) := ⟨_, rfl⟩
    rw [← hZ3] at f3b f3c ⊢
    have hx3 := hx2.tr f3b
    refine x_if_eq C (tgt := 104) dX10_statement_97 (by decide) (fun c97 => ?_) (fun c97 => ?_)
    · replace c97 := bI_z c97
      refine x_aload_n C 0 dX10_statement_104 rfl rfl ?_
      refine x_ldc2 C (show Cond.constantLong RX10 190 (1819243379) ∈ wsX10_statement by decide +kernel) dX10_statement_105 ?_
      have he3 : Z3 30 31 = nI (tkS (S 58) N e) := by rw [f3c, if_neg (by rw [c97]; decide)]
      have hl3 : (tkS (S 58) N e) ≤ N := Nat.le_trans (tk_le heN).2.1 (tk_le heN).2.2
      refine x_Vi 30 C (k_X10_takes l G nR LL ad hF Z3 (1819243379) N (tkS (S 58) N e) (hx3.r30.trans hN) he3 hN4 hl3) gX10_statement_X10_takes rfl (by decide +kernel) ⟨(Nat.le_of_ble_eq_true rfl), (Nat.le_of_ble_eq_true rfl)⟩ ⟨(Nat.le_of_ble_eq_true rfl), (Nat.le_of_ble_eq_true rfl)⟩ (hF 30 (by decide)) (pf_30 G nR ad _) (T := TX10) (N := 45) rfl (n := 1) rfl (st := [.int (nI q), .ref (ad 66)]) (Nat.le_of_ble_eq_true rfl) rfl dX10_statement_108 (fun _ _ hr9 => ?_)
      obtain ⟨rfl, rfl⟩ := hr9
      obtain ⟨f4a, f4b, f4c⟩ := tk_fact (Z := Z3) (T := (S 58)) (N := N) (p := (tkS (S 58) N e)) (e := e) 2 (c := (1819243379)) (by decide) (by decide +kernel) hx3.r58 (tkS_idem heN)
      rw [f4a]
      obtain ⟨Z4, hZ4⟩ : ∃ Z4, Z4 = tkWd Z3 N (tkS (S 58) N e) (1819243379) := ⟨_, rfl⟩
      rw [← hZ4] at f4b f4c ⊢
      have hx4 := hx3.tr f4b
      refine x_if_eq C (tgt := 118) dX10_statement_111 (by decide) (fun c111 => ?_) (fun c111 => ?_)
      · replace c111 := bI_z c111
        refine x_aload_n C 0 dX10_statement_118 rfl rfl ?_
        refine x_ldc2 C (show Cond.constantLong RX10 192 (31650994674824293) ∈ wsX10_statement by decide +kernel) dX10_statement_119 ?_
        have he4 : Z4 30 31 = nI (tkS (S 58) N e) := by rw [f4c, if_neg (by rw [c111]; decide)]
        have hl4 : (tkS (S 58) N e) ≤ N := Nat.le_trans (tk_le heN).2.1 (tk_le heN).2.2
        refine x_Vi 30 C (k_X10_takes l G nR LL ad hF Z4 (31650994674824293) N (tkS (S 58) N e) (hx4.r30.trans hN) he4 hN4 hl4) gX10_statement_X10_takes rfl (by decide +kernel) ⟨(Nat.le_of_ble_eq_true rfl), (Nat.le_of_ble_eq_true rfl)⟩ ⟨(Nat.le_of_ble_eq_true rfl), (Nat.le_of_ble_eq_true rfl)⟩ (hF 30 (by decide)) (pf_30 G nR ad _) (T := TX10) (N := 45) rfl (n := 1) rfl (st := [.int (nI q), .ref (ad 66)]) (Nat.le_of_ble_eq_true rfl) rfl dX10_statement_122 (fun _ _ hr9 => ?_)
        obtain ⟨rfl, rfl⟩ := hr9
        obtain ⟨f5a, f5b, f5c⟩ := tk_fact (Z := Z4) (T := (S 58)) (N := N) (p := (tkS (S 58) N e)) (e := e) 3 (c := (31650994674824293)) (by decide) (by decide +kernel) hx4.r58 (tkS_idem heN)
        rw [f5a]
        obtain ⟨Z5, hZ5⟩ : ∃ Z5, Z5 = tkWd Z4 N (tkS (S 58) N e) (31650994674824293) := ⟨_, rfl⟩
        rw [← hZ5] at f5b f5c ⊢
        have hx5 := hx4.tr f5b
        refine x_if_eq C (tgt := 132) dX10_statement_125 (by decide) (fun c125 => ?_) (fun c125 => ?_)
        · replace c125 := bI_z c125
          refine x_aload_n C 0 dX10_statement_132 rfl rfl ?_
          refine x_ldc2 C (show Cond.constantLong RX10 194 (1718185573) ∈ wsX10_statement by decide +kernel) dX10_statement_133 ?_
          have he5 : Z5 30 31 = nI (tkS (S 58) N e) := by rw [f5c, if_neg (by rw [c125]; decide)]
          have hl5 : (tkS (S 58) N e) ≤ N := Nat.le_trans (tk_le heN).2.1 (tk_le heN).2.2
          refine x_Vi 30 C (k_X10_takes l G nR LL ad hF Z5 (1718185573) N (tkS (S 58) N e) (hx5.r30.trans hN) he5 hN4 hl5) gX10_statement_X10_takes rfl (by decide +kernel) ⟨(Nat.le_of_ble_eq_true rfl), (Nat.le_of_ble_eq_true rfl)⟩ ⟨(Nat.le_of_ble_eq_true rfl), (Nat.le_of_ble_eq_true rfl)⟩ (hF 30 (by decide)) (pf_30 G nR ad _) (T := TX10) (N := 45) rfl (n := 1) rfl (st := [.int (nI q), .ref (ad 66)]) (Nat.le_of_ble_eq_true rfl) rfl dX10_statement_136 (fun _ _ hr9 => ?_)
          obtain ⟨rfl, rfl⟩ := hr9
          obtain ⟨f6a, f6b, f6c⟩ := tk_fact (Z := Z5) (T := (S 58)) (N := N) (p := (tkS (S 58) N e)) (e := e) 4 (c := (1718185573)) (by decide) (by decide +kernel) hx5.r58 (tkS_idem heN)
          rw [f6a]
          obtain ⟨Z6, hZ6⟩ : ∃ Z6, Z6 = tkWd Z5 N (tkS (S 58) N e) (1718185573) := ⟨_, rfl⟩
          rw [← hZ6] at f6b f6c ⊢
          have hx6 := hx5.tr f6b
          refine x_if_eq C (tgt := 146) dX10_statement_139 (by decide) (fun c139 => ?_) (fun c139 => ?_)
          · replace c139 := bI_z c139
            refine x_iconst C dX10_statement_146 (v := -1) (by decide) ?_
            refine y_iast C 66 (hF 66 (by decide)) (fun f => (pf_66 G nR ad f)) (nI_in (N := 176) hq (by omega)) (kk := q) (nI_clamp (by omega)) dX10_statement_147 ?_
            have he6 : Z6 30 31 = nI (tkS (S 58) N e) := by rw [f6c, if_neg (by rw [c139]; decide)]
            have hl6 : (tkS (S 58) N e) ≤ N := Nat.le_trans (tk_le heN).2.1 (tk_le heN).2.2
            obtain ⟨Z7, hZ7⟩ : ∃ Z7, Z7 = (s2 Z6 66 q (-1)) := ⟨_, rfl⟩
            have hx7 := hx6.p66 (v := (-1))
            have he7 : Z7 30 31 = nI (tkS (S 58) N e) := by rw [hZ7, s2_ne (by decide)]; exact he6
            rw [← hZ7] at hx7 ⊢
            refine x_aload_n C 0 dX10_statement_148 rfl rfl ?_
            refine x_get C (T := TX10) (N := 45) (v := .ref (ad 66)) 30 36 hin10 (hF 30 (by decide)) (pf_30 G nR ad _) rfl (by decide) lk91 rfl rfl dX10_statement_149 ?_
            refine x_iload_n C 1 dX10_statement_152 rfl rfl ?_
            refine x_iald C 66 (hF 66 (by decide)) (pf_66 G nR ad _) (nI_in (N := 176) hq (by omega)) (kk := q) (nI_clamp (by omega)) dX10_statement_153 ?_
            refine x_top C (v2 := (-1)) hx7.r66 ?_
            refine x_iconst C dX10_statement_154 (v := -1) (by decide) ?_
            refine x_icmp_eq C (tgt := 165) dX10_statement_155 (by decide) (fun c155 => ?_) (fun c155 => ?_)
            rotate_left
            · exact absurd (by decide) c155
            refine x_iconst C dX10_statement_165 (v := 0) (by decide) ?_
            refine x_zret C hrt9 (Or.inl rfl) Z7 ?_ rfl dX10_statement_166
            have hs : (stm nR o w (S 58) N e).1 = false ∧ (stm nR o w (S 58) N e).2.1 = e := by simp [stm, ordR, ordC, dayR, dysR, nmbR, c14, c97, c111, c125, c139]
            exact ⟨by rw [hs.1]; rfl, by rw [hs.1, hs.2, if_neg (by decide)]; exact he7, _, _, _, hx7, fun h => by rw [hs.1] at h; cases h⟩
          · replace c139 := bI_nz c139
            refine x_iconst C dX10_statement_142 (v := 4) (by decide) ?_
            refine x_goto C (tgt := 147) dX10_statement_143 (by decide) ?_
            refine y_iast C 66 (hF 66 (by decide)) (fun f => (pf_66 G nR ad f)) (nI_in (N := 176) hq (by omega)) (kk := q) (nI_clamp (by omega)) dX10_statement_147 ?_
            have he6 : Z6 30 31 = nI (tkE (S 58) N e) := by rw [f6c, if_pos c139]
            have hl6 : (tkE (S 58) N e) ≤ N := (tk_le heN).2.2
            obtain ⟨Z8, hZ8⟩ : ∃ Z8, Z8 = (s2 Z6 66 q 4) := ⟨_, rfl⟩
            have hx8 := hx6.p66 (v := 4)
            have he8 : Z8 30 31 = nI (tkE (S 58) N e) := by rw [hZ8, s2_ne (by decide)]; exact he6
            rw [← hZ8] at hx8 ⊢
            refine x_aload_n C 0 dX10_statement_148 rfl rfl ?_
            refine x_get C (T := TX10) (N := 45) (v := .ref (ad 66)) 30 36 hin10 (hF 30 (by decide)) (pf_30 G nR ad _) rfl (by decide) lk91 rfl rfl dX10_statement_149 ?_
            refine x_iload_n C 1 dX10_statement_152 rfl rfl ?_
            refine x_iald C 66 (hF 66 (by decide)) (pf_66 G nR ad _) (nI_in (N := 176) hq (by omega)) (kk := q) (nI_clamp (by omega)) dX10_statement_153 ?_
            refine x_top C (v2 := 4) hx8.r66 ?_
            refine x_iconst C dX10_statement_154 (v := -1) (by decide) ?_
            refine x_icmp_eq C (tgt := 165) dX10_statement_155 (by decide) (fun c155 => ?_) (fun c155 => ?_)
            · exact absurd c155 (by decide)
            refine x_aload_n C 0 dX10_statement_158 rfl rfl ?_
            refine x_Vi 30 C (k_X10_takesNumber l G nR LL ad hF Z8 N (tkE (S 58) N e) (hx8.r30.trans hN) he8 hN4 hl6) gX10_statement_X10_takesNumber rfl (by decide +kernel) ⟨(Nat.le_of_ble_eq_true rfl), (Nat.le_of_ble_eq_true rfl)⟩ ⟨(Nat.le_of_ble_eq_true rfl), (Nat.le_of_ble_eq_true rfl)⟩ (hF 30 (by decide)) (pf_30 G nR ad _) (T := TX10) (N := 45) rfl (n := 0) rfl (st := []) (Nat.le_of_ble_eq_true rfl) rfl dX10_statement_159 (fun _ _ hr9 => ?_)
            obtain ⟨rfl, rfl⟩ := hr9
            obtain ⟨f9a, f9b, f9c, f9d⟩ := nm_fact (Z := Z8) (T := (S 58)) (N := N) (p := (tkE (S 58) N e)) (e := (tkE (S 58) N e)) hx8.r58 rfl
            rw [f9a]
            obtain ⟨Z9, hZ9⟩ : ∃ Z9, Z9 = nmU Z8 N (tkE (S 58) N e) := ⟨_, rfl⟩
            rw [← hZ9] at f9b f9c f9d ⊢
            have hx9 := hx8.tr f9b
            refine x_if_ne C (tgt := 167) dX10_statement_162 (by decide) (fun c162 => ?_) (fun c162 => ?_)
            · replace c162 := bI_nz c162
              refine x_aload_n C 0 dX10_statement_167 rfl rfl ?_
              refine x_get C (T := TX10) (N := 45) (v := .ref (ad 67)) 30 37 hin10 (hF 30 (by decide)) (pf_30 G nR ad _) rfl (by decide) lk94 rfl rfl dX10_statement_168 ?_
              refine x_iload_n C 1 dX10_statement_171 rfl rfl ?_
              refine x_aload_n C 0 dX10_statement_172 rfl rfl ?_
              refine x_get C (T := TX10) (N := 45) (v := .ref (ad 66)) 30 36 hin10 (hF 30 (by decide)) (pf_30 G nR ad _) rfl (by decide) lk91 rfl rfl dX10_statement_173 ?_
              refine x_iload_n C 1 dX10_statement_176 rfl rfl ?_
              refine x_iald C 66 (hF 66 (by decide)) (pf_66 G nR ad _) (nI_in (N := 176) hq (by omega)) (kk := q) (nI_clamp (by omega)) dX10_statement_177 ?_
              refine x_top C (v2 := 4) hx9.r66 ?_
              refine x_iconst C dX10_statement_178 (v := 1) (by decide) ?_
              refine x_icmp_ne C (tgt := 189) dX10_statement_179 (by decide) (fun c179 => ?_) (fun c179 => ?_)
              rotate_left
              · exact absurd c179 (by decide)
              refine x_iconst C dX10_statement_189 (v := 0) (by decide) ?_
              refine y_iast C 67 (hF 67 (by decide)) (fun f => (pf_67 G nR ad f)) (nI_in (N := 176) hq (by omega)) (kk := q) (nI_clamp (by omega)) dX10_statement_190 ?_
              have n162 : ¬ numR (S 58) N (tkE (S 58) N e) = -1 := by simpa using c162
              have he9 : Z9 30 31 = nI (tkE (S 58) N (tkE (S 58) N e)) := by rw [f9c, if_neg n162]
              have hl9 : (tkE (S 58) N (tkE (S 58) N e)) ≤ N := (tk_le hl6).2.2
              have hn9 : Z9 30 40 = numR (S 58) N (tkE (S 58) N e) := f9d n162
              obtain ⟨Z10, hZ10⟩ : ∃ Z10, Z10 = (s2 Z9 67 q 0) := ⟨_, rfl⟩
              have hx10 := hx9.p67 (v := 0)
              have he10 : Z10 30 31 = nI (tkE (S 58) N (tkE (S 58) N e)) := by rw [hZ10, s2_ne (by decide)]; exact he9
              have hn10 : Z10 30 40 = numR (S 58) N (tkE (S 58) N e) := by rw [hZ10, s2_ne (by decide)]; exact hn9
              rw [← hZ10] at hx10 ⊢
              refine x_aload_n C 0 dX10_statement_191 rfl rfl ?_
              refine x_get C (T := TX10) (N := 45) (v := .ref (ad 66)) 30 36 hin10 (hF 30 (by decide)) (pf_30 G nR ad _) rfl (by decide) lk91 rfl rfl dX10_statement_192 ?_
              refine x_iload_n C 1 dX10_statement_195 rfl rfl ?_
              refine x_iald C 66 (hF 66 (by decide)) (pf_66 G nR ad _) (nI_in (N := 176) hq (by omega)) (kk := q) (nI_clamp (by omega)) dX10_statement_196 ?_
              refine x_top C (v2 := 4) hx10.r66 ?_
              refine x_iconst C dX10_statement_197 (v := 1) (by decide) ?_
              refine x_icmp_ne C (tgt := 220) dX10_statement_198 (by decide) (fun c198 => ?_) (fun c198 => ?_)
              rotate_left
              · exact absurd c198 (by decide)
              refine x_aload_n C 0 dX10_statement_220 rfl rfl ?_
              refine x_get C (T := TX10) (N := 45) (v := .ref (ad 68)) 30 38 hin10 (hF 30 (by decide)) (pf_30 G nR ad _) rfl (by decide) lk97 rfl rfl dX10_statement_221 ?_
              refine x_iload_n C 1 dX10_statement_224 rfl rfl ?_
              refine x_aload_n C 0 dX10_statement_225 rfl rfl ?_
              refine x_get C (T := TX10) (N := 45) (v := .int (Z10 30 40)) 30 40 hin10 (hF 30 (by decide)) (pf_30 G nR ad _) rfl (by decide) lk173 rfl rfl dX10_statement_226 ?_
              refine x_top C (v2 := numR (S 58) N (tkE (S 58) N e)) hn10 ?_
              refine y_iast C 68 (hF 68 (by decide)) (fun f => (pf_68 G nR ad f)) (nI_in (N := 176) hq (by omega)) (kk := q) (nI_clamp (by omega)) dX10_statement_229 ?_
              obtain ⟨Z11, hZ11⟩ : ∃ Z11, Z11 = (s2 Z10 68 q (numR (S 58) N (tkE (S 58) N e))) := ⟨_, rfl⟩
              have hx11 := hx10.p68 (v := (numR (S 58) N (tkE (S 58) N e)))
              have he11 : Z11 30 31 = nI (tkE (S 58) N (tkE (S 58) N e)) := by rw [hZ11, s2_ne (by decide)]; exact he10
              have hn11 : Z11 30 40 = numR (S 58) N (tkE (S 58) N e) := by rw [hZ11, s2_ne (by decide)]; exact hn10
              rw [← hZ11] at hx11 ⊢
              have hs : (stm nR o w (S 58) N e).1 = decide (tkK (S 58) N (tkE (S 58) N (tkE (S 58) N e)) = 3) ∧ (stm nR o w (S 58) N e).2.1 = (tkE (S 58) N (tkE (S 58) N e)) := by simp [stm, ordR, ordC, dayR, dysR, nmbR, c14, c97, c111, c125, c139, n162]
              exact j230 Z11 (tkE (S 58) N (tkE (S 58) N e)) _ _ _ hs.1 hs.2 (by simp [mVal, ordC, c14, c97, c111, c125, c139, n162]) hl9 he11 hx11
            · replace c162 := bI_z c162
              refine x_iconst C dX10_statement_165 (v := 0) (by decide) ?_
              refine x_zret C hrt9 (Or.inl rfl) Z9 ?_ rfl dX10_statement_166
              have n162 : numR (S 58) N (tkE (S 58) N e) = -1 := by simpa using c162
              have he9 : Z9 30 31 = nI (tkS (S 58) N (tkE (S 58) N e)) := by rw [f9c, if_pos n162]
              have hl9 : (tkS (S 58) N (tkE (S 58) N e)) ≤ N := Nat.le_trans (tk_le hl6).2.1 (tk_le hl6).2.2
              have hs : (stm nR o w (S 58) N e).1 = false ∧ (stm nR o w (S 58) N e).2.1 = (tkE (S 58) N e) := by simp [stm, ordR, ordC, dayR, dysR, nmbR, c14, c97, c111, c125, c139, n162]
              exact ⟨by rw [hs.1]; rfl, by rw [hs.1, hs.2, if_neg (by decide)]; exact he9, _, _, _, hx9, fun h => by rw [hs.1] at h; cases h⟩
        · replace c125 := bI_nz c125
          refine x_iconst C dX10_statement_128 (v := 3) (by decide) ?_
          refine x_goto C (tgt := 147) dX10_statement_129 (by decide) ?_
          refine y_iast C 66 (hF 66 (by decide)) (fun f => (pf_66 G nR ad f)) (nI_in (N := 176) hq (by omega)) (kk := q) (nI_clamp (by omega)) dX10_statement_147 ?_
          have he5 : Z5 30 31 = nI (tkE (S 58) N e) := by rw [f5c, if_pos c125]
          have hl5 : (tkE (S 58) N e) ≤ N := (tk_le heN).2.2
          obtain ⟨Z12, hZ12⟩ : ∃ Z12, Z12 = (s2 Z5 66 q 3) := ⟨_, rfl⟩
          have hx12 := hx5.p66 (v := 3)
          have he12 : Z12 30 31 = nI (tkE (S 58) N e) := by rw [hZ12, s2_ne (by decide)]; exact he5
          rw [← hZ12] at hx12 ⊢
          refine x_aload_n C 0 dX10_statement_148 rfl rfl ?_
          refine x_get C (T := TX10) (N := 45) (v := .ref (ad 66)) 30 36 hin10 (hF 30 (by decide)) (pf_30 G nR ad _) rfl (by decide) lk91 rfl rfl dX10_statement_149 ?_
          refine x_iload_n C 1 dX10_statement_152 rfl rfl ?_
          refine x_iald C 66 (hF 66 (by decide)) (pf_66 G nR ad _) (nI_in (N := 176) hq (by omega)) (kk := q) (nI_clamp (by omega)) dX10_statement_153 ?_
          refine x_top C (v2 := 3) hx12.r66 ?_
          refine x_iconst C dX10_statement_154 (v := -1) (by decide) ?_
          refine x_icmp_eq C (tgt := 165) dX10_statement_155 (by decide) (fun c155 => ?_) (fun c155 => ?_)
          · exact absurd c155 (by decide)
          refine x_aload_n C 0 dX10_statement_158 rfl rfl ?_
          refine x_Vi 30 C (k_X10_takesNumber l G nR LL ad hF Z12 N (tkE (S 58) N e) (hx12.r30.trans hN) he12 hN4 hl5) gX10_statement_X10_takesNumber rfl (by decide +kernel) ⟨(Nat.le_of_ble_eq_true rfl), (Nat.le_of_ble_eq_true rfl)⟩ ⟨(Nat.le_of_ble_eq_true rfl), (Nat.le_of_ble_eq_true rfl)⟩ (hF 30 (by decide)) (pf_30 G nR ad _) (T := TX10) (N := 45) rfl (n := 0) rfl (st := []) (Nat.le_of_ble_eq_true rfl) rfl dX10_statement_159 (fun _ _ hr9 => ?_)
          obtain ⟨rfl, rfl⟩ := hr9
          obtain ⟨f13a, f13b, f13c, f13d⟩ := nm_fact (Z := Z12) (T := (S 58)) (N := N) (p := (tkE (S 58) N e)) (e := (tkE (S 58) N e)) hx12.r58 rfl
          rw [f13a]
          obtain ⟨Z13, hZ13⟩ : ∃ Z13, Z13 = nmU Z12 N (tkE (S 58) N e) := ⟨_, rfl⟩
          rw [← hZ13] at f13b f13c f13d ⊢
          have hx13 := hx12.tr f13b
          refine x_if_ne C (tgt := 167) dX10_statement_162 (by decide) (fun c162 => ?_) (fun c162 => ?_)
          · replace c162 := bI_nz c162
            refine x_aload_n C 0 dX10_statement_167 rfl rfl ?_
            refine x_get C (T := TX10) (N := 45) (v := .ref (ad 67)) 30 37 hin10 (hF 30 (by decide)) (pf_30 G nR ad _) rfl (by decide) lk94 rfl rfl dX10_statement_168 ?_
            refine x_iload_n C 1 dX10_statement_171 rfl rfl ?_
            refine x_aload_n C 0 dX10_statement_172 rfl rfl ?_
            refine x_get C (T := TX10) (N := 45) (v := .ref (ad 66)) 30 36 hin10 (hF 30 (by decide)) (pf_30 G nR ad _) rfl (by decide) lk91 rfl rfl dX10_statement_173 ?_
            refine x_iload_n C 1 dX10_statement_176 rfl rfl ?_
            refine x_iald C 66 (hF 66 (by decide)) (pf_66 G nR ad _) (nI_in (N := 176) hq (by omega)) (kk := q) (nI_clamp (by omega)) dX10_statement_177 ?_
            refine x_top C (v2 := 3) hx13.r66 ?_
            refine x_iconst C dX10_statement_178 (v := 1) (by decide) ?_
            refine x_icmp_ne C (tgt := 189) dX10_statement_179 (by decide) (fun c179 => ?_) (fun c179 => ?_)
            rotate_left
            · exact absurd c179 (by decide)
            refine x_iconst C dX10_statement_189 (v := 0) (by decide) ?_
            refine y_iast C 67 (hF 67 (by decide)) (fun f => (pf_67 G nR ad f)) (nI_in (N := 176) hq (by omega)) (kk := q) (nI_clamp (by omega)) dX10_statement_190 ?_
            have n162 : ¬ numR (S 58) N (tkE (S 58) N e) = -1 := by simpa using c162
            have he13 : Z13 30 31 = nI (tkE (S 58) N (tkE (S 58) N e)) := by rw [f13c, if_neg n162]
            have hl13 : (tkE (S 58) N (tkE (S 58) N e)) ≤ N := (tk_le hl5).2.2
            have hn13 : Z13 30 40 = numR (S 58) N (tkE (S 58) N e) := f13d n162
            obtain ⟨Z14, hZ14⟩ : ∃ Z14, Z14 = (s2 Z13 67 q 0) := ⟨_, rfl⟩
            have hx14 := hx13.p67 (v := 0)
            have he14 : Z14 30 31 = nI (tkE (S 58) N (tkE (S 58) N e)) := by rw [hZ14, s2_ne (by decide)]; exact he13
            have hn14 : Z14 30 40 = numR (S 58) N (tkE (S 58) N e) := by rw [hZ14, s2_ne (by decide)]; exact hn13
            rw [← hZ14] at hx14 ⊢
            refine x_aload_n C 0 dX10_statement_191 rfl rfl ?_
            refine x_get C (T := TX10) (N := 45) (v := .ref (ad 66)) 30 36 hin10 (hF 30 (by decide)) (pf_30 G nR ad _) rfl (by decide) lk91 rfl rfl dX10_statement_192 ?_
            refine x_iload_n C 1 dX10_statement_195 rfl rfl ?_
            refine x_iald C 66 (hF 66 (by decide)) (pf_66 G nR ad _) (nI_in (N := 176) hq (by omega)) (kk := q) (nI_clamp (by omega)) dX10_statement_196 ?_
            refine x_top C (v2 := 3) hx14.r66 ?_
            refine x_iconst C dX10_statement_197 (v := 1) (by decide) ?_
            refine x_icmp_ne C (tgt := 220) dX10_statement_198 (by decide) (fun c198 => ?_) (fun c198 => ?_)
            rotate_left
            · exact absurd c198 (by decide)
            refine x_aload_n C 0 dX10_statement_220 rfl rfl ?_
            refine x_get C (T := TX10) (N := 45) (v := .ref (ad 68)) 30 38 hin10 (hF 30 (by decide)) (pf_30 G nR ad _) rfl (by decide) lk97 rfl rfl dX10_statement_221 ?_
            refine x_iload_n C 1 dX10_statement_224 rfl rfl ?_
            refine x_aload_n C 0 dX10_statement_225 rfl rfl ?_
            refine x_get C (T := TX10) (N := 45) (v := .int (Z14 30 40)) 30 40 hin10 (hF 30 (by decide)) (pf_30 G nR ad _) rfl (by decide) lk173 rfl rfl dX10_statement_226 ?_
            refine x_top C (v2 := numR (S 58) N (tkE (S 58) N e)) hn14 ?_
            refine y_iast C 68 (hF 68 (by decide)) (fun f => (pf_68 G nR ad f)) (nI_in (N := 176) hq (by omega)) (kk := q) (nI_clamp (by omega)) dX10_statement_229 ?_
            obtain ⟨Z15, hZ15⟩ : ∃ Z15, Z15 = (s2 Z14 68 q (numR (S 58) N (tkE (S 58) N e))) := ⟨_, rfl⟩
            have hx15 := hx14.p68 (v := (numR (S 58) N (tkE (S 58) N e)))
            have he15 : Z15 30 31 = nI (tkE (S 58) N (tkE (S 58) N e)) := by rw [hZ15, s2_ne (by decide)]; exact he14
            have hn15 : Z15 30 40 = numR (S 58) N (tkE (S 58) N e) := by rw [hZ15, s2_ne (by decide)]; exact hn14
            rw [← hZ15] at hx15 ⊢
            have hs : (stm nR o w (S 58) N e).1 = decide (tkK (S 58) N (tkE (S 58) N (tkE (S 58) N e)) = 3) ∧ (stm nR o w (S 58) N e).2.1 = (tkE (S 58) N (tkE (S 58) N e)) := by simp [stm, ordR, ordC, dayR, dysR, nmbR, c14, c97, c111, c125, n162]
            exact j230 Z15 (tkE (S 58) N (tkE (S 58) N e)) _ _ _ hs.1 hs.2 (by simp [mVal, ordC, c14, c97, c111, c125, n162]) hl13 he15 hx15
          · replace c162 := bI_z c162
            refine x_iconst C dX10_statement_165 (v := 0) (by decide) ?_
            refine x_zret C hrt9 (Or.inl rfl) Z13 ?_ rfl dX10_statement_166
            have n162 : numR (S 58) N (tkE (S 58) N e) = -1 := by simpa using c162
            have he13 : Z13 30 31 = nI (tkS (S 58) N (tkE (S 58) N e)) := by rw [f13c, if_pos n162]
            have hl13 : (tkS (S 58) N (tkE (S 58) N e)) ≤ N := Nat.le_trans (tk_le hl5).2.1 (tk_le hl5).2.2
            have hs : (stm nR o w (S 58) N e).1 = false ∧ (stm nR o w (S 58) N e).2.1 = (tkE (S 58) N e) := by simp [stm, ordR, ordC, dayR, dysR, nmbR, c14, c97, c111, c125, n162]
            exact ⟨by rw [hs.1]; rfl, by rw [hs.1, hs.2, if_neg (by decide)]; exact he13, _, _, _, hx13, fun h => by rw [hs.1] at h; cases h⟩
      · replace c111 := bI_nz c111
        refine x_iconst C dX10_statement_114 (v := 2) (by decide) ?_
        refine x_goto C (tgt := 147) dX10_statement_115 (by decide) ?_
        refine y_iast C 66 (hF 66 (by decide)) (fun f => (pf_66 G nR ad f)) (nI_in (N := 176) hq (by omega)) (kk := q) (nI_clamp (by omega)) dX10_statement_147 ?_
        have he4 : Z4 30 31 = nI (tkE (S 58) N e) := by rw [f4c, if_pos c111]
        have hl4 : (tkE (S 58) N e) ≤ N := (tk_le heN).2.2
        obtain ⟨Z16, hZ16⟩ : ∃ Z16, Z16 = (s2 Z4 66 q 2) := ⟨_, rfl⟩
        have hx16 := hx4.p66 (v := 2)
        have he16 : Z16 30 31 = nI (tkE (S 58) N e) := by rw [hZ16, s2_ne (by decide)]; exact he4
        rw [← hZ16] at hx16 ⊢
        refine x_aload_n C 0 dX10_statement_148 rfl rfl ?_
        refine x_get C (T := TX10) (N := 45) (v := .ref (ad 66)) 30 36 hin10 (hF 30 (by decide)) (pf_30 G nR ad _) rfl (by decide) lk91 rfl rfl dX10_statement_149 ?_
        refine x_iload_n C 1 dX10_statement_152 rfl rfl ?_
        refine x_iald C 66 (hF 66 (by decide)) (pf_66 G nR ad _) (nI_in (N := 176) hq (by omega)) (kk := q) (nI_clamp (by omega)) dX10_statement_153 ?_
        refine x_top C (v2 := 2) hx16.r66 ?_
        refine x_iconst C dX10_statement_154 (v := -1) (by decide) ?_
        refine x_icmp_eq C (tgt := 165) dX10_statement_155 (by decide) (fun c155 => ?_) (fun c155 => ?_)
        · exact absurd c155 (by decide)
        refine x_aload_n C 0 dX10_statement_158 rfl rfl ?_
        refine x_Vi 30 C (k_X10_takesNumber l G nR LL ad hF Z16 N (tkE (S 58) N e) (hx16.r30.trans hN) he16 hN4 hl4) gX10_statement_X10_takesNumber rfl (by decide +kernel) ⟨(Nat.le_of_ble_eq_true rfl), (Nat.le_of_ble_eq_true rfl)⟩ ⟨(Nat.le_of_ble_eq_true rfl), (Nat.le_of_ble_eq_true rfl)⟩ (hF 30 (by decide)) (pf_30 G nR ad _) (T := TX10) (N := 45) rfl (n := 0) rfl (st := []) (Nat.le_of_ble_eq_true rfl) rfl dX10_statement_159 (fun _ _ hr9 => ?_)
        obtain ⟨rfl, rfl⟩ := hr9
        obtain ⟨f17a, f17b, f17c, f17d⟩ := nm_fact (Z := Z16) (T := (S 58)) (N := N) (p := (tkE (S 58) N e)) (e := (tkE (S 58) N e)) hx16.r58 rfl
        rw [f17a]
        obtain ⟨Z17, hZ17⟩ : ∃ Z17, Z17 = nmU Z16 N (tkE (S 58) N e) := ⟨_, rfl⟩
        rw [← hZ17] at f17b f17c f17d ⊢
        have hx17 := hx16.tr f17b
        refine x_if_ne C (tgt := 167) dX10_statement_162 (by decide) (fun c162 => ?_) (fun c162 => ?_)
        · replace c162 := bI_nz c162
          refine x_aload_n C 0 dX10_statement_167 rfl rfl ?_
          refine x_get C (T := TX10) (N := 45) (v := .ref (ad 67)) 30 37 hin10 (hF 30 (by decide)) (pf_30 G nR ad _) rfl (by decide) lk94 rfl rfl dX10_statement_168 ?_
          refine x_iload_n C 1 dX10_statement_171 rfl rfl ?_
          refine x_aload_n C 0 dX10_statement_172 rfl rfl ?_
          refine x_get C (T := TX10) (N := 45) (v := .ref (ad 66)) 30 36 hin10 (hF 30 (by decide)) (pf_30 G nR ad _) rfl (by decide) lk91 rfl rfl dX10_statement_173 ?_
          refine x_iload_n C 1 dX10_statement_176 rfl rfl ?_
          refine x_iald C 66 (hF 66 (by decide)) (pf_66 G nR ad _) (nI_in (N := 176) hq (by omega)) (kk := q) (nI_clamp (by omega)) dX10_statement_177 ?_
          refine x_top C (v2 := 2) hx17.r66 ?_
          refine x_iconst C dX10_statement_178 (v := 1) (by decide) ?_
          refine x_icmp_ne C (tgt := 189) dX10_statement_179 (by decide) (fun c179 => ?_) (fun c179 => ?_)
          rotate_left
          · exact absurd c179 (by decide)
          refine x_iconst C dX10_statement_189 (v := 0) (by decide) ?_
          refine y_iast C 67 (hF 67 (by decide)) (fun f => (pf_67 G nR ad f)) (nI_in (N := 176) hq (by omega)) (kk := q) (nI_clamp (by omega)) dX10_statement_190 ?_
          have n162 : ¬ numR (S 58) N (tkE (S 58) N e) = -1 := by simpa using c162
          have he17 : Z17 30 31 = nI (tkE (S 58) N (tkE (S 58) N e)) := by rw [f17c, if_neg n162]
          have hl17 : (tkE (S 58) N (tkE (S 58) N e)) ≤ N := (tk_le hl4).2.2
          have hn17 : Z17 30 40 = numR (S 58) N (tkE (S 58) N e) := f17d n162
          obtain ⟨Z18, hZ18⟩ : ∃ Z18, Z18 = (s2 Z17 67 q 0) := ⟨_, rfl⟩
          have hx18 := hx17.p67 (v := 0)
          have he18 : Z18 30 31 = nI (tkE (S 58) N (tkE (S 58) N e)) := by rw [hZ18, s2_ne (by decide)]; exact he17
          have hn18 : Z18 30 40 = numR (S 58) N (tkE (S 58) N e) := by rw [hZ18, s2_ne (by decide)]; exact hn17
          rw [← hZ18] at hx18 ⊢
          refine x_aload_n C 0 dX10_statement_191 rfl rfl ?_
          refine x_get C (T := TX10) (N := 45) (v := .ref (ad 66)) 30 36 hin10 (hF 30 (by decide)) (pf_30 G nR ad _) rfl (by decide) lk91 rfl rfl dX10_statement_192 ?_
          refine x_iload_n C 1 dX10_statement_195 rfl rfl ?_
          refine x_iald C 66 (hF 66 (by decide)) (pf_66 G nR ad _) (nI_in (N := 176) hq (by omega)) (kk := q) (nI_clamp (by omega)) dX10_statement_196 ?_
          refine x_top C (v2 := 2) hx18.r66 ?_
          refine x_iconst C dX10_statement_197 (v := 1) (by decide) ?_
          refine x_icmp_ne C (tgt := 220) dX10_statement_198 (by decide) (fun c198 => ?_) (fun c198 => ?_)
          rotate_left
          · exact absurd c198 (by decide)
          refine x_aload_n C 0 dX10_statement_220 rfl rfl ?_
          refine x_get C (T := TX10) (N := 45) (v := .ref (ad 68)) 30 38 hin10 (hF 30 (by decide)) (pf_30 G nR ad _) rfl (by decide) lk97 rfl rfl dX10_statement_221 ?_
          refine x_iload_n C 1 dX10_statement_224 rfl rfl ?_
          refine x_aload_n C 0 dX10_statement_225 rfl rfl ?_
          refine x_get C (T := TX10) (N := 45) (v := .int (Z18 30 40)) 30 40 hin10 (hF 30 (by decide)) (pf_30 G nR ad _) rfl (by decide) lk173 rfl rfl dX10_statement_226 ?_
          refine x_top C (v2 := numR (S 58) N (tkE (S 58) N e)) hn18 ?_
          refine y_iast C 68 (hF 68 (by decide)) (fun f => (pf_68 G nR ad f)) (nI_in (N := 176) hq (by omega)) (kk := q) (nI_clamp (by omega)) dX10_statement_229 ?_
          obtain ⟨Z19, hZ19⟩ : ∃ Z19, Z19 = (s2 Z18 68 q (numR (S 58) N (tkE (S 58) N e))) := ⟨_, rfl⟩
          have hx19 := hx18.p68 (v := (numR (S 58) N (tkE (S 58) N e)))
          have he19 : Z19 30 31 = nI (tkE (S 58) N (tkE (S 58) N e)) := by rw [hZ19, s2_ne (by decide)]; exact he18
          have hn19 : Z19 30 40 = numR (S 58) N (tkE (S 58) N e) := by rw [hZ19, s2_ne (by decide)]; exact hn18
          rw [← hZ19] at hx19 ⊢
          have hs : (stm nR o w (S 58) N e).1 = decide (tkK (S 58) N (tkE (S 58) N (tkE (S 58) N e)) = 3) ∧ (stm nR o w (S 58) N e).2.1 = (tkE (S 58) N (tkE (S 58) N e)) := by simp [stm, ordR, ordC, dayR, dysR, nmbR, c14, c97, c111, n162]
          exact j230 Z19 (tkE (S 58) N (tkE (S 58) N e)) _ _ _ hs.1 hs.2 (by simp [mVal, ordC, c14, c97, c111, n162]) hl17 he19 hx19
        · replace c162 := bI_z c162
          refine x_iconst C dX10_statement_165 (v := 0) (by decide) ?_
          refine x_zret C hrt9 (Or.inl rfl) Z17 ?_ rfl dX10_statement_166
          have n162 : numR (S 58) N (tkE (S 58) N e) = -1 := by simpa using c162
          have he17 : Z17 30 31 = nI (tkS (S 58) N (tkE (S 58) N e)) := by rw [f17c, if_pos n162]
          have hl17 : (tkS (S 58) N (tkE (S 58) N e)) ≤ N := Nat.le_trans (tk_le hl4).2.1 (tk_le hl4).2.2
          have hs : (stm nR o w (S 58) N e).1 = false ∧ (stm nR o w (S 58) N e).2.1 = (tkE (S 58) N e) := by simp [stm, ordR, ordC, dayR, dysR, nmbR, c14, c97, c111, n162]
          exact ⟨by rw [hs.1]; rfl, by rw [hs.1, hs.2, if_neg (by decide)]; exact he17, _, _, _, hx17, fun h => by rw [hs.1] at h; cases h⟩
    · replace c97 := bI_nz c97
      refine x_iconst C dX10_statement_100 (v := 1) (by decide) ?_
      refine x_goto C (tgt := 147) dX10_statement_101 (by decide) ?_
      refine y_iast C 66 (hF 66 (by decide)) (fun f => (pf_66 G nR ad f)) (nI_in (N := 176) hq (by omega)) (kk := q) (nI_clamp (by omega)) dX10_statement_147 ?_
      have he3 : Z3 30 31 = nI (tkE (S 58) N e) := by rw [f3c, if_pos c97]
      have hl3 : (tkE (S 58) N e) ≤ N := (tk_le heN).2.2
      obtain ⟨Z20, hZ20⟩ : ∃ Z20, Z20 = (s2 Z3 66 q 1) := ⟨_, rfl⟩
      have hx20 := hx3.p66 (v := 1)
      have he20 : Z20 30 31 = nI (tkE (S 58) N e) := by rw [hZ20, s2_ne (by decide)]; exact he3
      rw [← hZ20] at hx20 ⊢
      refine x_aload_n C 0 dX10_statement_148 rfl rfl ?_
      refine x_get C (T := TX10) (N := 45) (v := .ref (ad 66)) 30 36 hin10 (hF 30 (by decide)) (pf_30 G nR ad _) rfl (by decide) lk91 rfl rfl dX10_statement_149 ?_
      refine x_iload_n C 1 dX10_statement_152 rfl rfl ?_
      refine x_iald C 66 (hF 66 (by decide)) (pf_66 G nR ad _) (nI_in (N := 176) hq (by omega)) (kk := q) (nI_clamp (by omega)) dX10_statement_153 ?_
      refine x_top C (v2 := 1) hx20.r66 ?_
      refine x_iconst C dX10_statement_154 (v := -1) (by decide) ?_
      refine x_icmp_eq C (tgt := 165) dX10_statement_155 (by decide) (fun c155 => ?_) (fun c155 => ?_)
      · exact absurd c155 (by decide)
      refine x_aload_n C 0 dX10_statement_158 rfl rfl ?_
      refine x_Vi 30 C (k_X10_takesNumber l G nR LL ad hF Z20 N (tkE (S 58) N e) (hx20.r30.trans hN) he20 hN4 hl3) gX10_statement_X10_takesNumber rfl (by decide +kernel) ⟨(Nat.le_of_ble_eq_true rfl), (Nat.le_of_ble_eq_true rfl)⟩ ⟨(Nat.le_of_ble_eq_true rfl), (Nat.le_of_ble_eq_true rfl)⟩ (hF 30 (by decide)) (pf_30 G nR ad _) (T := TX10) (N := 45) rfl (n := 0) rfl (st := []) (Nat.le_of_ble_eq_true rfl) rfl dX10_statement_159 (fun _ _ hr9 => ?_)
      obtain ⟨rfl, rfl⟩ := hr9
      obtain ⟨f21a, f21b, f21c, f21d⟩ := nm_fact (Z := Z20) (T := (S 58)) (N := N) (p := (tkE (S 58) N e)) (e := (tkE (S 58) N e)) hx20.r58 rfl
      rw [f21a]
      obtain ⟨Z21, hZ21⟩ : ∃ Z21, Z21 = nmU Z20 N (tkE (S 58) N e) := ⟨_, rfl⟩
      rw [← hZ21] at f21b f21c f21d ⊢
      have hx21 := hx20.tr f21b
      refine x_if_ne C (tgt := 167) dX10_statement_162 (by decide) (fun c162 => ?_) (fun c162 => ?_)
      · replace c162 := bI_nz c162
        refine x_aload_n C 0 dX10_statement_167 rfl rfl ?_
        refine x_get C (T := TX10) (N := 45) (v := .ref (ad 67)) 30 37 hin10 (hF 30 (by decide)) (pf_30 G nR ad _) rfl (by decide) lk94 rfl rfl dX10_statement_168 ?_
        refine x_iload_n C 1 dX10_statement_171 rfl rfl ?_
        refine x_aload_n C 0 dX10_statement_172 rfl rfl ?_
        refine x_get C (T := TX10) (N := 45) (v := .ref (ad 66)) 30 36 hin10 (hF 30 (by decide)) (pf_30 G nR ad _) rfl (by decide) lk91 rfl rfl dX10_statement_173 ?_
        refine x_iload_n C 1 dX10_statement_176 rfl rfl ?_
        refine x_iald C 66 (hF 66 (by decide)) (pf_66 G nR ad _) (nI_in (N := 176) hq (by omega)) (kk := q) (nI_clamp (by omega)) dX10_statement_177 ?_
        refine x_top C (v2 := 1) hx21.r66 ?_
        refine x_iconst C dX10_statement_178 (v := 1) (by decide) ?_
        refine x_icmp_ne C (tgt := 189) dX10_statement_179 (by decide) (fun c179 => ?_) (fun c179 => ?_)
        · exact absurd c179 (by decide)
        refine x_aload_n C 0 dX10_statement_182 rfl rfl ?_
        refine x_get C (T := TX10) (N := 45) (v := .int (Z21 30 40)) 30 40 hin10 (hF 30 (by decide)) (pf_30 G nR ad _) rfl (by decide) lk173 rfl rfl dX10_statement_183 ?_
        have n162 : ¬ numR (S 58) N (tkE (S 58) N e) = -1 := by simpa using c162
        have he21 : Z21 30 31 = nI (tkE (S 58) N (tkE (S 58) N e)) := by rw [f21c, if_neg n162]
        have hl21 : (tkE (S 58) N (tkE (S 58) N e)) ≤ N := (tk_le hl3).2.2
        have hn21 : Z21 30 40 = numR (S 58) N (tkE (S 58) N e) := f21d n162
        refine x_top C (v2 := numR (S 58) N (tkE (S 58) N e)) hn21 ?_
        refine x_goto C (tgt := 190) dX10_statement_186 (by decide) ?_
        refine y_iast C 67 (hF 67 (by decide)) (fun f => (pf_67 G nR ad f)) (nI_in (N := 176) hq (by omega)) (kk := q) (nI_clamp (by omega)) dX10_statement_190 ?_
        obtain ⟨Z22, hZ22⟩ : ∃ Z22, Z22 = (s2 Z21 67 q (numR (S 58) N (tkE (S 58) N e))) := ⟨_, rfl⟩
        have hx22 := hx21.p67 (v := (numR (S 58) N (tkE (S 58) N e)))
        have he22 : Z22 30 31 = nI (tkE (S 58) N (tkE (S 58) N e)) := by rw [hZ22, s2_ne (by decide)]; exact he21
        have hn22 : Z22 30 40 = numR (S 58) N (tkE (S 58) N e) := by rw [hZ22, s2_ne (by decide)]; exact hn21
        rw [← hZ22] at hx22 ⊢
        refine x_aload_n C 0 dX10_statement_191 rfl rfl ?_
        refine x_get C (T := TX10) (N := 45) (v := .ref (ad 66)) 30 36 hin10 (hF 30 (by decide)) (pf_30 G nR ad _) rfl (by decide) lk91 rfl rfl dX10_statement_192 ?_
        refine x_iload_n C 1 dX10_statement_195 rfl rfl ?_
        refine x_iald C 66 (hF 66 (by decide)) (pf_66 G nR ad _) (nI_in (N := 176) hq (by omega)) (kk := q) (nI_clamp (by omega)) dX10_statement_196 ?_
        refine x_top C (v2 := 1) hx22.r66 ?_
        refine x_iconst C dX10_statement_197 (v := 1) (by decide) ?_
        refine x_icmp_ne C (tgt := 220) dX10_statement_198 (by decide) (fun c198 => ?_) (fun c198 => ?_)
        · exact absurd c198 (by decide)
        refine x_aload_n C 0 dX10_statement_201 rfl rfl ?_
        refine x_ldc2 C (show Cond.constantLong RX10 200 (26995) ∈ wsX10_statement by decide +kernel) dX10_statement_202 ?_
        refine x_Vi 30 C (k_X10_takes l G nR LL ad hF Z22 (26995) N (tkE (S 58) N (tkE (S 58) N e)) (hx22.r30.trans hN) he22 hN4 hl21) gX10_statement_X10_takes rfl (by decide +kernel) ⟨(Nat.le_of_ble_eq_true rfl), (Nat.le_of_ble_eq_true rfl)⟩ ⟨(Nat.le_of_ble_eq_true rfl), (Nat.le_of_ble_eq_true rfl)⟩ (hF 30 (by decide)) (pf_30 G nR ad _) (T := TX10) (N := 45) rfl (n := 1) rfl (st := []) (Nat.le_of_ble_eq_true rfl) rfl dX10_statement_205 (fun _ _ hr9 => ?_)
        obtain ⟨rfl, rfl⟩ := hr9
        obtain ⟨f23a, f23b, f23c⟩ := tk_fact (Z := Z22) (T := (S 58)) (N := N) (p := (tkE (S 58) N (tkE (S 58) N e))) (e := (tkE (S 58) N (tkE (S 58) N e))) 8 (c := (26995)) (by decide) (by decide +kernel) hx22.r58 rfl
        rw [f23a]
        obtain ⟨Z23, hZ23⟩ : ∃ Z23, Z23 = tkWd Z22 N (tkE (S 58) N (tkE (S 58) N e)) (26995) := ⟨_, rfl⟩
        rw [← hZ23] at f23b f23c ⊢
        have hx23 := hx22.tr f23b
        refine x_if_eq C (tgt := 218) dX10_statement_208 (by decide) (fun c208 => ?_) (fun c208 => ?_)
        · replace c208 := bI_z c208
          refine x_iconst C dX10_statement_218 (v := 0) (by decide) ?_
          refine x_zret C hrt9 (Or.inl rfl) Z23 ?_ rfl dX10_statement_219
          have he23 : Z23 30 31 = nI (tkS (S 58) N (tkE (S 58) N (tkE (S 58) N e))) := by rw [f23c, if_neg (by rw [c208]; decide)]
          have hl23 : (tkS (S 58) N (tkE (S 58) N (tkE (S 58) N e))) ≤ N := Nat.le_trans (tk_le hl21).2.1 (tk_le hl21).2.2
          have hs : (stm nR o w (S 58) N e).1 = false ∧ (stm nR o w (S 58) N e).2.1 = (tkE (S 58) N (tkE (S 58) N e)) := by simp [stm, ordR, ordC, dayR, dysR, nmbR, c14, c97, n162, c208]
          exact ⟨by rw [hs.1]; rfl, by rw [hs.1, hs.2, if_neg (by decide)]; exact he23, _, _, _, hx23, fun h => by rw [hs.1] at h; cases h⟩
        · replace c208 := bI_nz c208
          refine x_aload_n C 0 dX10_statement_211 rfl rfl ?_
          have he23 : Z23 30 31 = nI (tkE (S 58) N (tkE (S 58) N (tkE (S 58) N e))) := by rw [f23c, if_pos c208]
          have hl23 : (tkE (S 58) N (tkE (S 58) N (tkE (S 58) N e))) ≤ N := (tk_le hl21).2.2
          refine x_Vi 30 C (k_X10_takesNumber l G nR LL ad hF Z23 N (tkE (S 58) N (tkE (S 58) N (tkE (S 58) N e))) (hx23.r30.trans hN) he23 hN4 hl23) gX10_statement_X10_takesNumber rfl (by decide +kernel) ⟨(Nat.le_of_ble_eq_true rfl), (Nat.le_of_ble_eq_true rfl)⟩ ⟨(Nat.le_of_ble_eq_true rfl), (Nat.le_of_ble_eq_true rfl)⟩ (hF 30 (by decide)) (pf_30 G nR ad _) (T := TX10) (N := 45) rfl (n := 0) rfl (st := []) (Nat.le_of_ble_eq_true rfl) rfl dX10_statement_212 (fun _ _ hr9 => ?_)
          obtain ⟨rfl, rfl⟩ := hr9
          obtain ⟨f24a, f24b, f24c, f24d⟩ := nm_fact (Z := Z23) (T := (S 58)) (N := N) (p := (tkE (S 58) N (tkE (S 58) N (tkE (S 58) N e)))) (e := (tkE (S 58) N (tkE (S 58) N (tkE (S 58) N e)))) hx23.r58 rfl
          rw [f24a]
          obtain ⟨Z24, hZ24⟩ : ∃ Z24, Z24 = nmU Z23 N (tkE (S 58) N (tkE (S 58) N (tkE (S 58) N e))) := ⟨_, rfl⟩
          rw [← hZ24] at f24b f24c f24d ⊢
          have hx24 := hx23.tr f24b
          refine x_if_ne C (tgt := 220) dX10_statement_215 (by decide) (fun c215 => ?_) (fun c215 => ?_)
          · replace c215 := bI_nz c215
            refine x_aload_n C 0 dX10_statement_220 rfl rfl ?_
            refine x_get C (T := TX10) (N := 45) (v := .ref (ad 68)) 30 38 hin10 (hF 30 (by decide)) (pf_30 G nR ad _) rfl (by decide) lk97 rfl rfl dX10_statement_221 ?_
            refine x_iload_n C 1 dX10_statement_224 rfl rfl ?_
            refine x_aload_n C 0 dX10_statement_225 rfl rfl ?_
            refine x_get C (T := TX10) (N := 45) (v := .int (Z24 30 40)) 30 40 hin10 (hF 30 (by decide)) (pf_30 G nR ad _) rfl (by decide) lk173 rfl rfl dX10_statement_226 ?_
            have n215 : ¬ numR (S 58) N (tkE (S 58) N (tkE (S 58) N (tkE (S 58) N e))) = -1 := by simpa using c215
            have he24 : Z24 30 31 = nI (tkE (S 58) N (tkE (S 58) N (tkE (S 58) N (tkE (S 58) N e)))) := by rw [f24c, if_neg n215]
            have hl24 : (tkE (S 58) N (tkE (S 58) N (tkE (S 58) N (tkE (S 58) N e)))) ≤ N := (tk_le hl23).2.2
            have hn24 : Z24 30 40 = numR (S 58) N (tkE (S 58) N (tkE (S 58) N (tkE (S 58) N e))) := f24d n215
            refine x_top C (v2 := numR (S 58) N (tkE (S 58) N (tkE (S 58) N (tkE (S 58) N e)))) hn24 ?_
            refine y_iast C 68 (hF 68 (by decide)) (fun f => (pf_68 G nR ad f)) (nI_in (N := 176) hq (by omega)) (kk := q) (nI_clamp (by omega)) dX10_statement_229 ?_
            obtain ⟨Z25, hZ25⟩ : ∃ Z25, Z25 = (s2 Z24 68 q (numR (S 58) N (tkE (S 58) N (tkE (S 58) N (tkE (S 58) N e))))) := ⟨_, rfl⟩
            have hx25 := hx24.p68 (v := (numR (S 58) N (tkE (S 58) N (tkE (S 58) N (tkE (S 58) N e)))))
            have he25 : Z25 30 31 = nI (tkE (S 58) N (tkE (S 58) N (tkE (S 58) N (tkE (S 58) N e)))) := by rw [hZ25, s2_ne (by decide)]; exact he24
            have hn25 : Z25 30 40 = numR (S 58) N (tkE (S 58) N (tkE (S 58) N (tkE (S 58) N e))) := by rw [hZ25, s2_ne (by decide)]; exact hn24
            rw [← hZ25] at hx25 ⊢
            have hs : (stm nR o w (S 58) N e).1 = decide (tkK (S 58) N (tkE (S 58) N (tkE (S 58) N (tkE (S 58) N (tkE (S 58) N e)))) = 3) ∧ (stm nR o w (S 58) N e).2.1 = (tkE (S 58) N (tkE (S 58) N (tkE (S 58) N (tkE (S 58) N e)))) := by simp [stm, ordR, ordC, dayR, dysR, nmbR, c14, c97, n162, c208, n215]
            exact j230 Z25 (tkE (S 58) N (tkE (S 58) N (tkE (S 58) N (tkE (S 58) N e)))) _ _ _ hs.1 hs.2 (by simp [mVal, ordC, c14, c97, n162, c208, n215]) hl24 he25 hx25
          · replace c215 := bI_z c215
            refine x_iconst C dX10_statement_218 (v := 0) (by decide) ?_
            refine x_zret C hrt9 (Or.inl rfl) Z24 ?_ rfl dX10_statement_219
            have n215 : numR (S 58) N (tkE (S 58) N (tkE (S 58) N (tkE (S 58) N e))) = -1 := by simpa using c215
            have he24 : Z24 30 31 = nI (tkS (S 58) N (tkE (S 58) N (tkE (S 58) N (tkE (S 58) N e)))) := by rw [f24c, if_pos n215]
            have hl24 : (tkS (S 58) N (tkE (S 58) N (tkE (S 58) N (tkE (S 58) N e)))) ≤ N := Nat.le_trans (tk_le hl23).2.1 (tk_le hl23).2.2
            have hs : (stm nR o w (S 58) N e).1 = false ∧ (stm nR o w (S 58) N e).2.1 = (tkE (S 58) N (tkE (S 58) N (tkE (S 58) N e))) := by simp [stm, ordR, ordC, dayR, dysR, nmbR, c14, c97, n162, c208, n215]
            exact ⟨by rw [hs.1]; rfl, by rw [hs.1, hs.2, if_neg (by decide)]; exact he24, _, _, _, hx24, fun h => by rw [hs.1] at h; cases h⟩
      · replace c162 := bI_z c162
        refine x_iconst C dX10_statement_165 (v := 0) (by decide) ?_
        refine x_zret C hrt9 (Or.inl rfl) Z21 ?_ rfl dX10_statement_166
        have n162 : numR (S 58) N (tkE (S 58) N e) = -1 := by simpa using c162
        have he21 : Z21 30 31 = nI (tkS (S 58) N (tkE (S 58) N e)) := by rw [f21c, if_pos n162]
        have hl21 : (tkS (S 58) N (tkE (S 58) N e)) ≤ N := Nat.le_trans (tk_le hl3).2.1 (tk_le hl3).2.2
        have hs : (stm nR o w (S 58) N e).1 = false ∧ (stm nR o w (S 58) N e).2.1 = (tkE (S 58) N e) := by simp [stm, ordR, ordC, dayR, dysR, nmbR, c14, c97, n162]
        exact ⟨by rw [hs.1]; rfl, by rw [hs.1, hs.2, if_neg (by decide)]; exact he21, _, _, _, hx21, fun h => by rw [hs.1] at h; cases h⟩
  · replace c14 := bI_nz c14
    refine x_aload_n C 0 dX10_statement_17 rfl rfl ?_
    refine x_get C (T := TX10) (N := 45) (v := .ref (ad 66)) 30 36 hin10 (hF 30 (by decide)) (pf_30 G nR ad _) rfl (by decide) lk91 rfl rfl dX10_statement_18 ?_
    refine x_iload_n C 1 dX10_statement_21 rfl rfl ?_
    refine x_iconst C dX10_statement_22 (v := 0) (by decide) ?_
    refine y_iast C 66 (hF 66 (by decide)) (fun f => (pf_66 G nR ad f)) (nI_in (N := 176) hq (by omega)) (kk := q) (nI_clamp (by omega)) dX10_statement_23 ?_
    have he2 : Z2 30 31 = nI (tkE (S 58) N e) := by rw [f2c, if_pos c14]
    have hl2 : (tkE (S 58) N e) ≤ N := (tk_le heN).2.2
    obtain ⟨Z26, hZ26⟩ : ∃ Z26, Z26 = (s2 Z2 66 q 0) := ⟨_, rfl⟩
    have hx26 := hx2.p66 (v := 0)
    have he26 : Z26 30 31 = nI (tkE (S 58) N e) := by rw [hZ26, s2_ne (by decide)]; exact he2
    rw [← hZ26] at hx26 ⊢
    refine x_aload_n C 0 dX10_statement_24 rfl rfl ?_
    refine x_get C (T := TX10) (N := 45) (v := .ref (ad 68)) 30 38 hin10 (hF 30 (by decide)) (pf_30 G nR ad _) rfl (by decide) lk97 rfl rfl dX10_statement_25 ?_
    refine x_iload_n C 1 dX10_statement_28 rfl rfl ?_
    refine x_aload_n C 0 dX10_statement_29 rfl rfl ?_
    refine x_ldc2 C (show Cond.constantLong RX10 182 (109330362692729) ∈ wsX10_statement by decide +kernel) dX10_statement_30 ?_
    refine x_Vi 30 C (k_X10_takes l G nR LL ad hF Z26 (109330362692729) N (tkE (S 58) N e) (hx26.r30.trans hN) he26 hN4 hl2) gX10_statement_X10_takes rfl (by decide +kernel) ⟨(Nat.le_of_ble_eq_true rfl), (Nat.le_of_ble_eq_true rfl)⟩ ⟨(Nat.le_of_ble_eq_true rfl), (Nat.le_of_ble_eq_true rfl)⟩ (hF 30 (by decide)) (pf_30 G nR ad _) (T := TX10) (N := 45) rfl (n := 1) rfl (st := [.int (nI q), .ref (ad 68)]) (Nat.le_of_ble_eq_true rfl) rfl dX10_statement_33 (fun _ _ hr9 => ?_)
    obtain ⟨rfl, rfl⟩ := hr9
    obtain ⟨f27a, f27b, f27c⟩ := tk_fact (Z := Z26) (T := (S 58)) (N := N) (p := (tkE (S 58) N e)) (e := (tkE (S 58) N e)) 5 (c := (109330362692729)) (by decide) (by decide +kernel) hx26.r58 rfl
    rw [f27a]
    obtain ⟨Z27, hZ27⟩ : ∃ Z27, Z27 = tkWd Z26 N (tkE (S 58) N e) (109330362692729) := ⟨_, rfl⟩
    rw [← hZ27] at f27b f27c ⊢
    have hx27 := hx26.tr f27b
    refine x_if_eq C (tgt := 43) dX10_statement_36 (by decide) (fun c36 => ?_) (fun c36 => ?_)
    · replace c36 := bI_z c36
      refine x_aload_n C 0 dX10_statement_43 rfl rfl ?_
      refine x_ldc2 C (show Cond.constantLong RX10 184 (422775452787) ∈ wsX10_statement by decide +kernel) dX10_statement_44 ?_
      have he27 : Z27 30 31 = nI (tkS (S 58) N (tkE (S 58) N e)) := by rw [f27c, if_neg (by rw [c36]; decide)]
      have hl27 : (tkS (S 58) N (tkE (S 58) N e)) ≤ N := Nat.le_trans (tk_le hl2).2.1 (tk_le hl2).2.2
      refine x_Vi 30 C (k_X10_takes l G nR LL ad hF Z27 (422775452787) N (tkS (S 58) N (tkE (S 58) N e)) (hx27.r30.trans hN) he27 hN4 hl27) gX10_statement_X10_takes rfl (by decide +kernel) ⟨(Nat.le_of_ble_eq_true rfl), (Nat.le_of_ble_eq_true rfl)⟩ ⟨(Nat.le_of_ble_eq_true rfl), (Nat.le_of_ble_eq_true rfl)⟩ (hF 30 (by decide)) (pf_30 G nR ad _) (T := TX10) (N := 45) rfl (n := 1) rfl (st := [.int (nI q), .ref (ad 68)]) (Nat.le_of_ble_eq_true rfl) rfl dX10_statement_47 (fun _ _ hr9 => ?_)
      obtain ⟨rfl, rfl⟩ := hr9
      obtain ⟨f28a, f28b, f28c⟩ := tk_fact (Z := Z27) (T := (S 58)) (N := N) (p := (tkS (S 58) N (tkE (S 58) N e))) (e := (tkE (S 58) N e)) 6 (c := (422775452787)) (by decide) (by decide +kernel) hx27.r58 (tkS_idem hl2)
      rw [f28a]
      obtain ⟨Z28, hZ28⟩ : ∃ Z28, Z28 = tkWd Z27 N (tkS (S 58) N (tkE (S 58) N e)) (422775452787) := ⟨_, rfl⟩
      rw [← hZ28] at f28b f28c ⊢
      have hx28 := hx27.tr f28b
      refine x_if_eq C (tgt := 57) dX10_statement_50 (by decide) (fun c50 => ?_) (fun c50 => ?_)
      · replace c50 := bI_z c50
        refine x_aload_n C 0 dX10_statement_57 rfl rfl ?_
        refine x_ldc2 C (show Cond.constantLong RX10 186 (1953459300) ∈ wsX10_statement by decide +kernel) dX10_statement_58 ?_
        have he28 : Z28 30 31 = nI (tkS (S 58) N (tkE (S 58) N e)) := by rw [f28c, if_neg (by rw [c50]; decide)]
        have hl28 : (tkS (S 58) N (tkE (S 58) N e)) ≤ N := Nat.le_trans (tk_le hl2).2.1 (tk_le hl2).2.2
        refine x_Vi 30 C (k_X10_takes l G nR LL ad hF Z28 (1953459300) N (tkS (S 58) N (tkE (S 58) N e)) (hx28.r30.trans hN) he28 hN4 hl28) gX10_statement_X10_takes rfl (by decide +kernel) ⟨(Nat.le_of_ble_eq_true rfl), (Nat.le_of_ble_eq_true rfl)⟩ ⟨(Nat.le_of_ble_eq_true rfl), (Nat.le_of_ble_eq_true rfl)⟩ (hF 30 (by decide)) (pf_30 G nR ad _) (T := TX10) (N := 45) rfl (n := 1) rfl (st := [.int (nI q), .ref (ad 68)]) (Nat.le_of_ble_eq_true rfl) rfl dX10_statement_61 (fun _ _ hr9 => ?_)
        obtain ⟨rfl, rfl⟩ := hr9
        obtain ⟨f29a, f29b, f29c⟩ := tk_fact (Z := Z28) (T := (S 58)) (N := N) (p := (tkS (S 58) N (tkE (S 58) N e))) (e := (tkE (S 58) N e)) 7 (c := (1953459300)) (by decide) (by decide +kernel) hx28.r58 (tkS_idem hl2)
        rw [f29a]
        obtain ⟨Z29, hZ29⟩ : ∃ Z29, Z29 = tkWd Z28 N (tkS (S 58) N (tkE (S 58) N e)) (1953459300) := ⟨_, rfl⟩
        rw [← hZ29] at f29b f29c ⊢
        have hx29 := hx28.tr f29b
        refine x_if_eq C (tgt := 71) dX10_statement_64 (by decide) (fun c64 => ?_) (fun c64 => ?_)
        · replace c64 := bI_z c64
          refine x_iconst C dX10_statement_71 (v := -1) (by decide) ?_
          refine y_iast C 68 (hF 68 (by decide)) (fun f => (pf_68 G nR ad f)) (nI_in (N := 176) hq (by omega)) (kk := q) (nI_clamp (by omega)) dX10_statement_72 ?_
          have he29 : Z29 30 31 = nI (tkS (S 58) N (tkE (S 58) N e)) := by rw [f29c, if_neg (by rw [c64]; decide)]
          have hl29 : (tkS (S 58) N (tkE (S 58) N e)) ≤ N := Nat.le_trans (tk_le hl2).2.1 (tk_le hl2).2.2
          obtain ⟨Z30, hZ30⟩ : ∃ Z30, Z30 = (s2 Z29 68 q (-1)) := ⟨_, rfl⟩
          have hx30 := hx29.p68 (v := (-1))
          have he30 : Z30 30 31 = nI (tkS (S 58) N (tkE (S 58) N e)) := by rw [hZ30, s2_ne (by decide)]; exact he29
          rw [← hZ30] at hx30 ⊢
          refine x_aload_n C 0 dX10_statement_73 rfl rfl ?_
          refine x_get C (T := TX10) (N := 45) (v := .ref (ad 68)) 30 38 hin10 (hF 30 (by decide)) (pf_30 G nR ad _) rfl (by decide) lk97 rfl rfl dX10_statement_74 ?_
          refine x_iload_n C 1 dX10_statement_77 rfl rfl ?_
          refine x_iald C 68 (hF 68 (by decide)) (pf_68 G nR ad _) (nI_in (N := 176) hq (by omega)) (kk := q) (nI_clamp (by omega)) dX10_statement_78 ?_
          refine x_top C (v2 := (-1)) hx30.r68 ?_
          refine x_iconst C dX10_statement_79 (v := -1) (by decide) ?_
          refine x_icmp_ne C (tgt := 230) dX10_statement_80 (by decide) (fun c80 => ?_) (fun c80 => ?_)
          · exact absurd c80 (by decide)
          refine x_iconst C dX10_statement_83 (v := 0) (by decide) ?_
          refine x_zret C hrt9 (Or.inl rfl) Z30 ?_ rfl dX10_statement_84
          have hs : (stm nR o w (S 58) N e).1 = false ∧ (stm nR o w (S 58) N e).2.1 = (tkE (S 58) N e) := by simp [stm, ordR, ordC, dayR, dysR, nmbR, c14, c36, c50, c64]
          exact ⟨by rw [hs.1]; rfl, by rw [hs.1, hs.2, if_neg (by decide)]; exact he30, _, _, _, hx30, fun h => by rw [hs.1] at h; cases h⟩
        · replace c64 := bI_nz c64
          refine x_iconst C dX10_statement_67 (v := 2) (by decide) ?_
          refine x_goto C (tgt := 72) dX10_statement_68 (by decide) ?_
          refine y_iast C 68 (hF 68 (by decide)) (fun f => (pf_68 G nR ad f)) (nI_in (N := 176) hq (by omega)) (kk := q) (nI_clamp (by omega)) dX10_statement_72 ?_
          have he29 : Z29 30 31 = nI (tkE (S 58) N (tkE (S 58) N e)) := by rw [f29c, if_pos c64]
          have hl29 : (tkE (S 58) N (tkE (S 58) N e)) ≤ N := (tk_le hl2).2.2
          obtain ⟨Z31, hZ31⟩ : ∃ Z31, Z31 = (s2 Z29 68 q 2) := ⟨_, rfl⟩
          have hx31 := hx29.p68 (v := 2)
          have he31 : Z31 30 31 = nI (tkE (S 58) N (tkE (S 58) N e)) := by rw [hZ31, s2_ne (by decide)]; exact he29
          rw [← hZ31] at hx31 ⊢
          refine x_aload_n C 0 dX10_statement_73 rfl rfl ?_
          refine x_get C (T := TX10) (N := 45) (v := .ref (ad 68)) 30 38 hin10 (hF 30 (by decide)) (pf_30 G nR ad _) rfl (by decide) lk97 rfl rfl dX10_statement_74 ?_
          refine x_iload_n C 1 dX10_statement_77 rfl rfl ?_
          refine x_iald C 68 (hF 68 (by decide)) (pf_68 G nR ad _) (nI_in (N := 176) hq (by omega)) (kk := q) (nI_clamp (by omega)) dX10_statement_78 ?_
          refine x_top C (v2 := 2) hx31.r68 ?_
          refine x_iconst C dX10_statement_79 (v := -1) (by decide) ?_
          refine x_icmp_ne C (tgt := 230) dX10_statement_80 (by decide) (fun c80 => ?_) (fun c80 => ?_)
          rotate_left
          · exact absurd c80 (by decide)
          have hs : (stm nR o w (S 58) N e).1 = decide (tkK (S 58) N (tkE (S 58) N (tkE (S 58) N e)) = 3) ∧ (stm nR o w (S 58) N e).2.1 = (tkE (S 58) N (tkE (S 58) N e)) := by simp [stm, ordR, ordC, dayR, dysR, nmbR, c14, c36, c50, c64]
          exact j230 Z31 (tkE (S 58) N (tkE (S 58) N e)) _ _ _ hs.1 hs.2 (by simp [mVal, ordC, c14, c36, c50, c64]) hl29 he31 hx31
      · replace c50 := bI_nz c50
        refine x_iconst C dX10_statement_53 (v := 1) (by decide) ?_
        refine x_goto C (tgt := 72) dX10_statement_54 (by decide) ?_
        refine y_iast C 68 (hF 68 (by decide)) (fun f => (pf_68 G nR ad f)) (nI_in (N := 176) hq (by omega)) (kk := q) (nI_clamp (by omega)) dX10_statement_72 ?_
        have he28 : Z28 30 31 = nI (tkE (S 58) N (tkE (S 58) N e)) := by rw [f28c, if_pos c50]
        have hl28 : (tkE (S 58) N (tkE (S 58) N e)) ≤ N := (tk_le hl2).2.2
        obtain ⟨Z32, hZ32⟩ : ∃ Z32, Z32 = (s2 Z28 68 q 1) := ⟨_, rfl⟩
        have hx32 := hx28.p68 (v := 1)
        have he32 : Z32 30 31 = nI (tkE (S 58) N (tkE (S 58) N e)) := by rw [hZ32, s2_ne (by decide)]; exact he28
        rw [← hZ32] at hx32 ⊢
        refine x_aload_n C 0 dX10_statement_73 rfl rfl ?_
        refine x_get C (T := TX10) (N := 45) (v := .ref (ad 68)) 30 38 hin10 (hF 30 (by decide)) (pf_30 G nR ad _) rfl (by decide) lk97 rfl rfl dX10_statement_74 ?_
        refine x_iload_n C 1 dX10_statement_77 rfl rfl ?_
        refine x_iald C 68 (hF 68 (by decide)) (pf_68 G nR ad _) (nI_in (N := 176) hq (by omega)) (kk := q) (nI_clamp (by omega)) dX10_statement_78 ?_
        refine x_top C (v2 := 1) hx32.r68 ?_
        refine x_iconst C dX10_statement_79 (v := -1) (by decide) ?_
        refine x_icmp_ne C (tgt := 230) dX10_statement_80 (by decide) (fun c80 => ?_) (fun c80 => ?_)
        rotate_left
        · exact absurd c80 (by decide)
        have hs : (stm nR o w (S 58) N e).1 = decide (tkK (S 58) N (tkE (S 58) N (tkE (S 58) N e)) = 3) ∧ (stm nR o w (S 58) N e).2.1 = (tkE (S 58) N (tkE (S 58) N e)) := by simp [stm, ordR, ordC, dayR, dysR, nmbR, c14, c36, c50]
        exact j230 Z32 (tkE (S 58) N (tkE (S 58) N e)) _ _ _ hs.1 hs.2 (by simp [mVal, ordC, c14, c36, c50]) hl28 he32 hx32
    · replace c36 := bI_nz c36
      refine x_iconst C dX10_statement_39 (v := 0) (by decide) ?_
      refine x_goto C (tgt := 72) dX10_statement_40 (by decide) ?_
      refine y_iast C 68 (hF 68 (by decide)) (fun f => (pf_68 G nR ad f)) (nI_in (N := 176) hq (by omega)) (kk := q) (nI_clamp (by omega)) dX10_statement_72 ?_
      have he27 : Z27 30 31 = nI (tkE (S 58) N (tkE (S 58) N e)) := by rw [f27c, if_pos c36]
      have hl27 : (tkE (S 58) N (tkE (S 58) N e)) ≤ N := (tk_le hl2).2.2
      obtain ⟨Z33, hZ33⟩ : ∃ Z33, Z33 = (s2 Z27 68 q 0) := ⟨_, rfl⟩
      have hx33 := hx27.p68 (v := 0)
      have he33 : Z33 30 31 = nI (tkE (S 58) N (tkE (S 58) N e)) := by rw [hZ33, s2_ne (by decide)]; exact he27
      rw [← hZ33] at hx33 ⊢
      refine x_aload_n C 0 dX10_statement_73 rfl rfl ?_
      refine x_get C (T := TX10) (N := 45) (v := .ref (ad 68)) 30 38 hin10 (hF 30 (by decide)) (pf_30 G nR ad _) rfl (by decide) lk97 rfl rfl dX10_statement_74 ?_
      refine x_iload_n C 1 dX10_statement_77 rfl rfl ?_
      refine x_iald C 68 (hF 68 (by decide)) (pf_68 G nR ad _) (nI_in (N := 176) hq (by omega)) (kk := q) (nI_clamp (by omega)) dX10_statement_78 ?_
      refine x_top C (v2 := 0) hx33.r68 ?_
      refine x_iconst C dX10_statement_79 (v := -1) (by decide) ?_
      refine x_icmp_ne C (tgt := 230) dX10_statement_80 (by decide) (fun c80 => ?_) (fun c80 => ?_)
      rotate_left
      · exact absurd c80 (by decide)
      have hs : (stm nR o w (S 58) N e).1 = decide (tkK (S 58) N (tkE (S 58) N (tkE (S 58) N e)) = 3) ∧ (stm nR o w (S 58) N e).2.1 = (tkE (S 58) N (tkE (S 58) N e)) := by simp [stm, ordR, ordC, dayR, dysR, nmbR, c14, c36]
      exact j230 Z33 (tkE (S 58) N (tkE (S 58) N e)) _ _ _ hs.1 hs.2 (by simp [mVal, ordC, c14, c36]) hl27 he33 hx33

