/-! the reference's words and numbers -/
theorem kOf_1 {x : Int32} : kOf x = 1 ↔ (97 ≤ x ∧ x ≤ 122) := by
  unfold kOf
  by_cases h : 97 ≤ x ∧ x ≤ 122
  · rw [if_pos h]; exact ⟨fun _ => h, fun _ => rfl⟩
  · rw [if_neg h]
    refine ⟨fun g => ?_, fun g => absurd g h⟩
    by_cases h2 : 48 ≤ x ∧ x ≤ 57
    · rw [if_pos h2] at g; exact absurd g (by decide)
    · rw [if_neg h2] at g
      by_cases h3 : x = 59
      · rw [if_pos h3] at g; exact absurd g (by decide)
      · rw [if_neg h3] at g; exact absurd g (by decide)
theorem kOf_2 {x : Int32} : kOf x = 2 ↔ (48 ≤ x ∧ x ≤ 57) := by
  unfold kOf
  by_cases h : 97 ≤ x ∧ x ≤ 122
  · rw [if_pos h]
    refine ⟨fun g => absurd g (by decide), fun g => ?_⟩
    have h1 := Int32.le_iff_toInt_le.mp h.1
    have h2 := Int32.le_iff_toInt_le.mp g.2
    have e1 : (97 : Int32).toInt = 97 := rfl
    have e2 : (57 : Int32).toInt = 57 := rfl
    omega
  · rw [if_neg h]
    by_cases h2 : 48 ≤ x ∧ x ≤ 57
    · rw [if_pos h2]; exact ⟨fun _ => h2, fun _ => rfl⟩
    · rw [if_neg h2]
      refine ⟨fun g => ?_, fun g => absurd g h2⟩
      by_cases h3 : x = 59
      · rw [if_pos h3] at g; exact absurd g (by decide)
      · rw [if_neg h3] at g; exact absurd g (by decide)
def wdV (T : Nat → Int32) (s : Nat) : Nat → Int64
  | 0 => 0
  | j + 1 => if j < 7 then (wdV T s j <<< ((8 : Int32).toInt64 &&& 63)) ||| (T (s + j)).toInt64 else 0
/-- where a run of a kind ends -/
def wEnd (T : Nat → Int32) (kd : Int32) (N s : Nat) : Nat := skK T kd s (N - s)
def wordV (T : Nat → Int32) (N e : Nat) : Int64 := if 7 < wEnd T 1 N (tkS T N e) - tkS T N e then 0 else wdV T (tkS T N e) (wEnd T 1 N (tkS T N e) - tkS T N e)
def wordS (S : tf_M) (N e : Nat) : tf_M := s2 (s2 S 30 31 (nI (tkS (S 58) N e))) 30 39 (nI (wEnd (S 58) 1 N (tkS (S 58) N e)))
theorem skK_stop {T : Nat → Int32} {kd : Int32} {x N : Nat} (h : x < N → ¬ kOf (T x) = kd) : skK T kd x (N - x) = x := by
  rcases Nat.lt_or_ge x N with g | g
  · rw [show N - x = (N - (x + 1)) + 1 by omega, skK, if_neg (h g)]
  · rw [show N - x = 0 by omega]; rfl
theorem skK_go {T : Nat → Int32} {kd : Int32} {x N : Nat} (hx : x < N) (h : kOf (T x) = kd) : skK T kd x (N - x) = skK T kd (x + 1) (N - (x + 1)) := by
  rw [show N - x = (N - (x + 1)) + 1 by omega, skK, if_pos h]
set_option maxHeartbeats 4000000 in
set_option maxRecDepth 100000 in
theorem k_X10_word (l : Launch) (G : tf_G) (nR : Nat) (LL : List Nat) (ad : Nat → Nat) (hF : ∀ j ∈ tf_fix, j ∈ LL) (S : tf_M) (N e : Nat) (hN : S 30 30 = nI N) (he : S 30 31 = nI e) (hN4 : N ≤ 400) (heN : e ≤ N) : Cl l yX10_word wsX10_word ({ frames := 1, cells := 0, slots := 0, locals := 20 } : Room) G LL ad (pw G nR ad) (pw G nR ad S) [.ref (ad 30)] (fun z u => z = wordV (S 58) N e ∧ u = wordS S N e) := by
  have hin10 : ∀ w ∈ u_ws RX10 TX10 45, w ∈ wsX10_word := by decide +kernel
  have lk166 : Cond.fieldLink RX10 166 "TributeFleetModel" "wordEnd" "I" ∈ wsX10_word := by decide +kernel
  have lk157 : Cond.fieldLink RX10 157 "TributeFleetModel" "place" "I" ∈ wsX10_word := by decide +kernel
  have lk160 : Cond.fieldLink RX10 160 "TributeFleetModel" "size" "I" ∈ wsX10_word := by decide +kernel
  have lk79 : Cond.fieldLink RX10 79 "TributeFleetModel" "text" "[B" ∈ wsX10_word := by decide +kernel
  refine cl_of (cc := cX10_word) (maxL := 3) (ret := (some .long)) (by decide +kernel) rfl (Nat.le_of_ble_eq_true rfl) ?_
  intro pv ev sv mv args below meth cv A C hrt9 hnm9
  have C : Cx pv sv mv args meth cv cX10_word 3 RX10 wsX10_word G A LL ad := C
  show XJ pv l ev _ sv mv args below meth cv G A LL ad _ 3 0 0 _ 0 [(0, .ref (ad 30))] []
  have j100 : ∀ (x y : Nat) (w : Int64), (x = (tkS (S 58) N e)) → (x ≤ y) → (y ≤ N) → (skK (S 58) 1 x (N - x) = y) → (w = wdV (S 58) x (y - x)) → XJ pv l ev ({ frames := 1, cells := 0, slots := 0, locals := 20 } : Room) sv mv args below meth cv G A LL ad (MQ below (va_Ql (fun z u => z = wordV (S 58) N e ∧ u = wordS S N e) (tf_B G LL ad (pw G nR ad)) A) args sv 0 0 A) 3 0 0 (pw G nR ad (s2 (s2 S 30 31 (nI x)) 30 39 (nI y))) 100 [(0, .ref (ad 30)), (1, .long (w))] [] := by
    intro x y w hx hxy hyN hye hw9
    refine x_aload_n C 0 dX10_word_100 rfl rfl ?_
    refine x_get C (T := TX10) (N := 45) (v := .int (nI y)) 30 39 hin10 (hF 30 (by decide)) (pf_30 G nR ad _) rfl (by decide) lk166 rfl rfl dX10_word_101 ?_
    refine x_aload_n C 0 dX10_word_104 rfl rfl ?_
    refine x_get C (T := TX10) (N := 45) (v := .int (nI x)) 30 31 hin10 (hF 30 (by decide)) (pf_30 G nR ad _) rfl (by decide) lk157 rfl rfl dX10_word_105 ?_
    refine x_isub C dX10_word_108 ?_
    refine x_bipush C dX10_word_109 (v := 7) (by decide) ?_
    refine x_icmp_le C (tgt := 118) dX10_word_111 (by decide) (fun c111 => ?_) (fun c111 => ?_)
    · skip
      refine x_lload_n C 1 dX10_word_118 rfl rfl ?_
      refine x_lret C hrt9 (s2 (s2 S 30 31 (nI x)) 30 39 (nI y)) ?_ rfl dX10_word_119
      have hwe : wEnd (S 58) 1 N (tkS (S 58) N e) = y := by rw [← hx]; exact hye
      have hc9 : (7 < nI y - nI x) ↔ 7 < y - x := by
        rw [nI_sub hxy]
        exact ⟨fun h => nI_lt2 (a := 7) h (by decide), fun h => nI_lt (a := 7) h (by omega)⟩
      refine ⟨?_, ?_⟩
      · unfold wordV
        rw [hwe, ← hx, if_neg (fun h => absurd c111 (Int32.not_le.mpr (hc9.mpr h))), hw9]
      · unfold wordS; rw [hwe, ← hx]
    · skip
      refine x_lconst C dX10_word_114 (v := 0) (by decide) ?_
      refine x_goto C (tgt := 119) dX10_word_115 (by decide) ?_
      refine x_lret C hrt9 (s2 (s2 S 30 31 (nI x)) 30 39 (nI y)) ?_ rfl dX10_word_119
      have hwe : wEnd (S 58) 1 N (tkS (S 58) N e) = y := by rw [← hx]; exact hye
      have hc9 : (7 < nI y - nI x) ↔ 7 < y - x := by
        rw [nI_sub hxy]
        exact ⟨fun h => nI_lt2 (a := 7) h (by decide), fun h => nI_lt (a := 7) h (by omega)⟩
      refine ⟨?_, ?_⟩
      · unfold wordV
        rw [hwe, ← hx, if_pos (hc9.mp (Int32.not_le.mp c111))]
      · unfold wordS; rw [hwe, ← hx]
  refine x_aload_n C 0 dX10_word_0 rfl rfl ?_
  refine x_Vv 30 C (k_X10_blanks l G nR LL ad hF S N e hN he hN4 heN) gX10_word_X10_blanks rfl (by decide +kernel) ⟨(Nat.le_of_ble_eq_true rfl), (Nat.le_of_ble_eq_true rfl)⟩ ⟨(Nat.le_of_ble_eq_true rfl), (Nat.le_of_ble_eq_true rfl)⟩ (hF 30 (by decide)) (pf_30 G nR ad _) (T := TX10) (N := 45) rfl (n := 0) rfl (st := []) (Nat.le_of_ble_eq_true rfl) rfl dX10_word_1 (fun _ hr9 => ?_)
  subst hr9
  obtain ⟨t1, t2, t3⟩ := tk_le (T := S 58) heN
  obtain ⟨x, hx⟩ : ∃ x, x = (tkS (S 58) N e) := ⟨_, rfl⟩
  rw [← hx] at t1 t2 ⊢
  refine x_aload_n C 0 dX10_word_4 rfl rfl ?_
  refine x_aload_n C 0 dX10_word_5 rfl rfl ?_
  refine x_get C (T := TX10) (N := 45) (v := .int (nI x)) 30 31 hin10 (hF 30 (by decide)) (pf_30 G nR ad _) rfl (by decide) lk157 rfl rfl dX10_word_6 ?_
  refine y_put C (T := TX10) (N := 45) (ty := .int) 30 39 hin10 tyX10 tyX10_ok nmX10 (hF 30 (by decide)) (pf_30 G nR ad _) (pf_30 G nR ad _) rfl (by decide) lk166 rfl rfl (by decide +kernel) rfl rfl (Nat.le_of_ble_eq_true rfl) dX10_word_9 ?_
  refine x_lconst C dX10_word_12 (v := 0) (by decide) ?_
  refine x_lstore_n C (L1 := [(1, .long (0)), (0, .ref (ad 30))]) dX10_word_13 rfl (by decide) rfl ?_
  have lp14 : ∀ (d9 : Nat) (y : Nat) (w : Int64), (x ≤ y) → (y ≤ N) → (skK (S 58) 1 x (N - x) = skK (S 58) 1 y (N - y)) → (w = wdV (S 58) x (y - x)) → N - y < d9 → XJ pv l ev ({ frames := 1, cells := 0, slots := 0, locals := 20 } : Room) sv mv args below meth cv G A LL ad (MQ below (va_Ql (fun z u => z = wordV (S 58) N e ∧ u = wordS S N e) (tf_B G LL ad (pw G nR ad)) A) args sv 0 0 A) 3 0 0 (pw G nR ad (s2 (s2 S 30 31 (nI x)) 30 39 (nI y))) 14 [(0, .ref (ad 30)), (1, .long (w))] [] := by
    intro d9
    induction d9 with
    | zero => intro y w hxy hyN hye hw9 hd9; omega
    | succ d9 ih14 =>
      intro y w hxy hyN hye hw9 hd9
      have ih := ih14
      refine x_aload_n C 0 dX10_word_14 rfl rfl ?_
      refine x_get C (T := TX10) (N := 45) (v := .int (nI y)) 30 39 hin10 (hF 30 (by decide)) (pf_30 G nR ad _) rfl (by decide) lk166 rfl rfl dX10_word_15 ?_
      refine x_aload_n C 0 dX10_word_18 rfl rfl ?_
      refine x_get C (T := TX10) (N := 45) (v := .int (S 30 30)) 30 30 hin10 (hF 30 (by decide)) (pf_30 G nR ad _) rfl (by decide) lk160 rfl rfl dX10_word_19 ?_
      refine x_icmp_ge C (tgt := 100) dX10_word_22 (by decide) (fun c22 => ?_) (fun c22 => ?_)
      · skip
        exact j100 x y w hx hxy hyN (by rw [hye]; exact skK_stop (fun hlt9 => absurd hlt9 (Nat.not_lt.mpr (nI_ge' (by rw [← hN]; exact c22) (by omega))))) hw9
      · skip
        have hlt : y < N := nI_lt' (by rw [← hN]; exact c22) (by omega)
        refine x_aload_n C 0 dX10_word_25 rfl rfl ?_
        refine x_get C (T := TX10) (N := 45) (v := .ref (ad 58)) 30 28 hin10 (hF 30 (by decide)) (pf_30 G nR ad _) rfl (by decide) lk79 rfl rfl dX10_word_26 ?_
        refine x_aload_n C 0 dX10_word_29 rfl rfl ?_
        refine x_get C (T := TX10) (N := 45) (v := .int (nI y)) 30 39 hin10 (hF 30 (by decide)) (pf_30 G nR ad _) rfl (by decide) lk166 rfl rfl dX10_word_30 ?_
        refine x_bald C 58 (hF 58 (by decide)) (pf_58 G nR ad _) (nI_in (N := 400) (show y < 400 by omega) (by omega)) (kk := y) (nI_clamp (by omega)) dX10_word_33 ?_
        refine x_bipush C dX10_word_34 (v := 97) (by decide) ?_
        refine x_icmp_lt C (tgt := 100) dX10_word_36 (by decide) (fun c36 => ?_) (fun c36 => ?_)
        · skip
          exact j100 x y w hx hxy hyN (by rw [hye]; exact skK_stop (fun hlt9 => fun h => absurd (kOf_1.mp h).1 (Int32.not_le.mpr c36))) hw9
        · skip
          refine x_aload_n C 0 dX10_word_39 rfl rfl ?_
          refine x_get C (T := TX10) (N := 45) (v := .ref (ad 58)) 30 28 hin10 (hF 30 (by decide)) (pf_30 G nR ad _) rfl (by decide) lk79 rfl rfl dX10_word_40 ?_
          refine x_aload_n C 0 dX10_word_43 rfl rfl ?_
          refine x_get C (T := TX10) (N := 45) (v := .int (nI y)) 30 39 hin10 (hF 30 (by decide)) (pf_30 G nR ad _) rfl (by decide) lk166 rfl rfl dX10_word_44 ?_
          refine x_bald C 58 (hF 58 (by decide)) (pf_58 G nR ad _) (nI_in (N := 400) (show y < 400 by omega) (by omega)) (kk := y) (nI_clamp (by omega)) dX10_word_47 ?_
          refine x_bipush C dX10_word_48 (v := 122) (by decide) ?_
          refine x_icmp_gt C (tgt := 100) dX10_word_50 (by decide) (fun c50 => ?_) (fun c50 => ?_)
          · skip
            exact j100 x y w hx hxy hyN (by rw [hye]; exact skK_stop (fun hlt9 => fun h => absurd (kOf_1.mp h).2 (Int32.not_le.mpr c50))) hw9
          · skip
            refine x_aload_n C 0 dX10_word_53 rfl rfl ?_
            refine x_get C (T := TX10) (N := 45) (v := .int (nI y)) 30 39 hin10 (hF 30 (by decide)) (pf_30 G nR ad _) rfl (by decide) lk166 rfl rfl dX10_word_54 ?_
            refine x_aload_n C 0 dX10_word_57 rfl rfl ?_
            refine x_get C (T := TX10) (N := 45) (v := .int (nI x)) 30 31 hin10 (hF 30 (by decide)) (pf_30 G nR ad _) rfl (by decide) lk157 rfl rfl dX10_word_58 ?_
            refine x_isub C dX10_word_61 ?_
            refine x_bipush C dX10_word_62 (v := 7) (by decide) ?_
            refine x_icmp_ge C (tgt := 85) dX10_word_64 (by decide) (fun c64 => ?_) (fun c64 => ?_)
            · skip
              refine x_lconst C dX10_word_85 (v := 0) (by decide) ?_
              refine x_lstore_n C (L1 := [(1, .long (0)), (0, .ref (ad 30))]) dX10_word_86 rfl (by decide) rfl ?_
              refine x_aload_n C 1 dX10_word_87 rfl rfl ?_
              refine x_dup C dX10_word_88 rfl ?_
              refine x_get C (T := TX10) (N := 45) (v := .int (nI y)) 30 39 hin10 (hF 30 (by decide)) (pf_30 G nR ad _) rfl (by decide) lk166 rfl rfl dX10_word_89 ?_
              refine x_iconst C dX10_word_92 (v := 1) (by decide) ?_
              refine x_iadd C dX10_word_93 ?_
              refine y_put C (T := TX10) (N := 45) (ty := .int) 30 39 hin10 tyX10 tyX10_ok nmX10 (hF 30 (by decide)) (pf_30 G nR ad _) (pf_30 G nR ad _) rfl (by decide) lk166 rfl rfl (by decide +kernel) rfl rfl (Nat.le_of_ble_eq_true rfl) dX10_word_94 ?_
              refine x_goto C (tgt := 14) dX10_word_97 (by decide) ?_
              refine x_sub [1, 0] (L1 := [(0, .ref (ad 30)), (1, .long (0))]) rfl ?_
              rw [s2_s2, ← nI_succ]
              have hK : kOf (S 58 y) = 1 := kOf_1.mpr ⟨Int32.not_lt.mp c36, Int32.not_lt.mp c50⟩
              exact ih (y + 1) _ (by omega) hlt (by rw [hye, skK_go hlt hK]) (by rw [show y + 1 - x = (y - x) + 1 by omega, wdV, if_neg (Nat.not_lt.mpr (nI_ge' (b := 7) (by rw [← nI_sub hxy]; exact c64) (by decide)))]) (by omega)
            · skip
              refine x_lload_n C 1 dX10_word_67 rfl rfl ?_
              refine x_bipush C dX10_word_68 (v := 8) (by decide) ?_
              refine x_lshl C dX10_word_70 ?_
              refine x_aload_n C 0 dX10_word_71 rfl rfl ?_
              refine x_get C (T := TX10) (N := 45) (v := .ref (ad 58)) 30 28 hin10 (hF 30 (by decide)) (pf_30 G nR ad _) rfl (by decide) lk79 rfl rfl dX10_word_72 ?_
              refine x_aload_n C 0 dX10_word_75 rfl rfl ?_
              refine x_get C (T := TX10) (N := 45) (v := .int (nI y)) 30 39 hin10 (hF 30 (by decide)) (pf_30 G nR ad _) rfl (by decide) lk166 rfl rfl dX10_word_76 ?_
              refine x_bald C 58 (hF 58 (by decide)) (pf_58 G nR ad _) (nI_in (N := 400) (show y < 400 by omega) (by omega)) (kk := y) (nI_clamp (by omega)) dX10_word_79 ?_
              refine x_i2l C dX10_word_80 ?_
              refine x_lor C dX10_word_81 ?_
              refine x_goto C (tgt := 86) dX10_word_82 (by decide) ?_
              refine x_lstore_n C (L1 := [(1, .long ((w <<< ((8 : Int32).toInt64 &&& 63)) ||| ((S 58 (y)).toInt64))), (0, .ref (ad 30))]) dX10_word_86 rfl (by decide) rfl ?_
              refine x_aload_n C 1 dX10_word_87 rfl rfl ?_
              refine x_dup C dX10_word_88 rfl ?_
              refine x_get C (T := TX10) (N := 45) (v := .int (nI y)) 30 39 hin10 (hF 30 (by decide)) (pf_30 G nR ad _) rfl (by decide) lk166 rfl rfl dX10_word_89 ?_
              refine x_iconst C dX10_word_92 (v := 1) (by decide) ?_
              refine x_iadd C dX10_word_93 ?_
              refine y_put C (T := TX10) (N := 45) (ty := .int) 30 39 hin10 tyX10 tyX10_ok nmX10 (hF 30 (by decide)) (pf_30 G nR ad _) (pf_30 G nR ad _) rfl (by decide) lk166 rfl rfl (by decide +kernel) rfl rfl (Nat.le_of_ble_eq_true rfl) dX10_word_94 ?_
              refine x_goto C (tgt := 14) dX10_word_97 (by decide) ?_
              refine x_sub [1, 0] (L1 := [(0, .ref (ad 30)), (1, .long ((w <<< ((8 : Int32).toInt64 &&& 63)) ||| ((S 58 (y)).toInt64)))]) rfl ?_
              rw [s2_s2, ← nI_succ]
              have hK : kOf (S 58 y) = 1 := kOf_1.mpr ⟨Int32.not_lt.mp c36, Int32.not_lt.mp c50⟩
              exact ih (y + 1) _ (by omega) hlt (by rw [hye, skK_go hlt hK]) (by rw [show y + 1 - x = (y - x) + 1 by omega, wdV, if_pos (nI_lt' (b := 7) (by rw [← nI_sub hxy]; exact c64) (by omega)), show x + (y - x) = y by omega, hw9]) (by omega)
  refine x_sub [1, 0] (L1 := [(0, .ref (ad 30)), (1, .long (0))]) rfl ?_
  exact lp14 (N + 1) x 0 (Nat.le_refl x) (by omega) rfl (by rw [Nat.sub_self]; rfl) (by omega)

def tkWd (S : tf_M) (N e : Nat) (w : Int64) : tf_M := if wordV (S 58) N e = w then s2 (wordS S N e) 30 31 (nI (wEnd (S 58) 1 N (tkS (S 58) N e))) else wordS S N e
set_option maxHeartbeats 4000000 in
set_option maxRecDepth 100000 in
theorem k_X10_takes (l : Launch) (G : tf_G) (nR : Nat) (LL : List Nat) (ad : Nat → Nat) (hF : ∀ j ∈ tf_fix, j ∈ LL) (S : tf_M) (w : Int64) (N e : Nat) (hN : S 30 30 = nI N) (he : S 30 31 = nI e) (hN4 : N ≤ 400) (heN : e ≤ N) : Ci l yX10_takes wsX10_takes ({ frames := 2, cells := 0, slots := 0, locals := 42 } : Room) G LL ad (pw G nR ad) (pw G nR ad S) [.ref (ad 30), .long (w)] (fun x u => x = bI (decide (wordV (S 58) N e = w)) ∧ u = tkWd S N e w) := by
  have hin10 : ∀ w ∈ u_ws RX10 TX10 45, w ∈ wsX10_takes := by decide +kernel
  have lk166 : Cond.fieldLink RX10 166 "TributeFleetModel" "wordEnd" "I" ∈ wsX10_takes := by decide +kernel
  have lk157 : Cond.fieldLink RX10 157 "TributeFleetModel" "place" "I" ∈ wsX10_takes := by decide +kernel
  refine ci_of (cc := cX10_takes) (maxL := 3) (ret := (some .boolean)) (by decide +kernel) rfl (Nat.le_of_ble_eq_true rfl) ?_
  intro pv ev sv mv args below meth cv A C hrt9 hnm9
  have C : Cx pv sv mv args meth cv cX10_takes 3 RX10 wsX10_takes G A LL ad := C
  show XJ pv l ev _ sv mv args below meth cv G A LL ad _ 3 0 0 _ 0 [(0, .ref (ad 30)), (1, .long (w))] []
  refine x_aload_n C 0 dX10_takes_0 rfl rfl ?_
  refine x_Vl 30 C (k_X10_word l G nR LL ad hF S N e hN he hN4 heN) gX10_takes_X10_word rfl (by decide +kernel) ⟨(Nat.le_of_ble_eq_true rfl), (Nat.le_of_ble_eq_true rfl)⟩ ⟨(Nat.le_of_ble_eq_true rfl), (Nat.le_of_ble_eq_true rfl)⟩ (hF 30 (by decide)) (pf_30 G nR ad _) (T := TX10) (N := 45) rfl (n := 0) rfl (st := []) (Nat.le_of_ble_eq_true rfl) rfl dX10_takes_1 (fun _ _ hr9 => ?_)
  obtain ⟨rfl, rfl⟩ := hr9
  refine x_lload_n C 1 dX10_takes_4 rfl rfl ?_
  refine x_lcmp C dX10_takes_5 ?_
  refine x_if_eq C (tgt := 11) dX10_takes_6 (by decide) (fun c6 => ?_) (fun c6 => ?_)
  · skip
    refine x_aload_n C 0 dX10_takes_11 rfl rfl ?_
    refine x_aload_n C 0 dX10_takes_12 rfl rfl ?_
    refine x_get C (T := TX10) (N := 45) (v := .int ((wordS S N e) 30 39)) 30 39 hin10 (hF 30 (by decide)) (pf_30 G nR ad _) rfl (by decide) lk166 rfl rfl dX10_takes_13 ?_
    refine y_put C (T := TX10) (N := 45) (ty := .int) 30 31 hin10 tyX10 tyX10_ok nmX10 (hF 30 (by decide)) (pf_30 G nR ad _) (pf_30 G nR ad _) rfl (by decide) lk157 rfl rfl (by decide +kernel) rfl rfl (Nat.le_of_ble_eq_true rfl) dX10_takes_16 ?_
    refine x_iconst C dX10_takes_19 (v := 1) (by decide) ?_
    refine x_zret C hrt9 (Or.inr rfl) (s2 (wordS S N e) 30 31 ((wordS S N e) 30 39)) ?_ rfl dX10_takes_20
    rw [lg_cmp_eq] at c6
    unfold tkWd
    rw [decide_eq_true c6, if_pos c6]
    exact ⟨rfl, rfl⟩
  · skip
    refine x_iconst C dX10_takes_9 (v := 0) (by decide) ?_
    refine x_zret C hrt9 (Or.inl rfl) (wordS S N e) ?_ rfl dX10_takes_10
    rw [lg_cmp_eq] at c6
    unfold tkWd
    rw [decide_eq_false c6, if_neg c6]
    exact ⟨rfl, rfl⟩

