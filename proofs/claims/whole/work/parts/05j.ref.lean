/-! the reference's numbers -/
def nmV (T : Nat → Int32) (s : Nat) : Nat → Int32
  | 0 => 0
  | j + 1 => if j < 3 then 10 * nmV T s j + T (s + j) - 48 else nmV T s j
def nmOk (T : Nat → Int32) (N e : Nat) : Bool := !decide (wEnd T 2 N (tkS T N e) = tkS T N e) && decide (wEnd T 2 N (tkS T N e) - tkS T N e ≤ 3)
def nmS (S : tf_M) (N e : Nat) : tf_M := s2 (s2 S 30 31 (nI (tkS (S 58) N e))) 30 40 (nmV (S 58) (tkS (S 58) N e) (wEnd (S 58) 2 N (tkS (S 58) N e) - tkS (S 58) N e))
def nmU (S : tf_M) (N e : Nat) : tf_M := if nmOk (S 58) N e = true then s2 (nmS S N e) 30 31 (nI (wEnd (S 58) 2 N (tkS (S 58) N e))) else nmS S N e
set_option maxHeartbeats 4000000 in
set_option maxRecDepth 100000 in
theorem k_X10_takesNumber (l : Launch) (G : tf_G) (nR : Nat) (LL : List Nat) (ad : Nat → Nat) (hF : ∀ j ∈ tf_fix, j ∈ LL) (S : tf_M) (N e : Nat) (hN : S 30 30 = nI N) (he : S 30 31 = nI e) (hN4 : N ≤ 400) (heN : e ≤ N) : Ci l yX10_takesNumber wsX10_takesNumber ({ frames := 1, cells := 0, slots := 0, locals := 20 } : Room) G LL ad (pw G nR ad) (pw G nR ad S) [.ref (ad 30)] (fun z u => z = bI (nmOk (S 58) N e) ∧ u = nmU S N e) := by
  have hin10 : ∀ w ∈ u_ws RX10 TX10 45, w ∈ wsX10_takesNumber := by decide +kernel
  have lk157 : Cond.fieldLink RX10 157 "TributeFleetModel" "place" "I" ∈ wsX10_takesNumber := by decide +kernel
  have lk173 : Cond.fieldLink RX10 173 "TributeFleetModel" "number" "I" ∈ wsX10_takesNumber := by decide +kernel
  have lk160 : Cond.fieldLink RX10 160 "TributeFleetModel" "size" "I" ∈ wsX10_takesNumber := by decide +kernel
  have lk79 : Cond.fieldLink RX10 79 "TributeFleetModel" "text" "[B" ∈ wsX10_takesNumber := by decide +kernel
  refine ci_of (cc := cX10_takesNumber) (maxL := 2) (ret := (some .boolean)) (by decide +kernel) rfl (Nat.le_of_ble_eq_true rfl) ?_
  intro pv ev sv mv args below meth cv A C hrt9 hnm9
  have C : Cx pv sv mv args meth cv cX10_takesNumber 2 RX10 wsX10_takesNumber G A LL ad := C
  show XJ pv l ev _ sv mv args below meth cv G A LL ad _ 2 0 0 _ 0 [(0, .ref (ad 30))] []
  have j81 : ∀ (x y : Nat) (v : Int32), (x = (tkS (S 58) N e)) → (x ≤ y) → (y ≤ N) → (skK (S 58) 2 x (N - x) = y) → (v = nmV (S 58) x (y - x)) → XJ pv l ev ({ frames := 1, cells := 0, slots := 0, locals := 20 } : Room) sv mv args below meth cv G A LL ad (MQ below (va_Qi (fun z u => z = bI (nmOk (S 58) N e) ∧ u = nmU S N e) (tf_B G LL ad (pw G nR ad)) A) args sv 0 0 A) 2 0 0 (pw G nR ad (s2 (s2 S 30 31 (nI x)) 30 40 v)) 81 [(0, .ref (ad 30)), (1, .int (nI y))] [] := by
    intro x y v hx hxy hyN hye hw9
    refine x_iload_n C 1 dX10_takesNumber_81 rfl rfl ?_
    refine x_aload_n C 0 dX10_takesNumber_82 rfl rfl ?_
    refine x_get C (T := TX10) (N := 45) (v := .int (nI x)) 30 31 hin10 (hF 30 (by decide)) (pf_30 G nR ad _) rfl (by decide) lk157 rfl rfl dX10_takesNumber_83 ?_
    refine x_icmp_eq C (tgt := 99) dX10_takesNumber_86 (by decide) (fun c86 => ?_) (fun c86 => ?_)
    · skip
      refine x_iconst C dX10_takesNumber_99 (v := 0) (by decide) ?_
      refine x_zret C hrt9 (Or.inl rfl) (s2 (s2 S 30 31 (nI x)) 30 40 v) ?_ rfl dX10_takesNumber_100
      have hwe : wEnd (S 58) 2 N (tkS (S 58) N e) = y := by rw [← hx]; exact hye
      have hv9 : nmS S N e = s2 (s2 S 30 31 (nI x)) 30 40 v := by unfold nmS; rw [hwe, ← hx, hw9]
      have ho : nmOk (S 58) N e = false := by
        unfold nmOk
        rw [hwe, ← hx, decide_eq_true (show y = x from nI_inj c86 (by omega) (by omega))]
        rfl
      unfold nmU
      rw [ho, if_neg (by decide), hv9]
      exact ⟨rfl, rfl⟩
    · skip
      refine x_iload_n C 1 dX10_takesNumber_89 rfl rfl ?_
      refine x_aload_n C 0 dX10_takesNumber_90 rfl rfl ?_
      refine x_get C (T := TX10) (N := 45) (v := .int (nI x)) 30 31 hin10 (hF 30 (by decide)) (pf_30 G nR ad _) rfl (by decide) lk157 rfl rfl dX10_takesNumber_91 ?_
      refine x_isub C dX10_takesNumber_94 ?_
      refine x_iconst C dX10_takesNumber_95 (v := 3) (by decide) ?_
      refine x_icmp_le C (tgt := 101) dX10_takesNumber_96 (by decide) (fun c96 => ?_) (fun c96 => ?_)
      · skip
        refine x_aload_n C 0 dX10_takesNumber_101 rfl rfl ?_
        refine x_iload_n C 1 dX10_takesNumber_102 rfl rfl ?_
        refine y_put C (T := TX10) (N := 45) (ty := .int) 30 31 hin10 tyX10 tyX10_ok nmX10 (hF 30 (by decide)) (pf_30 G nR ad _) (pf_30 G nR ad _) rfl (by decide) lk157 rfl rfl (by decide +kernel) rfl rfl (Nat.le_of_ble_eq_true rfl) dX10_takesNumber_103 ?_
        refine x_iconst C dX10_takesNumber_106 (v := 1) (by decide) ?_
        refine x_zret C hrt9 (Or.inr rfl) (s2 (s2 (s2 S 30 31 (nI x)) 30 40 v) 30 31 (nI y)) ?_ rfl dX10_takesNumber_107
        have hwe : wEnd (S 58) 2 N (tkS (S 58) N e) = y := by rw [← hx]; exact hye
        have hv9 : nmS S N e = s2 (s2 S 30 31 (nI x)) 30 40 v := by unfold nmS; rw [hwe, ← hx, hw9]
        have ho : nmOk (S 58) N e = true := by
          unfold nmOk
          rw [hwe, ← hx, decide_eq_false (show ¬ y = x from fun h => c86 (by rw [h])), decide_eq_true (show y - x ≤ 3 from nI_ge' (a := 3) (by rw [← nI_sub hxy]; exact c96) (by omega))]
          rfl
        unfold nmU
        rw [ho, if_pos rfl, hv9, hwe]
        exact ⟨rfl, rfl⟩
      · skip
        refine x_iconst C dX10_takesNumber_99 (v := 0) (by decide) ?_
        refine x_zret C hrt9 (Or.inl rfl) (s2 (s2 S 30 31 (nI x)) 30 40 v) ?_ rfl dX10_takesNumber_100
        have hwe : wEnd (S 58) 2 N (tkS (S 58) N e) = y := by rw [← hx]; exact hye
        have hv9 : nmS S N e = s2 (s2 S 30 31 (nI x)) 30 40 v := by unfold nmS; rw [hwe, ← hx, hw9]
        have ho : nmOk (S 58) N e = false := by
          unfold nmOk
          rw [hwe, ← hx, decide_eq_false (show ¬ y - x ≤ 3 from fun h => c96 (by rw [nI_sub hxy]; exact nI_le (b := 3) h (by decide)))]
          simp
        unfold nmU
        rw [ho, if_neg (by decide), hv9]
        exact ⟨rfl, rfl⟩
  refine x_aload_n C 0 dX10_takesNumber_0 rfl rfl ?_
  refine x_Vv 30 C (k_X10_blanks l G nR LL ad hF S N e hN he hN4 heN) gX10_takesNumber_X10_blanks rfl (by decide +kernel) ⟨(Nat.le_of_ble_eq_true rfl), (Nat.le_of_ble_eq_true rfl)⟩ ⟨(Nat.le_of_ble_eq_true rfl), (Nat.le_of_ble_eq_true rfl)⟩ (hF 30 (by decide)) (pf_30 G nR ad _) (T := TX10) (N := 45) rfl (n := 0) rfl (st := []) (Nat.le_of_ble_eq_true rfl) rfl dX10_takesNumber_1 (fun _ hr9 => ?_)
  subst hr9
  obtain ⟨t1, t2, t3⟩ := tk_le (T := S 58) heN
  obtain ⟨x, hx⟩ : ∃ x, x = (tkS (S 58) N e) := ⟨_, rfl⟩
  rw [← hx] at t1 t2 ⊢
  refine x_aload_n C 0 dX10_takesNumber_4 rfl rfl ?_
  refine x_get C (T := TX10) (N := 45) (v := .int (nI x)) 30 31 hin10 (hF 30 (by decide)) (pf_30 G nR ad _) rfl (by decide) lk157 rfl rfl dX10_takesNumber_5 ?_
  refine x_istore_n C (L1 := [(1, .int (nI x)), (0, .ref (ad 30))]) dX10_takesNumber_8 rfl (by decide) rfl ?_
  refine x_aload_n C 1 dX10_takesNumber_9 rfl rfl ?_
  refine x_iconst C dX10_takesNumber_10 (v := 0) (by decide) ?_
  refine y_put C (T := TX10) (N := 45) (ty := .int) 30 40 hin10 tyX10 tyX10_ok nmX10 (hF 30 (by decide)) (pf_30 G nR ad _) (pf_30 G nR ad _) rfl (by decide) lk173 rfl rfl (by decide +kernel) rfl rfl (Nat.le_of_ble_eq_true rfl) dX10_takesNumber_11 ?_
  have lp14 : ∀ (d9 : Nat) (y : Nat) (v : Int32), (x ≤ y) → (y ≤ N) → (skK (S 58) 2 x (N - x) = skK (S 58) 2 y (N - y)) → (v = nmV (S 58) x (y - x)) → N - y < d9 → XJ pv l ev ({ frames := 1, cells := 0, slots := 0, locals := 20 } : Room) sv mv args below meth cv G A LL ad (MQ below (va_Qi (fun z u => z = bI (nmOk (S 58) N e) ∧ u = nmU S N e) (tf_B G LL ad (pw G nR ad)) A) args sv 0 0 A) 2 0 0 (pw G nR ad (s2 (s2 S 30 31 (nI x)) 30 40 v)) 14 [(0, .ref (ad 30)), (1, .int (nI y))] [] := by
    intro d9
    induction d9 with
    | zero => intro y v hxy hyN hye hw9 hd9; omega
    | succ d9 ih14 =>
      intro y v hxy hyN hye hw9 hd9
      have ih := ih14
      refine x_iload_n C 1 dX10_takesNumber_14 rfl rfl ?_
      refine x_aload_n C 0 dX10_takesNumber_15 rfl rfl ?_
      refine x_get C (T := TX10) (N := 45) (v := .int (S 30 30)) 30 30 hin10 (hF 30 (by decide)) (pf_30 G nR ad _) rfl (by decide) lk160 rfl rfl dX10_takesNumber_16 ?_
      refine x_icmp_ge C (tgt := 81) dX10_takesNumber_19 (by decide) (fun c19 => ?_) (fun c19 => ?_)
      · skip
        exact j81 x y v hx hxy hyN (by rw [hye]; exact skK_stop (fun hlt9 => absurd hlt9 (Nat.not_lt.mpr (nI_ge' (by rw [← hN]; exact c19) (by omega))))) hw9
      · skip
        have hlt : y < N := nI_lt' (by rw [← hN]; exact c19) (by omega)
        refine x_aload_n C 0 dX10_takesNumber_22 rfl rfl ?_
        refine x_get C (T := TX10) (N := 45) (v := .ref (ad 58)) 30 28 hin10 (hF 30 (by decide)) (pf_30 G nR ad _) rfl (by decide) lk79 rfl rfl dX10_takesNumber_23 ?_
        refine x_iload_n C 1 dX10_takesNumber_26 rfl rfl ?_
        refine x_bald C 58 (hF 58 (by decide)) (pf_58 G nR ad _) (nI_in (N := 400) (show y < 400 by omega) (by omega)) (kk := y) (nI_clamp (by omega)) dX10_takesNumber_27 ?_
        refine x_bipush C dX10_takesNumber_28 (v := 48) (by decide) ?_
        refine x_icmp_lt C (tgt := 81) dX10_takesNumber_30 (by decide) (fun c30 => ?_) (fun c30 => ?_)
        · skip
          exact j81 x y v hx hxy hyN (by rw [hye]; exact skK_stop (fun hlt9 => fun h => absurd (kOf_2.mp h).1 (Int32.not_le.mpr c30))) hw9
        · skip
          refine x_aload_n C 0 dX10_takesNumber_33 rfl rfl ?_
          refine x_get C (T := TX10) (N := 45) (v := .ref (ad 58)) 30 28 hin10 (hF 30 (by decide)) (pf_30 G nR ad _) rfl (by decide) lk79 rfl rfl dX10_takesNumber_34 ?_
          refine x_iload_n C 1 dX10_takesNumber_37 rfl rfl ?_
          refine x_bald C 58 (hF 58 (by decide)) (pf_58 G nR ad _) (nI_in (N := 400) (show y < 400 by omega) (by omega)) (kk := y) (nI_clamp (by omega)) dX10_takesNumber_38 ?_
          refine x_bipush C dX10_takesNumber_39 (v := 57) (by decide) ?_
          refine x_icmp_gt C (tgt := 81) dX10_takesNumber_41 (by decide) (fun c41 => ?_) (fun c41 => ?_)
          · skip
            exact j81 x y v hx hxy hyN (by rw [hye]; exact skK_stop (fun hlt9 => fun h => absurd (kOf_2.mp h).2 (Int32.not_le.mpr c41))) hw9
          · skip
            refine x_iload_n C 1 dX10_takesNumber_44 rfl rfl ?_
            refine x_aload_n C 0 dX10_takesNumber_45 rfl rfl ?_
            refine x_get C (T := TX10) (N := 45) (v := .int (nI x)) 30 31 hin10 (hF 30 (by decide)) (pf_30 G nR ad _) rfl (by decide) lk157 rfl rfl dX10_takesNumber_46 ?_
            refine x_isub C dX10_takesNumber_49 ?_
            refine x_iconst C dX10_takesNumber_50 (v := 3) (by decide) ?_
            refine x_icmp_ge C (tgt := 75) dX10_takesNumber_51 (by decide) (fun c51 => ?_) (fun c51 => ?_)
            · skip
              refine x_iinc C (L1 := [(1, .int ((nI y) + 1)), (0, .ref (ad 30))]) 1 dX10_takesNumber_75 rfl rfl (by decide) rfl ?_
              refine x_goto C (tgt := 14) dX10_takesNumber_78 (by decide) ?_
              refine x_sub [1, 0] (L1 := [(0, .ref (ad 30)), (1, .int ((nI y) + 1))]) rfl ?_
              rw [← nI_succ]
              have hK : kOf (S 58 y) = 2 := kOf_2.mpr ⟨Int32.not_lt.mp c30, Int32.not_lt.mp c41⟩
              exact ih (y + 1) _ (by omega) hlt (by rw [hye, skK_go hlt hK]) (by rw [show y + 1 - x = (y - x) + 1 by omega, nmV, if_neg (Nat.not_lt.mpr (nI_ge' (b := 3) (by rw [← nI_sub hxy]; exact c51) (by omega))), hw9]) (by omega)
            · skip
              refine x_aload_n C 0 dX10_takesNumber_54 rfl rfl ?_
              refine x_bipush C dX10_takesNumber_55 (v := 10) (by decide) ?_
              refine x_aload_n C 0 dX10_takesNumber_57 rfl rfl ?_
              refine x_get C (T := TX10) (N := 45) (v := .int v) 30 40 hin10 (hF 30 (by decide)) (pf_30 G nR ad _) rfl (by decide) lk173 rfl rfl dX10_takesNumber_58 ?_
              refine x_imul C dX10_takesNumber_61 ?_
              refine x_aload_n C 0 dX10_takesNumber_62 rfl rfl ?_
              refine x_get C (T := TX10) (N := 45) (v := .ref (ad 58)) 30 28 hin10 (hF 30 (by decide)) (pf_30 G nR ad _) rfl (by decide) lk79 rfl rfl dX10_takesNumber_63 ?_
              refine x_iload_n C 1 dX10_takesNumber_66 rfl rfl ?_
              refine x_bald C 58 (hF 58 (by decide)) (pf_58 G nR ad _) (nI_in (N := 400) (show y < 400 by omega) (by omega)) (kk := y) (nI_clamp (by omega)) dX10_takesNumber_67 ?_
              refine x_iadd C dX10_takesNumber_68 ?_
              refine x_bipush C dX10_takesNumber_69 (v := 48) (by decide) ?_
              refine x_isub C dX10_takesNumber_71 ?_
              refine y_put C (T := TX10) (N := 45) (ty := .int) 30 40 hin10 tyX10 tyX10_ok nmX10 (hF 30 (by decide)) (pf_30 G nR ad _) (pf_30 G nR ad _) rfl (by decide) lk173 rfl rfl (by decide +kernel) rfl rfl (Nat.le_of_ble_eq_true rfl) dX10_takesNumber_72 ?_
              refine x_iinc C (L1 := [(1, .int ((nI y) + 1)), (0, .ref (ad 30))]) 1 dX10_takesNumber_75 rfl rfl (by decide) rfl ?_
              refine x_goto C (tgt := 14) dX10_takesNumber_78 (by decide) ?_
              refine x_sub [1, 0] (L1 := [(0, .ref (ad 30)), (1, .int ((nI y) + 1))]) rfl ?_
              rw [s2_s2, ← nI_succ]
              have hK : kOf (S 58 y) = 2 := kOf_2.mpr ⟨Int32.not_lt.mp c30, Int32.not_lt.mp c41⟩
              exact ih (y + 1) _ (by omega) hlt (by rw [hye, skK_go hlt hK]) (by rw [show y + 1 - x = (y - x) + 1 by omega, nmV, if_pos (nI_lt' (b := 3) (by rw [← nI_sub hxy]; exact c51) (by omega)), show x + (y - x) = y by omega, hw9]; rfl) (by omega)
  refine x_sub [1, 0] (L1 := [(0, .ref (ad 30)), (1, .int (nI x))]) rfl ?_
  exact lp14 (N + 1) x 0 (Nat.le_refl x) (by omega) rfl (by rw [Nat.sub_self]; rfl) (by omega)

