/-! the reference: statutes in force, the next in order, blanks -/
def inF (S : tf_M) (day : Int32) : Nat → Int32
  | 0 => -1
  | k + 1 => if S 65 k ≤ day then nI k else inF S day k
def mAhead (S : tf_M) (i j : Nat) (q : Int32) : Bool :=
  let d := if q = 0 then S 42 j - S 42 i else if q = 1 then S 43 i - S 43 j else 0
  if ¬ d = 0 then decide (0 < d) else decide (i < j)
/-- the first in order of those who haven't gone, as the reference seeks it -/
def mNext (S : tf_M) (q : Int32) : Nat → Int32
  | 0 => -1
  | k + 1 => if S 71 k = 0 ∧ (mNext S q k = -1 ∨ mAhead S k (mNext S q k).toNatClampNeg q = true) then nI k else mNext S q k
theorem mNext_ok {S : tf_M} {q : Int32} : ∀ k, mNext S q k = -1 ∨ ∃ j, j < k ∧ mNext S q k = nI j := by
  intro k
  induction k with
  | zero => exact Or.inl rfl
  | succ k ih =>
    unfold mNext
    split
    · exact Or.inr ⟨k, by omega, rfl⟩
    · rcases ih with h | ⟨j, h1, h2⟩
      · exact Or.inl h
      · exact Or.inr ⟨j, by omega, h2⟩
set_option maxHeartbeats 4000000 in
set_option maxRecDepth 100000 in
theorem k_X10_inForce (l : Launch) (G : tf_G) (nR : Nat) (LL : List Nat) (ad : Nat → Nat) (hF : ∀ j ∈ tf_fix, j ∈ LL) (S : tf_M) (day : Int32) (t : Nat) (ht : S 30 33 = nI t) (ht10 : t ≤ 10) : Ci l yX10_inForce wsX10_inForce ({ frames := 0, cells := 0, slots := 0, locals := 0 } : Room) G LL ad (fun (_ : Unit) => pw G nR ad S) (pw G nR ad S) [.ref (ad 30), .int day] (fun x _ => x = inF S day t) := by
  have hin10 : ∀ w ∈ u_ws RX10 TX10 45, w ∈ wsX10_inForce := by decide +kernel
  have lk202 : Cond.fieldLink RX10 202 "TributeFleetModel" "statutes" "I" ∈ wsX10_inForce := by decide +kernel
  have lk88 : Cond.fieldLink RX10 88 "TributeFleetModel" "taken" "[I" ∈ wsX10_inForce := by decide +kernel
  refine ci_of (cc := cX10_inForce) (maxL := 4) (ret := (some .int)) (by decide +kernel) rfl (Nat.le_of_ble_eq_true rfl) ?_
  intro pv ev sv mv args below meth cv A C hrt9 hnm9
  have C : Cx pv sv mv args meth cv cX10_inForce 4 RX10 wsX10_inForce G A LL ad := C
  show XJ pv l ev _ sv mv args below meth cv G A LL ad _ 4 0 0 _ 0 [(0, .ref (ad 30)), (1, .int day)] []
  refine x_iconst C dX10_inForce_0 (v := -1) (by decide) ?_
  refine x_istore_n C (L1 := [(2, .int (-1)), (0, .ref (ad 30)), (1, .int day)]) dX10_inForce_1 rfl (by decide) rfl ?_
  refine x_iconst C dX10_inForce_2 (v := 0) (by decide) ?_
  refine x_istore_n C (L1 := [(3, .int 0), (2, .int (-1)), (0, .ref (ad 30)), (1, .int day)]) dX10_inForce_3 rfl (by decide) rfl ?_
  have lp4 : ∀ (d9 : Nat) (k : Nat) (b : Int32), (k ≤ t) → (b = inF S day k) → t - k < d9 → XJ pv l ev ({ frames := 0, cells := 0, slots := 0, locals := 0 } : Room) sv mv args below meth cv G A LL ad (MQ below (va_Qi (fun x _ => x = inF S day t) (tf_B G LL ad (fun (_ : Unit) => pw G nR ad S)) A) args sv 0 0 A) 4 0 0 (pw G nR ad S) 4 [(0, .ref (ad 30)), (1, .int day), (2, .int b), (3, .int (nI k))] [] := by
    intro d9
    induction d9 with
    | zero => intro k b hkn e0 hd9; omega
    | succ d9 ih4 =>
      intro k b hkn e0 hd9
      have ih := ih4
      refine x_iload_n C 3 dX10_inForce_4 rfl rfl ?_
      refine x_aload_n C 0 dX10_inForce_5 rfl rfl ?_
      refine x_get C (T := TX10) (N := 45) (v := .int (S 30 33)) 30 33 hin10 (hF 30 (by decide)) (pf_30 G nR ad _) rfl (by decide) lk202 rfl rfl dX10_inForce_6 ?_
      refine x_icmp_ge C (tgt := 30) dX10_inForce_9 (by decide) (fun c9 => ?_) (fun c9 => ?_)
      · skip
        have hge : t ≤ k := nI_ge' (by rw [← ht]; exact c9) (by omega)
        refine x_iload_n C 2 dX10_inForce_30 rfl rfl ?_
        refine x_iret C hrt9 () ?_ rfl dX10_inForce_31
        show _ = _
        rw [e0, show k = t by omega]
      · skip
        have hlt : k < t := nI_lt' (by rw [← ht]; exact c9) (by omega)
        refine x_aload_n C 0 dX10_inForce_12 rfl rfl ?_
        refine x_get C (T := TX10) (N := 45) (v := .ref (ad 65)) 30 35 hin10 (hF 30 (by decide)) (pf_30 G nR ad _) rfl (by decide) lk88 rfl rfl dX10_inForce_13 ?_
        refine x_iload_n C 3 dX10_inForce_16 rfl rfl ?_
        refine x_iald C 65 (hF 65 (by decide)) (pf_65 G nR ad _) (nI_in (N := 11) (show k < 11 by omega) (by omega)) (kk := k) (nI_clamp (by omega)) dX10_inForce_17 ?_
        refine x_iload_n C 1 dX10_inForce_18 rfl rfl ?_
        refine x_icmp_gt C (tgt := 24) dX10_inForce_19 (by decide) (fun c19 => ?_) (fun c19 => ?_)
        · skip
          refine x_iinc C (L1 := [(3, .int ((nI k) + 1)), (0, .ref (ad 30)), (1, .int day), (2, .int b)]) 3 dX10_inForce_24 rfl rfl (by decide) rfl ?_
          refine x_goto C (tgt := 4) dX10_inForce_27 (by decide) ?_
          refine x_sub [1, 2, 3, 0] (L1 := [(0, .ref (ad 30)), (1, .int day), (2, .int b), (3, .int ((nI k) + 1))]) rfl ?_
          rw [← nI_succ]
          exact ih (k + 1) _ (by omega) (by rw [inF, if_neg (Int32.not_le.mpr c19)]; exact e0) (by omega)
        · skip
          refine x_iload_n C 3 dX10_inForce_22 rfl rfl ?_
          refine x_istore_n C (L1 := [(2, .int (nI k)), (0, .ref (ad 30)), (1, .int day), (3, .int (nI k))]) dX10_inForce_23 rfl (by decide) rfl ?_
          refine x_iinc C (L1 := [(3, .int ((nI k) + 1)), (2, .int (nI k)), (0, .ref (ad 30)), (1, .int day)]) 3 dX10_inForce_24 rfl rfl (by decide) rfl ?_
          refine x_goto C (tgt := 4) dX10_inForce_27 (by decide) ?_
          refine x_sub [2, 3, 1, 0] (L1 := [(0, .ref (ad 30)), (1, .int day), (2, .int (nI k)), (3, .int ((nI k) + 1))]) rfl ?_
          rw [← nI_succ]
          exact ih (k + 1) _ (by omega) (by rw [inF, if_pos (Int32.not_lt.mp c19)]) (by omega)
  refine x_sub [2, 3, 1, 0] (L1 := [(0, .ref (ad 30)), (1, .int day), (2, .int (-1)), (3, .int 0)]) rfl ?_
  exact lp4 (t + 1) 0 (-1) (Nat.zero_le _) rfl (by omega)

theorem s2_id {S : tf_M} {j k : Nat} {v : Int32} (h : S j k = v) : s2 S j k v = S := by
  funext a b
  by_cases ha : a = j
  · subst ha
    by_cases hb : b = k
    · subst hb; simp [s2, tf_u, upd, h]
    · simp [s2, tf_u, upd, hb]
  · simp [s2, tf_u, ha]
set_option maxHeartbeats 4000000 in
set_option maxRecDepth 100000 in
theorem k_X10_blanks (l : Launch) (G : tf_G) (nR : Nat) (LL : List Nat) (ad : Nat → Nat) (hF : ∀ j ∈ tf_fix, j ∈ LL) (S : tf_M) (N e : Nat) (hN : S 30 30 = nI N) (he : S 30 31 = nI e) (hN4 : N ≤ 400) (heN : e ≤ N) : Cv l yX10_blanks wsX10_blanks ({ frames := 0, cells := 0, slots := 0, locals := 0 } : Room) G LL ad (pw G nR ad) (pw G nR ad S) [.ref (ad 30)] (fun u => u = s2 S 30 31 (nI (tkS (S 58) N e))) := by
  have hin10 : ∀ w ∈ u_ws RX10 TX10 45, w ∈ wsX10_blanks := by decide +kernel
  have lk157 : Cond.fieldLink RX10 157 "TributeFleetModel" "place" "I" ∈ wsX10_blanks := by decide +kernel
  have lk160 : Cond.fieldLink RX10 160 "TributeFleetModel" "size" "I" ∈ wsX10_blanks := by decide +kernel
  have lk79 : Cond.fieldLink RX10 79 "TributeFleetModel" "text" "[B" ∈ wsX10_blanks := by decide +kernel
  refine cv_of (cc := cX10_blanks) (maxL := 1) (ret := none) (by decide +kernel) rfl (Nat.le_of_ble_eq_true rfl) ?_
  intro pv ev sv mv args below meth cv A C hrt9 hnm9
  have C : Cx pv sv mv args meth cv cX10_blanks 1 RX10 wsX10_blanks G A LL ad := C
  show XJ pv l ev _ sv mv args below meth cv G A LL ad _ 1 0 0 _ 0 [(0, .ref (ad 30))] []
  have lp0 : ∀ (d9 : Nat) (x : Nat), (e ≤ x) → (x ≤ N) → (tkS (S 58) N e = skB (S 58) x (N - x)) → N - x < d9 → XJ pv l ev ({ frames := 0, cells := 0, slots := 0, locals := 0 } : Room) sv mv args below meth cv G A LL ad (MQ below (va_Qv (fun u => u = s2 S 30 31 (nI (tkS (S 58) N e))) (tf_B G LL ad (pw G nR ad)) A) args sv 0 0 A) 1 0 0 (pw G nR ad (s2 S 30 31 (nI x))) 0 [(0, .ref (ad 30))] [] := by
    intro d9
    induction d9 with
    | zero => intro x hex hxN hsk hd9; omega
    | succ d9 ih0 =>
      intro x hex hxN hsk hd9
      have ih := ih0
      refine x_aload_n C 0 dX10_blanks_0 rfl rfl ?_
      refine x_get C (T := TX10) (N := 45) (v := .int (nI x)) 30 31 hin10 (hF 30 (by decide)) (pf_30 G nR ad _) rfl (by decide) lk157 rfl rfl dX10_blanks_1 ?_
      refine x_aload_n C 0 dX10_blanks_4 rfl rfl ?_
      refine x_get C (T := TX10) (N := 45) (v := .int (S 30 30)) 30 30 hin10 (hF 30 (by decide)) (pf_30 G nR ad _) rfl (by decide) lk160 rfl rfl dX10_blanks_5 ?_
      refine x_icmp_ge C (tgt := 52) dX10_blanks_8 (by decide) (fun c8 => ?_) (fun c8 => ?_)
      · skip
        refine x_vret C hrt9 (s2 S 30 31 (nI x)) ?_ rfl dX10_blanks_52
        show _ = _
        have : N ≤ x := nI_ge' (by rw [← hN]; exact c8) (by omega)
        rw [hsk, show N - x = 0 by omega]
        rfl
      · skip
        have hlt : x < N := nI_lt' (by rw [← hN]; exact c8) (by omega)
        refine x_aload_n C 0 dX10_blanks_11 rfl rfl ?_
        refine x_get C (T := TX10) (N := 45) (v := .ref (ad 58)) 30 28 hin10 (hF 30 (by decide)) (pf_30 G nR ad _) rfl (by decide) lk79 rfl rfl dX10_blanks_12 ?_
        refine x_aload_n C 0 dX10_blanks_15 rfl rfl ?_
        refine x_get C (T := TX10) (N := 45) (v := .int (nI x)) 30 31 hin10 (hF 30 (by decide)) (pf_30 G nR ad _) rfl (by decide) lk157 rfl rfl dX10_blanks_16 ?_
        refine x_bald C 58 (hF 58 (by decide)) (pf_58 G nR ad _) (nI_in (N := 400) (show x < 400 by omega) (by omega)) (kk := x) (nI_clamp (by omega)) dX10_blanks_19 ?_
        refine x_bipush C dX10_blanks_20 (v := 32) (by decide) ?_
        refine x_icmp_eq C (tgt := 39) dX10_blanks_22 (by decide) (fun c22 => ?_) (fun c22 => ?_)
        · skip
          refine x_aload_n C 0 dX10_blanks_39 rfl rfl ?_
          refine x_dup C dX10_blanks_40 rfl ?_
          refine x_get C (T := TX10) (N := 45) (v := .int (nI x)) 30 31 hin10 (hF 30 (by decide)) (pf_30 G nR ad _) rfl (by decide) lk157 rfl rfl dX10_blanks_41 ?_
          refine x_iconst C dX10_blanks_44 (v := 1) (by decide) ?_
          refine x_iadd C dX10_blanks_45 ?_
          refine y_put C (T := TX10) (N := 45) (ty := .int) 30 31 hin10 tyX10 tyX10_ok nmX10 (hF 30 (by decide)) (pf_30 G nR ad _) (pf_30 G nR ad _) rfl (by decide) lk157 rfl rfl (by decide +kernel) rfl rfl (Nat.le_of_ble_eq_true rfl) dX10_blanks_46 ?_
          refine x_goto C (tgt := 0) dX10_blanks_49 (by decide) ?_
          rw [s2_s2, ← nI_succ]
          exact ih (x + 1) (by omega) hlt (by rw [hsk, show N - x = (N - (x + 1)) + 1 by omega, skB, if_pos (show blk (S 58 x) = true by simp [blk, show S 58 x = 32 from c22])]) (by omega)
        · skip
          refine x_aload_n C 0 dX10_blanks_25 rfl rfl ?_
          refine x_get C (T := TX10) (N := 45) (v := .ref (ad 58)) 30 28 hin10 (hF 30 (by decide)) (pf_30 G nR ad _) rfl (by decide) lk79 rfl rfl dX10_blanks_26 ?_
          refine x_aload_n C 0 dX10_blanks_29 rfl rfl ?_
          refine x_get C (T := TX10) (N := 45) (v := .int (nI x)) 30 31 hin10 (hF 30 (by decide)) (pf_30 G nR ad _) rfl (by decide) lk157 rfl rfl dX10_blanks_30 ?_
          refine x_bald C 58 (hF 58 (by decide)) (pf_58 G nR ad _) (nI_in (N := 400) (show x < 400 by omega) (by omega)) (kk := x) (nI_clamp (by omega)) dX10_blanks_33 ?_
          refine x_bipush C dX10_blanks_34 (v := 10) (by decide) ?_
          refine x_icmp_ne C (tgt := 52) dX10_blanks_36 (by decide) (fun c36 => ?_) (fun c36 => ?_)
          · skip
            refine x_vret C hrt9 (s2 S 30 31 (nI x)) ?_ rfl dX10_blanks_52
            show _ = _
            rw [hsk, show N - x = (N - (x + 1)) + 1 by omega, skB, if_neg (by simp [blk, show ¬ S 58 x = 32 from c22, show ¬ S 58 x = 10 from c36])]
          · skip
            refine x_aload_n C 0 dX10_blanks_39 rfl rfl ?_
            refine x_dup C dX10_blanks_40 rfl ?_
            refine x_get C (T := TX10) (N := 45) (v := .int (nI x)) 30 31 hin10 (hF 30 (by decide)) (pf_30 G nR ad _) rfl (by decide) lk157 rfl rfl dX10_blanks_41 ?_
            refine x_iconst C dX10_blanks_44 (v := 1) (by decide) ?_
            refine x_iadd C dX10_blanks_45 ?_
            refine y_put C (T := TX10) (N := 45) (ty := .int) 30 31 hin10 tyX10 tyX10_ok nmX10 (hF 30 (by decide)) (pf_30 G nR ad _) (pf_30 G nR ad _) rfl (by decide) lk157 rfl rfl (by decide +kernel) rfl rfl (Nat.le_of_ble_eq_true rfl) dX10_blanks_46 ?_
            refine x_goto C (tgt := 0) dX10_blanks_49 (by decide) ?_
            rw [s2_s2, ← nI_succ]
            exact ih (x + 1) (by omega) hlt (by rw [hsk, show N - x = (N - (x + 1)) + 1 by omega, skB, if_pos (show blk (S 58 x) = true by simp [blk, show S 58 x = 10 from c36])]) (by omega)
  have h9 := lp0 (N + 1) e (Nat.le_refl e) heN rfl (by omega)
  rw [s2_id he] at h9
  exact h9

