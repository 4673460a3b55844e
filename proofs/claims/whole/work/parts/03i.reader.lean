/-! the reader of statutes: T the bytes, N their number, e where the last token ended -/
def blk (x : Int32) : Bool := decide (x = 32) || decide (x = 10)
def kOf (x : Int32) : Int32 := if 97 ≤ x ∧ x ≤ 122 then 1 else if 48 ≤ x ∧ x ≤ 57 then 2 else if x = 59 then 3 else 4
def skB (T : Nat → Int32) (x : Nat) : Nat → Nat
  | 0 => x
  | r + 1 => if blk (T x) = true then skB T (x + 1) r else x
def skK (T : Nat → Int32) (kd : Int32) (x : Nat) : Nat → Nat
  | 0 => x
  | r + 1 => if kOf (T x) = kd then skK T kd (x + 1) r else x
def tkS (T : Nat → Int32) (N e : Nat) : Nat := skB T e (N - e)
def tkK (T : Nat → Int32) (N e : Nat) : Int32 := if N ≤ tkS T N e then 0 else kOf (T (tkS T N e))
def tkE (T : Nat → Int32) (N e : Nat) : Nat := if N ≤ tkS T N e then tkS T N e else if tkK T N e = 1 ∨ tkK T N e = 2 then skK T (tkK T N e) (tkS T N e + 1) (N - (tkS T N e + 1)) else tkS T N e + 1
def stepS (S : tf_M) (N e : Nat) : tf_M := s2 (s2 (s2 S 12 2 (nI (tkS (S 11) N e))) 12 4 (tkK (S 11) N e)) 12 3 (nI (tkE (S 11) N e))
theorem s2_s2 {S : tf_M} {j k : Nat} {v w : Int32} : s2 (s2 S j k v) j k w = s2 S j k w := by
  funext a b
  by_cases ha : a = j
  · subst ha; by_cases hb : b = k <;> simp [s2, tf_u, upd, hb]
  · simp [s2, tf_u, ha]
theorem s2_sw {S : tf_M} {j k k' : Nat} {v w : Int32} (h : k ≠ k') : s2 (s2 S j k v) j k' w = s2 (s2 S j k' w) j k v := by
  funext a b
  by_cases ha : a = j
  · subst ha
    by_cases hb : b = k
    · subst hb; simp [s2, tf_u, upd, h]
    · simp [s2, tf_u, upd, hb]
  · simp [s2, tf_u, ha]
theorem tapeAt_k {S1 S : tf_M} {x k : Nat} (h10 : S1 10 = S 10) (h11 : S1 11 = S 11) (hk : S 10 1 = nI k) (hx : x < k) (hk4 : k ≤ 400) : tapeAt S1 (nI x) = S 11 x := by
  unfold tapeAt
  rw [h10, h11, hk, if_pos (isP_k hx (by omega)), nI_clamp (by omega)]
theorem skB_le {T : Nat → Int32} : ∀ (r x : Nat), x ≤ skB T x r ∧ skB T x r ≤ x + r := by
  intro r
  induction r with
  | zero => intro x; simp [skB]
  | succ r ih =>
    intro x
    unfold skB
    split
    · have := ih (x + 1); omega
    · omega
theorem skK_le {T : Nat → Int32} {kd : Int32} : ∀ (r x : Nat), x ≤ skK T kd x r ∧ skK T kd x r ≤ x + r := by
  intro r
  induction r with
  | zero => intro x; simp [skK]
  | succ r ih =>
    intro x
    unfold skK
    split
    · have := ih (x + 1); omega
    · omega
theorem tk_le {T : Nat → Int32} {N e : Nat} (h : e ≤ N) : e ≤ tkS T N e ∧ tkS T N e ≤ tkE T N e ∧ tkE T N e ≤ N := by
  have h1 := skB_le (T := T) (N - e) e
  have h2 := skK_le (T := T) (kd := tkK T N e) (N - (tkS T N e + 1)) (tkS T N e + 1)
  unfold tkE
  have h3 : tkS T N e = skB T e (N - e) := rfl
  split
  · omega
  · split <;> omega
set_option maxHeartbeats 4000000 in
set_option maxRecDepth 100000 in
theorem k_X4_isBlank (l : Launch) (G : tf_G) (LL : List Nat) (ad : Nat → Nat) (P : Nat → va_E) (x : Int32) : Ci l yX4_isBlank wsX4_isBlank ({ frames := 0, cells := 0, slots := 0, locals := 0 } : Room) G LL ad (fun (_ : Unit) => P) P [.int x] (fun r _ => r = bI (blk x)) := by
  refine ci_of (cc := cX4_isBlank) (maxL := 1) (ret := (some .boolean)) (by decide +kernel) rfl (Nat.le_of_ble_eq_true rfl) ?_
  intro pv ev sv mv args below meth cv A C hrt9 hnm9
  have C : Cx pv sv mv args meth cv cX4_isBlank 1 RX4 wsX4_isBlank G A LL ad := C
  show XJ pv l ev _ sv mv args below meth cv G A LL ad _ 1 0 0 _ 0 [(0, .int x)] []
  refine x_iload_n C 0 dX4_isBlank_0 rfl rfl ?_
  refine x_bipush C dX4_isBlank_1 (v := 32) (by decide) ?_
  refine x_icmp_eq C (tgt := 12) dX4_isBlank_3 (by decide) (fun c3 => ?_) (fun c3 => ?_)
  · skip
    refine x_iconst C dX4_isBlank_12 (v := 1) (by decide) ?_
    refine x_goto C (tgt := 17) dX4_isBlank_13 (by decide) ?_
    refine x_zret C hrt9 (Or.inr rfl) () ?_ rfl dX4_isBlank_17
    show _ = _
    simp [blk, bI]; simp_all
  · skip
    refine x_iload_n C 0 dX4_isBlank_6 rfl rfl ?_
    refine x_bipush C dX4_isBlank_7 (v := 10) (by decide) ?_
    refine x_icmp_ne C (tgt := 16) dX4_isBlank_9 (by decide) (fun c9 => ?_) (fun c9 => ?_)
    · skip
      refine x_iconst C dX4_isBlank_16 (v := 0) (by decide) ?_
      refine x_zret C hrt9 (Or.inl rfl) () ?_ rfl dX4_isBlank_17
      show _ = _
      simp [blk, bI]; simp_all
    · skip
      refine x_iconst C dX4_isBlank_12 (v := 1) (by decide) ?_
      refine x_goto C (tgt := 17) dX4_isBlank_13 (by decide) ?_
      refine x_zret C hrt9 (Or.inr rfl) () ?_ rfl dX4_isBlank_17
      show _ = _
      simp [blk, bI]; simp_all

set_option maxHeartbeats 4000000 in
set_option maxRecDepth 100000 in
theorem k_X4_kindOf (l : Launch) (G : tf_G) (LL : List Nat) (ad : Nat → Nat) (P : Nat → va_E) (x : Int32) : Ci l yX4_kindOf wsX4_kindOf ({ frames := 0, cells := 0, slots := 0, locals := 0 } : Room) G LL ad (fun (_ : Unit) => P) P [.int x] (fun r _ => r = kOf x) := by
  refine ci_of (cc := cX4_kindOf) (maxL := 1) (ret := (some .int)) (by decide +kernel) rfl (Nat.le_of_ble_eq_true rfl) ?_
  intro pv ev sv mv args below meth cv A C hrt9 hnm9
  have C : Cx pv sv mv args meth cv cX4_kindOf 1 RX4 wsX4_kindOf G A LL ad := C
  show XJ pv l ev _ sv mv args below meth cv G A LL ad _ 1 0 0 _ 0 [(0, .int x)] []
  refine x_iload_n C 0 dX4_kindOf_0 rfl rfl ?_
  refine x_bipush C dX4_kindOf_1 (v := 97) (by decide) ?_
  refine x_icmp_lt C (tgt := 14) dX4_kindOf_3 (by decide) (fun c3 => ?_) (fun c3 => ?_)
  · skip
    refine x_iload_n C 0 dX4_kindOf_14 rfl rfl ?_
    refine x_bipush C dX4_kindOf_15 (v := 48) (by decide) ?_
    refine x_icmp_lt C (tgt := 28) dX4_kindOf_17 (by decide) (fun c17 => ?_) (fun c17 => ?_)
    · skip
      refine x_iload_n C 0 dX4_kindOf_28 rfl rfl ?_
      refine x_bipush C dX4_kindOf_29 (v := 59) (by decide) ?_
      refine x_icmp_ne C (tgt := 38) dX4_kindOf_31 (by decide) (fun c31 => ?_) (fun c31 => ?_)
      · skip
        refine x_iconst C dX4_kindOf_38 (v := 4) (by decide) ?_
        refine x_iret C hrt9 () ?_ rfl dX4_kindOf_39
        show _ = _
        simp only [kOf]
        simp_all [← Int32.not_le]
      · skip
        refine x_iconst C dX4_kindOf_34 (v := 3) (by decide) ?_
        refine x_goto C (tgt := 39) dX4_kindOf_35 (by decide) ?_
        refine x_iret C hrt9 () ?_ rfl dX4_kindOf_39
        show _ = _
        simp only [kOf]
        simp_all [← Int32.not_le]
    · skip
      refine x_iload_n C 0 dX4_kindOf_20 rfl rfl ?_
      refine x_bipush C dX4_kindOf_21 (v := 57) (by decide) ?_
      refine x_icmp_gt C (tgt := 28) dX4_kindOf_23 (by decide) (fun c23 => ?_) (fun c23 => ?_)
      · skip
        refine x_iload_n C 0 dX4_kindOf_28 rfl rfl ?_
        refine x_bipush C dX4_kindOf_29 (v := 59) (by decide) ?_
        refine x_icmp_ne C (tgt := 38) dX4_kindOf_31 (by decide) (fun c31 => ?_) (fun c31 => ?_)
        · skip
          refine x_iconst C dX4_kindOf_38 (v := 4) (by decide) ?_
          refine x_iret C hrt9 () ?_ rfl dX4_kindOf_39
          show _ = _
          simp only [kOf]
          simp_all [← Int32.not_le]
        · skip
          refine x_iconst C dX4_kindOf_34 (v := 3) (by decide) ?_
          refine x_goto C (tgt := 39) dX4_kindOf_35 (by decide) ?_
          refine x_iret C hrt9 () ?_ rfl dX4_kindOf_39
          show _ = _
          simp only [kOf]
          simp_all [← Int32.not_le]
      · skip
        refine x_iconst C dX4_kindOf_26 (v := 2) (by decide) ?_
        refine x_iret C hrt9 () ?_ rfl dX4_kindOf_27
        show _ = _
        simp only [kOf]
        simp_all [← Int32.not_le]
  · skip
    refine x_iload_n C 0 dX4_kindOf_6 rfl rfl ?_
    refine x_bipush C dX4_kindOf_7 (v := 122) (by decide) ?_
    refine x_icmp_gt C (tgt := 14) dX4_kindOf_9 (by decide) (fun c9 => ?_) (fun c9 => ?_)
    · skip
      refine x_iload_n C 0 dX4_kindOf_14 rfl rfl ?_
      refine x_bipush C dX4_kindOf_15 (v := 48) (by decide) ?_
      refine x_icmp_lt C (tgt := 28) dX4_kindOf_17 (by decide) (fun c17 => ?_) (fun c17 => ?_)
      · skip
        refine x_iload_n C 0 dX4_kindOf_28 rfl rfl ?_
        refine x_bipush C dX4_kindOf_29 (v := 59) (by decide) ?_
        refine x_icmp_ne C (tgt := 38) dX4_kindOf_31 (by decide) (fun c31 => ?_) (fun c31 => ?_)
        · skip
          refine x_iconst C dX4_kindOf_38 (v := 4) (by decide) ?_
          refine x_iret C hrt9 () ?_ rfl dX4_kindOf_39
          show _ = _
          simp only [kOf]
          simp_all [← Int32.not_le]
        · skip
          refine x_iconst C dX4_kindOf_34 (v := 3) (by decide) ?_
          refine x_goto C (tgt := 39) dX4_kindOf_35 (by decide) ?_
          refine x_iret C hrt9 () ?_ rfl dX4_kindOf_39
          show _ = _
          simp only [kOf]
          simp_all [← Int32.not_le]
      · skip
        refine x_iload_n C 0 dX4_kindOf_20 rfl rfl ?_
        refine x_bipush C dX4_kindOf_21 (v := 57) (by decide) ?_
        refine x_icmp_gt C (tgt := 28) dX4_kindOf_23 (by decide) (fun c23 => ?_) (fun c23 => ?_)
        · skip
          refine x_iload_n C 0 dX4_kindOf_28 rfl rfl ?_
          refine x_bipush C dX4_kindOf_29 (v := 59) (by decide) ?_
          refine x_icmp_ne C (tgt := 38) dX4_kindOf_31 (by decide) (fun c31 => ?_) (fun c31 => ?_)
          · skip
            refine x_iconst C dX4_kindOf_38 (v := 4) (by decide) ?_
            refine x_iret C hrt9 () ?_ rfl dX4_kindOf_39
            show _ = _
            simp only [kOf]
            simp_all [← Int32.not_le]
          · skip
            refine x_iconst C dX4_kindOf_34 (v := 3) (by decide) ?_
            refine x_goto C (tgt := 39) dX4_kindOf_35 (by decide) ?_
            refine x_iret C hrt9 () ?_ rfl dX4_kindOf_39
            show _ = _
            simp only [kOf]
            simp_all [← Int32.not_le]
        · skip
          refine x_iconst C dX4_kindOf_26 (v := 2) (by decide) ?_
          refine x_iret C hrt9 () ?_ rfl dX4_kindOf_27
          show _ = _
          simp only [kOf]
          simp_all [← Int32.not_le]
    · skip
      refine x_iconst C dX4_kindOf_12 (v := 1) (by decide) ?_
      refine x_iret C hrt9 () ?_ rfl dX4_kindOf_13
      show _ = _
      simp only [kOf]
      simp_all [← Int32.not_le]

set_option maxHeartbeats 4000000 in
set_option maxRecDepth 100000 in
theorem k_X4_step (l : Launch) (G : tf_G) (nR : Nat) (LL : List Nat) (ad : Nat → Nat) (hF : ∀ j ∈ tf_fix, j ∈ LL) (S : tf_M) (N e k : Nat) (hN : S 12 1 = nI N) (he : S 12 3 = nI e) (hk : S 10 1 = nI k) (hNk : N ≤ k) (hk4 : k ≤ 400) (heN : e ≤ N) : Cv l yX4_step wsX4_step ({ frames := 1, cells := 0, slots := 0, locals := 21 } : Room) G LL ad (pw G nR ad) (pw G nR ad S) [.ref (ad 12)] (fun u => u = stepS S N e) := by
  have hin4 : ∀ w ∈ u_ws RX4 TX4 5, w ∈ wsX4_step := by decide +kernel
  have lk19 : Cond.fieldLink RX4 19 "TributeFleet$Reader" "start" "I" ∈ wsX4_step := by decide +kernel
  have lk22 : Cond.fieldLink RX4 22 "TributeFleet$Reader" "end" "I" ∈ wsX4_step := by decide +kernel
  have lk15 : Cond.fieldLink RX4 15 "TributeFleet$Reader" "length" "I" ∈ wsX4_step := by decide +kernel
  have lk9 : Cond.fieldLink RX4 9 "TributeFleet$Reader" "tape" "LTributeFleet$Tape;" ∈ wsX4_step := by decide +kernel
  have lk25 : Cond.fieldLink RX4 25 "TributeFleet$Reader" "kind" "I" ∈ wsX4_step := by decide +kernel
  refine cv_of (cc := cX4_step) (maxL := 1) (ret := none) (by decide +kernel) rfl (Nat.le_of_ble_eq_true rfl) ?_
  intro pv ev sv mv args below meth cv A C hrt9 hnm9
  have C : Cx pv sv mv args meth cv cX4_step 1 RX4 wsX4_step G A LL ad := C
  show XJ pv l ev _ sv mv args below meth cv G A LL ad _ 1 0 0 _ 0 [(0, .ref (ad 12))] []
  have j49 : ∀ (x : Nat), (e ≤ x) → (x ≤ N) → (tkS (S 11) N e = x) → XJ pv l ev ({ frames := 1, cells := 0, slots := 0, locals := 21 } : Room) sv mv args below meth cv G A LL ad (MQ below (va_Qv (fun u => u = stepS S N e) (tf_B G LL ad (pw G nR ad)) A) args sv 0 0 A) 1 0 0 (pw G nR ad (s2 S 12 2 (nI x))) 49 [(0, .ref (ad 12))] [] := by
    intro x hex hxN hs
    refine x_aload_n C 0 dX4_step_49 rfl rfl ?_
    refine x_aload_n C 0 dX4_step_50 rfl rfl ?_
    refine x_get C (T := TX4) (N := 5) (v := .int (nI x)) 12 2 hin4 (hF 12 (by decide)) (pf_12 G nR ad _) rfl (by decide) lk19 rfl rfl dX4_step_51 ?_
    refine y_put C (T := TX4) (N := 5) (ty := .int) 12 3 hin4 tyX4 tyX4_ok nmX4 (hF 12 (by decide)) (pf_12 G nR ad _) (pf_12 G nR ad _) rfl (by decide) lk22 rfl rfl (by decide +kernel) rfl rfl (Nat.le_of_ble_eq_true rfl) dX4_step_54 ?_
    refine x_aload_n C 0 dX4_step_57 rfl rfl ?_
    refine x_get C (T := TX4) (N := 5) (v := .int (nI x)) 12 2 hin4 (hF 12 (by decide)) (pf_12 G nR ad _) rfl (by decide) lk19 rfl rfl dX4_step_58 ?_
    refine x_aload_n C 0 dX4_step_61 rfl rfl ?_
    refine x_get C (T := TX4) (N := 5) (v := .int (S 12 1)) 12 1 hin4 (hF 12 (by decide)) (pf_12 G nR ad _) rfl (by decide) lk15 rfl rfl dX4_step_62 ?_
    refine x_icmp_lt C (tgt := 74) dX4_step_65 (by decide) (fun c65 => ?_) (fun c65 => ?_)
    · skip
      have hlt2 : x < N := nI_lt2 (by rw [← hN]; exact c65) (by omega)
      have hK : tkK (S 11) N e = kOf (S 11 x) := by unfold tkK; rw [if_neg (by rw [hs]; omega), hs]
      refine x_aload_n C 0 dX4_step_74 rfl rfl ?_
      refine x_aload_n C 0 dX4_step_75 rfl rfl ?_
      refine x_get C (T := TX4) (N := 5) (v := .ref (ad 10)) 12 0 hin4 (hF 12 (by decide)) (pf_12 G nR ad _) rfl (by decide) lk9 rfl rfl dX4_step_76 ?_
      refine x_aload_n C 0 dX4_step_79 rfl rfl ?_
      refine x_get C (T := TX4) (N := 5) (v := .int (nI x)) 12 2 hin4 (hF 12 (by decide)) (pf_12 G nR ad _) rfl (by decide) lk19 rfl rfl dX4_step_80 ?_
      refine x_Vi 10 C (k_X8_at l G nR LL ad hF (s2 (s2 S 12 2 (nI x)) 12 3 (nI x)) (nI x) k hk hk4) gX4_step_X8_at rfl (by decide +kernel) ⟨(Nat.le_of_ble_eq_true rfl), (Nat.le_of_ble_eq_true rfl)⟩ ⟨(Nat.le_of_ble_eq_true rfl), (Nat.le_of_ble_eq_true rfl)⟩ (hF 10 (by decide)) (pf_10 G nR ad _) (T := TX8) (N := 2) rfl (n := 1) rfl (st := [.ref (ad 12)]) (Nat.le_of_ble_eq_true rfl) rfl dX4_step_83 (fun r9 _ hr9 => ?_)
      obtain rfl : r9 = S 11 x := by rw [hr9]; exact tapeAt_k rfl rfl hk (by omega) hk4
      refine x_Si C (k_X4_kindOf l G LL ad _ (S 11 x)) gX4_step_X4_kindOf rfl (by decide +kernel) ⟨(Nat.le_of_ble_eq_true rfl), (Nat.le_of_ble_eq_true rfl)⟩ ⟨(Nat.le_of_ble_eq_true rfl), (Nat.le_of_ble_eq_true rfl)⟩ (n := 1) rfl (st := [.ref (ad 12)]) (Nat.le_of_ble_eq_true rfl) rfl dX4_step_86 (fun _ _ hr9 => ?_)
      subst hr9
      refine y_put C (T := TX4) (N := 5) (ty := .int) 12 4 hin4 tyX4 tyX4_ok nmX4 (hF 12 (by decide)) (pf_12 G nR ad _) (pf_12 G nR ad _) rfl (by decide) lk25 rfl rfl (by decide +kernel) rfl rfl (Nat.le_of_ble_eq_true rfl) dX4_step_89 ?_
      refine x_aload_n C 0 dX4_step_92 rfl rfl ?_
      refine x_dup C dX4_step_93 rfl ?_
      refine x_get C (T := TX4) (N := 5) (v := .int (nI x)) 12 3 hin4 (hF 12 (by decide)) (pf_12 G nR ad _) rfl (by decide) lk22 rfl rfl dX4_step_94 ?_
      refine x_iconst C dX4_step_97 (v := 1) (by decide) ?_
      refine x_iadd C dX4_step_98 ?_
      refine y_put C (T := TX4) (N := 5) (ty := .int) 12 3 hin4 tyX4 tyX4_ok nmX4 (hF 12 (by decide)) (pf_12 G nR ad _) (pf_12 G nR ad _) rfl (by decide) lk22 rfl rfl (by decide +kernel) rfl rfl (Nat.le_of_ble_eq_true rfl) dX4_step_99 ?_
      rw [show (s2 (s2 (s2 (s2 S 12 2 (nI x)) 12 3 (nI x)) 12 4 (kOf (S 11 x))) 12 3 ((nI x) + 1)) = (s2 (s2 (s2 S 12 2 (nI x)) 12 4 (kOf (S 11 x))) 12 3 (nI (x + 1))) by rw [s2_sw (by decide), s2_s2, ← nI_succ]; rw [s2_sw (S := s2 S 12 2 (nI x)) (by decide)]]
      refine x_aload_n C 0 dX4_step_102 rfl rfl ?_
      refine x_get C (T := TX4) (N := 5) (v := .int (kOf (S 11 x))) 12 4 hin4 (hF 12 (by decide)) (pf_12 G nR ad _) rfl (by decide) lk25 rfl rfl dX4_step_103 ?_
      refine x_iconst C dX4_step_106 (v := 1) (by decide) ?_
      refine x_icmp_eq C (tgt := 118) dX4_step_107 (by decide) (fun c107 => ?_) (fun c107 => ?_)
      · skip
        have lp118 : ∀ (d9 : Nat) (y : Nat), (x + 1 ≤ y) → (y ≤ N) → (tkE (S 11) N e = skK (S 11) (kOf (S 11 x)) y (N - y)) → N - y < d9 → XJ pv l ev ({ frames := 1, cells := 0, slots := 0, locals := 21 } : Room) sv mv args below meth cv G A LL ad (MQ below (va_Qv (fun u => u = stepS S N e) (tf_B G LL ad (pw G nR ad)) A) args sv 0 0 A) 1 0 0 (pw G nR ad (s2 (s2 (s2 S 12 2 (nI x)) 12 4 (kOf (S 11 x))) 12 3 (nI y))) 118 [(0, .ref (ad 12))] [] := by
          intro d9
          induction d9 with
          | zero => intro y hxy hyN hy hd9; omega
          | succ d9 ih118 =>
            intro y hxy hyN hy hd9
            have ih := ih118
            refine x_aload_n C 0 dX4_step_118 rfl rfl ?_
            refine x_get C (T := TX4) (N := 5) (v := .int (nI y)) 12 3 hin4 (hF 12 (by decide)) (pf_12 G nR ad _) rfl (by decide) lk22 rfl rfl dX4_step_119 ?_
            refine x_aload_n C 0 dX4_step_122 rfl rfl ?_
            refine x_get C (T := TX4) (N := 5) (v := .int (S 12 1)) 12 1 hin4 (hF 12 (by decide)) (pf_12 G nR ad _) rfl (by decide) lk15 rfl rfl dX4_step_123 ?_
            refine x_icmp_ge C (tgt := 163) dX4_step_126 (by decide) (fun c126 => ?_) (fun c126 => ?_)
            · skip
              refine x_vret C hrt9 (s2 (s2 (s2 S 12 2 (nI x)) 12 4 (kOf (S 11 x))) 12 3 (nI y)) ?_ rfl dX4_step_163
              show _ = _
              unfold stepS
              rw [hs, hK, hy, show N - y = 0 by have : N ≤ y := nI_ge' (by rw [← hN]; exact c126) (by omega); omega]
              rfl
            · skip
              have hlt3 : y < N := nI_lt' (by rw [← hN]; exact c126) (by omega)
              refine x_aload_n C 0 dX4_step_129 rfl rfl ?_
              refine x_get C (T := TX4) (N := 5) (v := .ref (ad 10)) 12 0 hin4 (hF 12 (by decide)) (pf_12 G nR ad _) rfl (by decide) lk9 rfl rfl dX4_step_130 ?_
              refine x_aload_n C 0 dX4_step_133 rfl rfl ?_
              refine x_get C (T := TX4) (N := 5) (v := .int (nI y)) 12 3 hin4 (hF 12 (by decide)) (pf_12 G nR ad _) rfl (by decide) lk22 rfl rfl dX4_step_134 ?_
              refine x_Vi 10 C (k_X8_at l G nR LL ad hF (s2 (s2 (s2 S 12 2 (nI x)) 12 4 (kOf (S 11 x))) 12 3 (nI y)) (nI y) k hk hk4) gX4_step_X8_at rfl (by decide +kernel) ⟨(Nat.le_of_ble_eq_true rfl), (Nat.le_of_ble_eq_true rfl)⟩ ⟨(Nat.le_of_ble_eq_true rfl), (Nat.le_of_ble_eq_true rfl)⟩ (hF 10 (by decide)) (pf_10 G nR ad _) (T := TX8) (N := 2) rfl (n := 1) rfl (st := []) (Nat.le_of_ble_eq_true rfl) rfl dX4_step_137 (fun r9 _ hr9 => ?_)
              obtain rfl : r9 = S 11 y := by rw [hr9]; exact tapeAt_k rfl rfl hk (by omega) hk4
              refine x_Si C (k_X4_kindOf l G LL ad _ (S 11 y)) gX4_step_X4_kindOf rfl (by decide +kernel) ⟨(Nat.le_of_ble_eq_true rfl), (Nat.le_of_ble_eq_true rfl)⟩ ⟨(Nat.le_of_ble_eq_true rfl), (Nat.le_of_ble_eq_true rfl)⟩ (n := 1) rfl (st := []) (Nat.le_of_ble_eq_true rfl) rfl dX4_step_140 (fun _ _ hr9 => ?_)
              subst hr9
              refine x_aload_n C 0 dX4_step_143 rfl rfl ?_
              refine x_get C (T := TX4) (N := 5) (v := .int (kOf (S 11 x))) 12 4 hin4 (hF 12 (by decide)) (pf_12 G nR ad _) rfl (by decide) lk25 rfl rfl dX4_step_144 ?_
              refine x_icmp_ne C (tgt := 163) dX4_step_147 (by decide) (fun c147 => ?_) (fun c147 => ?_)
              · skip
                refine x_vret C hrt9 (s2 (s2 (s2 S 12 2 (nI x)) 12 4 (kOf (S 11 x))) 12 3 (nI y)) ?_ rfl dX4_step_163
                show _ = _
                unfold stepS
                rw [hs, hK, hy, show N - y = (N - (y + 1)) + 1 by omega, skK, if_neg c147]
              · skip
                refine x_aload_n C 0 dX4_step_150 rfl rfl ?_
                refine x_dup C dX4_step_151 rfl ?_
                refine x_get C (T := TX4) (N := 5) (v := .int (nI y)) 12 3 hin4 (hF 12 (by decide)) (pf_12 G nR ad _) rfl (by decide) lk22 rfl rfl dX4_step_152 ?_
                refine x_iconst C dX4_step_155 (v := 1) (by decide) ?_
                refine x_iadd C dX4_step_156 ?_
                refine y_put C (T := TX4) (N := 5) (ty := .int) 12 3 hin4 tyX4 tyX4_ok nmX4 (hF 12 (by decide)) (pf_12 G nR ad _) (pf_12 G nR ad _) rfl (by decide) lk22 rfl rfl (by decide +kernel) rfl rfl (Nat.le_of_ble_eq_true rfl) dX4_step_157 ?_
                refine x_goto C (tgt := 118) dX4_step_160 (by decide) ?_
                rw [s2_s2, ← nI_succ]
                exact ih (y + 1) (by omega) hlt3 (by rw [hy, show N - y = (N - (y + 1)) + 1 by omega, skK, if_pos c147]) (by omega)
        exact lp118 (N + 1) (x + 1) (Nat.le_refl _) hlt2 (by unfold tkE; rw [if_neg (by rw [hs]; omega), if_pos (show tkK (S 11) N e = 1 ∨ tkK (S 11) N e = 2 by rw [hK]; exact Or.inl c107), hK, hs]) (by omega)
      · skip
        refine x_aload_n C 0 dX4_step_110 rfl rfl ?_
        refine x_get C (T := TX4) (N := 5) (v := .int (kOf (S 11 x))) 12 4 hin4 (hF 12 (by decide)) (pf_12 G nR ad _) rfl (by decide) lk25 rfl rfl dX4_step_111 ?_
        refine x_iconst C dX4_step_114 (v := 2) (by decide) ?_
        refine x_icmp_ne C (tgt := 163) dX4_step_115 (by decide) (fun c115 => ?_) (fun c115 => ?_)
        · skip
          refine x_vret C hrt9 (s2 (s2 (s2 S 12 2 (nI x)) 12 4 (kOf (S 11 x))) 12 3 (nI (x + 1))) ?_ rfl dX4_step_163
          show _ = _
          have hE : tkE (S 11) N e = x + 1 := by unfold tkE; rw [if_neg (by rw [hs]; omega), if_neg (by rw [hK]; exact fun h => h.elim c107 c115), hs]
          unfold stepS
          rw [hs, hK, hE]
        · skip
          have lp118 : ∀ (d9 : Nat) (y : Nat), (x + 1 ≤ y) → (y ≤ N) → (tkE (S 11) N e = skK (S 11) (kOf (S 11 x)) y (N - y)) → N - y < d9 → XJ pv l ev ({ frames := 1, cells := 0, slots := 0, locals := 21 } : Room) sv mv args below meth cv G A LL ad (MQ below (va_Qv (fun u => u = stepS S N e) (tf_B G LL ad (pw G nR ad)) A) args sv 0 0 A) 1 0 0 (pw G nR ad (s2 (s2 (s2 S 12 2 (nI x)) 12 4 (kOf (S 11 x))) 12 3 (nI y))) 118 [(0, .ref (ad 12))] [] := by
            intro d9
            induction d9 with
            | zero => intro y hxy hyN hy hd9; omega
            | succ d9 ih118 =>
              intro y hxy hyN hy hd9
              have ih := ih118
              refine x_aload_n C 0 dX4_step_118 rfl rfl ?_
              refine x_get C (T := TX4) (N := 5) (v := .int (nI y)) 12 3 hin4 (hF 12 (by decide)) (pf_12 G nR ad _) rfl (by decide) lk22 rfl rfl dX4_step_119 ?_
              refine x_aload_n C 0 dX4_step_122 rfl rfl ?_
              refine x_get C (T := TX4) (N := 5) (v := .int (S 12 1)) 12 1 hin4 (hF 12 (by decide)) (pf_12 G nR ad _) rfl (by decide) lk15 rfl rfl dX4_step_123 ?_
              refine x_icmp_ge C (tgt := 163) dX4_step_126 (by decide) (fun c126 => ?_) (fun c126 => ?_)
              · skip
                refine x_vret C hrt9 (s2 (s2 (s2 S 12 2 (nI x)) 12 4 (kOf (S 11 x))) 12 3 (nI y)) ?_ rfl dX4_step_163
                show _ = _
                unfold stepS
                rw [hs, hK, hy, show N - y = 0 by have : N ≤ y := nI_ge' (by rw [← hN]; exact c126) (by omega); omega]
                rfl
              · skip
                have hlt3 : y < N := nI_lt' (by rw [← hN]; exact c126) (by omega)
                refine x_aload_n C 0 dX4_step_129 rfl rfl ?_
                refine x_get C (T := TX4) (N := 5) (v := .ref (ad 10)) 12 0 hin4 (hF 12 (by decide)) (pf_12 G nR ad _) rfl (by decide) lk9 rfl rfl dX4_step_130 ?_
                refine x_aload_n C 0 dX4_step_133 rfl rfl ?_
                refine x_get C (T := TX4) (N := 5) (v := .int (nI y)) 12 3 hin4 (hF 12 (by decide)) (pf_12 G nR ad _) rfl (by decide) lk22 rfl rfl dX4_step_134 ?_
                refine x_Vi 10 C (k_X8_at l G nR LL ad hF (s2 (s2 (s2 S 12 2 (nI x)) 12 4 (kOf (S 11 x))) 12 3 (nI y)) (nI y) k hk hk4) gX4_step_X8_at rfl (by decide +kernel) ⟨(Nat.le_of_ble_eq_true rfl), (Nat.le_of_ble_eq_true rfl)⟩ ⟨(Nat.le_of_ble_eq_true rfl), (Nat.le_of_ble_eq_true rfl)⟩ (hF 10 (by decide)) (pf_10 G nR ad _) (T := TX8) (N := 2) rfl (n := 1) rfl (st := []) (Nat.le_of_ble_eq_true rfl) rfl dX4_step_137 (fun r9 _ hr9 => ?_)
                obtain rfl : r9 = S 11 y := by rw [hr9]; exact tapeAt_k rfl rfl hk (by omega) hk4
                refine x_Si C (k_X4_kindOf l G LL ad _ (S 11 y)) gX4_step_X4_kindOf rfl (by decide +kernel) ⟨(Nat.le_of_ble_eq_true rfl), (Nat.le_of_ble_eq_true rfl)⟩ ⟨(Nat.le_of_ble_eq_true rfl), (Nat.le_of_ble_eq_true rfl)⟩ (n := 1) rfl (st := []) (Nat.le_of_ble_eq_true rfl) rfl dX4_step_140 (fun _ _ hr9 => ?_)
                subst hr9
                refine x_aload_n C 0 dX4_step_143 rfl rfl ?_
                refine x_get C (T := TX4) (N := 5) (v := .int (kOf (S 11 x))) 12 4 hin4 (hF 12 (by decide)) (pf_12 G nR ad _) rfl (by decide) lk25 rfl rfl dX4_step_144 ?_
                refine x_icmp_ne C (tgt := 163) dX4_step_147 (by decide) (fun c147 => ?_) (fun c147 => ?_)
                · skip
                  refine x_vret C hrt9 (s2 (s2 (s2 S 12 2 (nI x)) 12 4 (kOf (S 11 x))) 12 3 (nI y)) ?_ rfl dX4_step_163
                  show _ = _
                  unfold stepS
                  rw [hs, hK, hy, show N - y = (N - (y + 1)) + 1 by omega, skK, if_neg c147]
                · skip
                  refine x_aload_n C 0 dX4_step_150 rfl rfl ?_
                  refine x_dup C dX4_step_151 rfl ?_
                  refine x_get C (T := TX4) (N := 5) (v := .int (nI y)) 12 3 hin4 (hF 12 (by decide)) (pf_12 G nR ad _) rfl (by decide) lk22 rfl rfl dX4_step_152 ?_
                  refine x_iconst C dX4_step_155 (v := 1) (by decide) ?_
                  refine x_iadd C dX4_step_156 ?_
                  refine y_put C (T := TX4) (N := 5) (ty := .int) 12 3 hin4 tyX4 tyX4_ok nmX4 (hF 12 (by decide)) (pf_12 G nR ad _) (pf_12 G nR ad _) rfl (by decide) lk22 rfl rfl (by decide +kernel) rfl rfl (Nat.le_of_ble_eq_true rfl) dX4_step_157 ?_
                  refine x_goto C (tgt := 118) dX4_step_160 (by decide) ?_
                  rw [s2_s2, ← nI_succ]
                  exact ih (y + 1) (by omega) hlt3 (by rw [hy, show N - y = (N - (y + 1)) + 1 by omega, skK, if_pos c147]) (by omega)
          exact lp118 (N + 1) (x + 1) (Nat.le_refl _) hlt2 (by unfold tkE; rw [if_neg (by rw [hs]; omega), if_pos (show tkK (S 11) N e = 1 ∨ tkK (S 11) N e = 2 by rw [hK]; exact Or.inr c115), hK, hs]) (by omega)
    · skip
      refine x_aload_n C 0 dX4_step_68 rfl rfl ?_
      refine x_iconst C dX4_step_69 (v := 0) (by decide) ?_
      refine y_put C (T := TX4) (N := 5) (ty := .int) 12 4 hin4 tyX4 tyX4_ok nmX4 (hF 12 (by decide)) (pf_12 G nR ad _) (pf_12 G nR ad _) rfl (by decide) lk25 rfl rfl (by decide +kernel) rfl rfl (Nat.le_of_ble_eq_true rfl) dX4_step_70 ?_
      refine x_vret C hrt9 (s2 (s2 (s2 S 12 2 (nI x)) 12 3 (nI x)) 12 4 0) ?_ rfl dX4_step_73
      show _ = _
      have hge : N ≤ x := nI_ge2 (by rw [← hN]; exact c65) (by omega)
      have hE : tkE (S 11) N e = x := by unfold tkE; rw [if_pos (by rw [hs]; exact hge), hs]
      have hK : tkK (S 11) N e = 0 := by unfold tkK; rw [if_pos (by rw [hs]; exact hge)]
      unfold stepS
      rw [hs, hK, hE, s2_sw (S := s2 S 12 2 (nI x)) (by decide)]
  refine x_aload_n C 0 dX4_step_0 rfl rfl ?_
  refine x_aload_n C 0 dX4_step_1 rfl rfl ?_
  refine x_get C (T := TX4) (N := 5) (v := .int (S 12 3)) 12 3 hin4 (hF 12 (by decide)) (pf_12 G nR ad _) rfl (by decide) lk22 rfl rfl dX4_step_2 ?_
  refine y_put C (T := TX4) (N := 5) (ty := .int) 12 2 hin4 tyX4 tyX4_ok nmX4 (hF 12 (by decide)) (pf_12 G nR ad _) (pf_12 G nR ad _) rfl (by decide) lk19 rfl rfl (by decide +kernel) rfl rfl (Nat.le_of_ble_eq_true rfl) dX4_step_5 ?_
  have lp8 : ∀ (d9 : Nat) (x : Nat), (e ≤ x) → (x ≤ N) → (tkS (S 11) N e = skB (S 11) x (N - x)) → N - x < d9 → XJ pv l ev ({ frames := 1, cells := 0, slots := 0, locals := 21 } : Room) sv mv args below meth cv G A LL ad (MQ below (va_Qv (fun u => u = stepS S N e) (tf_B G LL ad (pw G nR ad)) A) args sv 0 0 A) 1 0 0 (pw G nR ad (s2 S 12 2 (nI x))) 8 [(0, .ref (ad 12))] [] := by
    intro d9
    induction d9 with
    | zero => intro x hex hxN hsk hd9; omega
    | succ d9 ih8 =>
      intro x hex hxN hsk hd9
      have ih := ih8
      refine x_aload_n C 0 dX4_step_8 rfl rfl ?_
      refine x_get C (T := TX4) (N := 5) (v := .int (nI x)) 12 2 hin4 (hF 12 (by decide)) (pf_12 G nR ad _) rfl (by decide) lk19 rfl rfl dX4_step_9 ?_
      refine x_aload_n C 0 dX4_step_12 rfl rfl ?_
      refine x_get C (T := TX4) (N := 5) (v := .int (S 12 1)) 12 1 hin4 (hF 12 (by decide)) (pf_12 G nR ad _) rfl (by decide) lk15 rfl rfl dX4_step_13 ?_
      refine x_icmp_ge C (tgt := 49) dX4_step_16 (by decide) (fun c16 => ?_) (fun c16 => ?_)
      · skip
        exact j49 x hex hxN (by rw [hsk, show N - x = 0 by have : N ≤ x := nI_ge' (by rw [← hN]; exact c16) (by omega); omega]; rfl)
      · skip
        have hlt : x < N := nI_lt' (by rw [← hN]; exact c16) (by omega)
        refine x_aload_n C 0 dX4_step_19 rfl rfl ?_
        refine x_get C (T := TX4) (N := 5) (v := .ref (ad 10)) 12 0 hin4 (hF 12 (by decide)) (pf_12 G nR ad _) rfl (by decide) lk9 rfl rfl dX4_step_20 ?_
        refine x_aload_n C 0 dX4_step_23 rfl rfl ?_
        refine x_get C (T := TX4) (N := 5) (v := .int (nI x)) 12 2 hin4 (hF 12 (by decide)) (pf_12 G nR ad _) rfl (by decide) lk19 rfl rfl dX4_step_24 ?_
        refine x_Vi 10 C (k_X8_at l G nR LL ad hF (s2 S 12 2 (nI x)) (nI x) k hk hk4) gX4_step_X8_at rfl (by decide +kernel) ⟨(Nat.le_of_ble_eq_true rfl), (Nat.le_of_ble_eq_true rfl)⟩ ⟨(Nat.le_of_ble_eq_true rfl), (Nat.le_of_ble_eq_true rfl)⟩ (hF 10 (by decide)) (pf_10 G nR ad _) (T := TX8) (N := 2) rfl (n := 1) rfl (st := []) (Nat.le_of_ble_eq_true rfl) rfl dX4_step_27 (fun r9 _ hr9 => ?_)
        obtain rfl : r9 = S 11 x := by rw [hr9]; exact tapeAt_k rfl rfl hk (by omega) hk4
        refine x_Si C (k_X4_isBlank l G LL ad _ (S 11 x)) gX4_step_X4_isBlank rfl (by decide +kernel) ⟨(Nat.le_of_ble_eq_true rfl), (Nat.le_of_ble_eq_true rfl)⟩ ⟨(Nat.le_of_ble_eq_true rfl), (Nat.le_of_ble_eq_true rfl)⟩ (n := 1) rfl (st := []) (Nat.le_of_ble_eq_true rfl) rfl dX4_step_30 (fun _ _ hr9 => ?_)
        subst hr9
        refine x_if_eq C (tgt := 49) dX4_step_33 (by decide) (fun c33 => ?_) (fun c33 => ?_)
        · replace c33 := bI_z c33
          exact j49 x hex hxN (by rw [hsk, show N - x = (N - (x + 1)) + 1 by omega, skB, if_neg (by rw [c33]; decide)])
        · replace c33 := bI_nz c33
          refine x_aload_n C 0 dX4_step_36 rfl rfl ?_
          refine x_dup C dX4_step_37 rfl ?_
          refine x_get C (T := TX4) (N := 5) (v := .int (nI x)) 12 2 hin4 (hF 12 (by decide)) (pf_12 G nR ad _) rfl (by decide) lk19 rfl rfl dX4_step_38 ?_
          refine x_iconst C dX4_step_41 (v := 1) (by decide) ?_
          refine x_iadd C dX4_step_42 ?_
          refine y_put C (T := TX4) (N := 5) (ty := .int) 12 2 hin4 tyX4 tyX4_ok nmX4 (hF 12 (by decide)) (pf_12 G nR ad _) (pf_12 G nR ad _) rfl (by decide) lk19 rfl rfl (by decide +kernel) rfl rfl (Nat.le_of_ble_eq_true rfl) dX4_step_43 ?_
          refine x_goto C (tgt := 8) dX4_step_46 (by decide) ?_
          rw [s2_s2, ← nI_succ]
          exact ih (x + 1) (by omega) hlt (by rw [hsk, show N - x = (N - (x + 1)) + 1 by omega, skB, if_pos c33]) (by omega)
  rw [he]
  exact lp8 (N + 1) e (Nat.le_refl e) heN rfl (by omega)

