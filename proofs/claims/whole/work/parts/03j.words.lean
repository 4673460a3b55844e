/-! words, numbers, statements -/
theorem nI_ad (a b : Nat) : nI (a + b) = nI a + nI b := Int32.ofNat_add a b
theorem nI_sub {a b : Nat} (h : a ≤ b) : nI b - nI a = nI (b - a) := by
  have h1 : nI b = nI (b - a) + nI a := by rw [← nI_ad]; congr 1; omega
  rw [h1, Int32.add_sub_cancel]
def allM (T : Nat → Int32) (a i : Nat) : Nat → Bool
  | 0 => true
  | j + 1 => allM T a i j && decide (T (a + j) = sByt i j)
def wrdB (S : tf_M) (a b i : Nat) : Bool := decide (S 12 4 = 1) && decide (b - a = sLen i) && allM (S 11) a i (sLen i)
def wrdT (T : Nat → Int32) (N e i : Nat) : Bool := decide (tkK T N e = 1) && decide (tkE T N e - tkS T N e = sLen i) && allM T (tkS T N e) i (sLen i)
def numV (T : Nat → Int32) (a : Nat) : Nat → Int32
  | 0 => 0
  | j + 1 => numV T a j * 10 + T (a + j) - 48
def numR (T : Nat → Int32) (N e : Nat) : Int32 := if tkK T N e = 2 ∧ tkE T N e - tkS T N e ≤ 3 then numV T (tkS T N e) (tkE T N e - tkS T N e) else -1
theorem allM_le {T : Nat → Int32} {a i j n : Nat} (h : allM T a i j = false) (hj : j ≤ n) : allM T a i n = false := by
  induction n with
  | zero => rw [show j = 0 by omega] at h; exact h
  | succ n ih =>
    by_cases e : j = n + 1
    · rw [← e]; exact h
    · unfold allM; rw [ih (by omega)]; rfl
theorem stepS_stepS {S : tf_M} {N a b : Nat} : stepS (stepS S N a) N b = stepS S N b := by
  have h11 : (stepS S N a) 11 = S 11 := rfl
  unfold stepS
  funext x y
  by_cases hx : x = 12
  · subst hx
    by_cases h3 : y = 3
    · subst h3; rfl
    · by_cases h4 : y = 4
      · subst h4; rfl
      · by_cases h2 : y = 2
        · subst h2; rfl
        · simp [s2, tf_u, upd, h2, h3, h4]
  · simp [s2, tf_u, hx]
def stepT (Z : tf_M) (T : Nat → Int32) (N e : Nat) : tf_M := s2 (s2 (s2 Z 12 2 (nI (tkS T N e))) 12 4 (tkK T N e)) 12 3 (nI (tkE T N e))
theorem stepT_12 {Z Z' : tf_M} {T : Nat → Int32} {N a b : Nat} (h : ∀ y, y ≠ 2 → y ≠ 3 → y ≠ 4 → Z 12 y = Z' 12 y) : stepT Z T N b 12 = stepT Z' T N b 12 := by
  funext y
  by_cases h3 : y = 3
  · subst h3; rfl
  · by_cases h4 : y = 4
    · subst h4; rfl
    · by_cases h2 : y = 2
      · subst h2; rfl
      · simp [stepT, s2, tf_u, upd, h2, h3, h4, h y h2 h3 h4]
theorem stepT_ne {Z : tf_M} {T : Nat → Int32} {N b x : Nat} (h : x ≠ 12) : stepT Z T N b x = Z x := by simp [stepT, s2, tf_u, h]
theorem stepS_put {S : tf_M} {N a b o f : Nat} {v : Int32} (h11 : o ≠ 11) (h12 : o ≠ 12) : stepS (s2 (stepS S N a) o f v) N b = s2 (stepS S N b) o f v := by
  have e11 : (s2 (stepS S N a) o f v) 11 = S 11 := by rw [s2_ne (Ne.symm h11)]; rfl
  have e1 : stepS (s2 (stepS S N a) o f v) N b = stepT (s2 (stepS S N a) o f v) (S 11) N b := by
    show stepT _ ((s2 (stepS S N a) o f v) 11) N b = _
    rw [e11]
  rw [e1]
  show _ = s2 (stepT S (S 11) N b) o f v
  funext x
  by_cases hx : x = 12
  · subst hx
    rw [s2_ne (Ne.symm h12)]
    refine stepT_12 (a := a) fun y h2 h3 h4 => ?_
    rw [s2_ne (Ne.symm h12)]
    show stepT S (S 11) N a 12 y = _
    simp [stepT, s2, tf_u, upd, h2, h3, h4]
  · rw [stepT_ne hx]
    by_cases ho : x = o
    · subst ho
      show tf_u _ _ _ _ = tf_u _ _ _ _
      simp only [tf_u, if_pos]
      show upd (stepT S (S 11) N a x) f v = upd (stepT S (S 11) N b x) f v
      rw [stepT_ne hx, stepT_ne hx]
    · rw [s2_ne ho, s2_ne ho, stepT_ne hx]
      exact stepT_ne (Z := S) hx
set_option maxHeartbeats 4000000 in
set_option maxRecDepth 100000 in
theorem k_X4_isWord (l : Launch) (G : tf_G) (nR : Nat) (LL : List Nat) (ad : Nat → Nat) (hF : ∀ j ∈ tf_fix, j ∈ LL) (S : tf_M) (a b k : Nat) (ha : S 12 2 = nI a) (hb : S 12 3 = nI b) (hk : S 10 1 = nI k) (hab : a ≤ b) (hbk : b ≤ k) (hk4 : k ≤ 400) (i : Nat) (hi : i < 9) : Ci l yX4_isWord wsX4_isWord ({ frames := 4, cells := 0, slots := 0, locals := 85 } : Room) G LL ad (fun (_ : Unit) => pw G nR ad S) (pw G nR ad S) [.ref (ad 12), .ref (G.2.2.1 i)] (fun r _ => r = bI (wrdB S a b i)) := by
  have hin4 : ∀ w ∈ u_ws RX4 TX4 5, w ∈ wsX4_isWord := by decide +kernel
  have lk25 : Cond.fieldLink RX4 25 "TributeFleet$Reader" "kind" "I" ∈ wsX4_isWord := by decide +kernel
  have lk22 : Cond.fieldLink RX4 22 "TributeFleet$Reader" "end" "I" ∈ wsX4_isWord := by decide +kernel
  have lk19 : Cond.fieldLink RX4 19 "TributeFleet$Reader" "start" "I" ∈ wsX4_isWord := by decide +kernel
  have lk9 : Cond.fieldLink RX4 9 "TributeFleet$Reader" "tape" "LTributeFleet$Tape;" ∈ wsX4_isWord := by decide +kernel
  have hlen : ∀ (c : S 12 3 - S 12 2 = nI (sLen i)), b - a = sLen i := fun c => by
    rw [hb, ha, nI_sub hab] at c
    exact nI_inj c (by omega) (by have := sLen_le i hi; omega)
  refine ci_of (cc := cX4_isWord) (maxL := 3) (ret := (some .boolean)) (by decide +kernel) rfl (Nat.le_of_ble_eq_true rfl) ?_
  intro pv ev sv mv args below meth cv A C hrt9 hnm9
  have C : Cx pv sv mv args meth cv cX4_isWord 3 RX4 wsX4_isWord G A LL ad := C
  show XJ pv l ev _ sv mv args below meth cv G A LL ad _ 3 0 0 _ 0 [(0, .ref (ad 12)), (1, .ref (G.2.2.1 i))] []
  refine x_aload_n C 0 dX4_isWord_0 rfl rfl ?_
  refine x_get C (T := TX4) (N := 5) (v := .int (S 12 4)) 12 4 hin4 (hF 12 (by decide)) (pf_12 G nR ad _) rfl (by decide) lk25 rfl rfl dX4_isWord_1 ?_
  refine x_iconst C dX4_isWord_4 (v := 1) (by decide) ?_
  refine x_icmp_ne C (tgt := 24) dX4_isWord_5 (by decide) (fun c5 => ?_) (fun c5 => ?_)
  · skip
    refine x_iconst C dX4_isWord_24 (v := 0) (by decide) ?_
    refine x_zret C hrt9 (Or.inl rfl) () ?_ rfl dX4_isWord_25
    show _ = _
    unfold wrdB
    rw [decide_eq_false c5]
    rfl
  · skip
    refine x_aload_n C 0 dX4_isWord_8 rfl rfl ?_
    refine x_get C (T := TX4) (N := 5) (v := .int (S 12 3)) 12 3 hin4 (hF 12 (by decide)) (pf_12 G nR ad _) rfl (by decide) lk22 rfl rfl dX4_isWord_9 ?_
    refine x_aload_n C 0 dX4_isWord_12 rfl rfl ?_
    refine x_get C (T := TX4) (N := 5) (v := .int (S 12 2)) 12 2 hin4 (hF 12 (by decide)) (pf_12 G nR ad _) rfl (by decide) lk19 rfl rfl dX4_isWord_13 ?_
    refine x_isub C dX4_isWord_16 ?_
    refine x_aload_n C 1 dX4_isWord_17 rfl rfl ?_
    refine x_Wi i C hi (k_J0_length_8abf5 l G LL ad _ i hi) gX4_isWord_J0_length_8abf5 rfl (by decide +kernel) ⟨(Nat.le_of_ble_eq_true rfl), (Nat.le_of_ble_eq_true rfl)⟩ ⟨(Nat.le_of_ble_eq_true rfl), (Nat.le_of_ble_eq_true rfl)⟩ (n := 0) rfl (st := [.int ((S 12 3) - (S 12 2))]) (Nat.le_of_ble_eq_true rfl) rfl dX4_isWord_18 (fun _ _ hr9 => ?_)
    subst hr9
    refine x_icmp_eq C (tgt := 26) dX4_isWord_21 (by decide) (fun c21 => ?_) (fun c21 => ?_)
    · skip
      refine x_iconst C dX4_isWord_26 (v := 0) (by decide) ?_
      refine x_istore_n C (L1 := [(2, .int 0), (0, .ref (ad 12)), (1, .ref (G.2.2.1 i))]) dX4_isWord_27 rfl (by decide) rfl ?_
      have lp28 : ∀ (d9 : Nat) (j : Nat), (j ≤ sLen i) → (allM (S 11) a i j = true) → sLen i - j < d9 → XJ pv l ev ({ frames := 4, cells := 0, slots := 0, locals := 85 } : Room) sv mv args below meth cv G A LL ad (MQ below (va_Qi (fun r _ => r = bI (wrdB S a b i)) (tf_B G LL ad (fun (_ : Unit) => pw G nR ad S)) A) args sv 0 0 A) 3 0 0 (pw G nR ad S) 28 [(0, .ref (ad 12)), (1, .ref (G.2.2.1 i)), (2, .int (nI j))] [] := by
        intro d9
        induction d9 with
        | zero => intro j hjl hal hd9; omega
        | succ d9 ih28 =>
          intro j hjl hal hd9
          have ih := ih28
          refine x_iload_n C 2 dX4_isWord_28 rfl rfl ?_
          refine x_aload_n C 1 dX4_isWord_29 rfl rfl ?_
          refine x_Wi i C hi (k_J0_length_8abf5 l G LL ad _ i hi) gX4_isWord_J0_length_8abf5 rfl (by decide +kernel) ⟨(Nat.le_of_ble_eq_true rfl), (Nat.le_of_ble_eq_true rfl)⟩ ⟨(Nat.le_of_ble_eq_true rfl), (Nat.le_of_ble_eq_true rfl)⟩ (n := 0) rfl (st := [.int (nI j)]) (Nat.le_of_ble_eq_true rfl) rfl dX4_isWord_30 (fun _ _ hr9 => ?_)
          subst hr9
          refine x_icmp_ge C (tgt := 65) dX4_isWord_33 (by decide) (fun c33 => ?_) (fun c33 => ?_)
          · skip
            refine x_iconst C dX4_isWord_65 (v := 1) (by decide) ?_
            refine x_zret C hrt9 (Or.inr rfl) () ?_ rfl dX4_isWord_66
            show _ = _
            have e1 : sLen i ≤ j := nI_ge' c33 (by have := sLen_le i hi; omega)
            unfold wrdB
            rw [decide_eq_true c5, decide_eq_true (hlen c21), show sLen i = j by omega, hal]
            rfl
          · skip
            have hj : j < sLen i := nI_lt' c33 (by have := sLen_le i hi; omega)
            have hin9 : a + j < k := by have := hlen c21; omega
            refine x_aload_n C 0 dX4_isWord_36 rfl rfl ?_
            refine x_get C (T := TX4) (N := 5) (v := .ref (ad 10)) 12 0 hin4 (hF 12 (by decide)) (pf_12 G nR ad _) rfl (by decide) lk9 rfl rfl dX4_isWord_37 ?_
            refine x_aload_n C 0 dX4_isWord_40 rfl rfl ?_
            refine x_get C (T := TX4) (N := 5) (v := .int (S 12 2)) 12 2 hin4 (hF 12 (by decide)) (pf_12 G nR ad _) rfl (by decide) lk19 rfl rfl dX4_isWord_41 ?_
            refine x_iload_n C 2 dX4_isWord_44 rfl rfl ?_
            refine x_iadd C dX4_isWord_45 ?_
            rw [ha, ← nI_ad]
            refine x_Vi 10 C (k_X8_at l G nR LL ad hF S (nI (a + j)) k hk hk4) gX4_isWord_X8_at rfl (by decide +kernel) ⟨(Nat.le_of_ble_eq_true rfl), (Nat.le_of_ble_eq_true rfl)⟩ ⟨(Nat.le_of_ble_eq_true rfl), (Nat.le_of_ble_eq_true rfl)⟩ (hF 10 (by decide)) (pf_10 G nR ad _) (T := TX8) (N := 2) rfl (n := 1) rfl (st := []) (Nat.le_of_ble_eq_true rfl) rfl dX4_isWord_46 (fun r9 _ hr9 => ?_)
            obtain rfl : r9 = S 11 (a + j) := by rw [hr9]; exact tapeAt_k rfl rfl hk hin9 hk4
            refine x_aload_n C 1 dX4_isWord_49 rfl rfl ?_
            refine x_iload_n C 2 dX4_isWord_50 rfl rfl ?_
            refine x_Wi i C hi (k_J0_charAt_5068e l G LL ad _ i hi j hj (isP_k hj (by have := sLen_le i hi; omega))) gX4_isWord_J0_charAt_5068e rfl (by decide +kernel) ⟨(Nat.le_of_ble_eq_true rfl), (Nat.le_of_ble_eq_true rfl)⟩ ⟨(Nat.le_of_ble_eq_true rfl), (Nat.le_of_ble_eq_true rfl)⟩ (n := 1) rfl (st := [.int (S 11 (a + j))]) (Nat.le_of_ble_eq_true rfl) rfl dX4_isWord_51 (fun _ _ hr9 => ?_)
            subst hr9
            refine x_icmp_eq C (tgt := 59) dX4_isWord_54 (by decide) (fun c54 => ?_) (fun c54 => ?_)
            · skip
              refine x_iinc C (L1 := [(2, .int ((nI j) + 1)), (0, .ref (ad 12)), (1, .ref (G.2.2.1 i))]) 2 dX4_isWord_59 rfl rfl (by decide) rfl ?_
              refine x_goto C (tgt := 28) dX4_isWord_62 (by decide) ?_
              refine x_sub [1, 2, 0] (L1 := [(0, .ref (ad 12)), (1, .ref (G.2.2.1 i)), (2, .int ((nI j) + 1))]) rfl ?_
              rw [← nI_succ]
              exact ih (j + 1) hj (by unfold allM; rw [hal, decide_eq_true c54]; rfl) (by omega)
            · skip
              refine x_iconst C dX4_isWord_57 (v := 0) (by decide) ?_
              refine x_zret C hrt9 (Or.inl rfl) () ?_ rfl dX4_isWord_58
              show _ = _
              have e1 : allM (S 11) a i (sLen i) = false := allM_le (j := j + 1) (by unfold allM; rw [decide_eq_false c54, Bool.and_false]) hj
              unfold wrdB
              rw [e1, Bool.and_false]
              rfl
      refine x_sub [1, 2, 0] (L1 := [(0, .ref (ad 12)), (1, .ref (G.2.2.1 i)), (2, .int 0)]) rfl ?_
      exact lp28 (sLen i + 1) 0 (Nat.zero_le _) rfl (by omega)
    · skip
      refine x_iconst C dX4_isWord_24 (v := 0) (by decide) ?_
      refine x_zret C hrt9 (Or.inl rfl) () ?_ rfl dX4_isWord_25
      show _ = _
      unfold wrdB
      rw [decide_eq_false (show ¬ b - a = sLen i from fun h => c21 (by rw [hb, ha, nI_sub hab, h]))]
      simp [bI]

set_option maxHeartbeats 4000000 in
set_option maxRecDepth 100000 in
theorem k_X4_takeSemicolon (l : Launch) (G : tf_G) (nR : Nat) (LL : List Nat) (ad : Nat → Nat) (hF : ∀ j ∈ tf_fix, j ∈ LL) (S : tf_M) (N e k : Nat) (hN : S 12 1 = nI N) (he : S 12 3 = nI e) (hk : S 10 1 = nI k) (hNk : N ≤ k) (hk4 : k ≤ 400) (heN : e ≤ N) : Ci l yX4_takeSemicolon wsX4_takeSemicolon ({ frames := 2, cells := 0, slots := 0, locals := 41 } : Room) G LL ad (pw G nR ad) (pw G nR ad S) [.ref (ad 12)] (fun x u => x = bI (decide (tkK (S 11) N e = 3)) ∧ u = stepS S N e) := by
  have hin4 : ∀ w ∈ u_ws RX4 TX4 5, w ∈ wsX4_takeSemicolon := by decide +kernel
  have lk25 : Cond.fieldLink RX4 25 "TributeFleet$Reader" "kind" "I" ∈ wsX4_takeSemicolon := by decide +kernel
  refine ci_of (cc := cX4_takeSemicolon) (maxL := 1) (ret := (some .boolean)) (by decide +kernel) rfl (Nat.le_of_ble_eq_true rfl) ?_
  intro pv ev sv mv args below meth cv A C hrt9 hnm9
  have C : Cx pv sv mv args meth cv cX4_takeSemicolon 1 RX4 wsX4_takeSemicolon G A LL ad := C
  show XJ pv l ev _ sv mv args below meth cv G A LL ad _ 1 0 0 _ 0 [(0, .ref (ad 12))] []
  refine x_aload_n C 0 dX4_takeSemicolon_0 rfl rfl ?_
  refine x_Vv 12 C (k_X4_step l G nR LL ad hF S N e k hN he hk hNk hk4 heN) gX4_takeSemicolon_X4_step rfl (by decide +kernel) ⟨(Nat.le_of_ble_eq_true rfl), (Nat.le_of_ble_eq_true rfl)⟩ ⟨(Nat.le_of_ble_eq_true rfl), (Nat.le_of_ble_eq_true rfl)⟩ (hF 12 (by decide)) (pf_12 G nR ad _) (T := TX4) (N := 5) rfl (n := 0) rfl (st := []) (Nat.le_of_ble_eq_true rfl) rfl dX4_takeSemicolon_1 (fun _ hr9 => ?_)
  subst hr9
  refine x_aload_n C 0 dX4_takeSemicolon_4 rfl rfl ?_
  refine x_get C (T := TX4) (N := 5) (v := .int ((stepS S N e) 12 4)) 12 4 hin4 (hF 12 (by decide)) (pf_12 G nR ad _) rfl (by decide) lk25 rfl rfl dX4_takeSemicolon_5 ?_
  refine x_iconst C dX4_takeSemicolon_8 (v := 3) (by decide) ?_
  refine x_icmp_ne C (tgt := 16) dX4_takeSemicolon_9 (by decide) (fun c9 => ?_) (fun c9 => ?_)
  · skip
    refine x_iconst C dX4_takeSemicolon_16 (v := 0) (by decide) ?_
    refine x_zret C hrt9 (Or.inl rfl) (stepS S N e) ?_ rfl dX4_takeSemicolon_17
    refine ⟨?_, rfl⟩
    rw [decide_eq_false (show ¬ tkK (S 11) N e = 3 from c9)]
    rfl
  · skip
    refine x_iconst C dX4_takeSemicolon_12 (v := 1) (by decide) ?_
    refine x_goto C (tgt := 17) dX4_takeSemicolon_13 (by decide) ?_
    refine x_zret C hrt9 (Or.inr rfl) (stepS S N e) ?_ rfl dX4_takeSemicolon_17
    refine ⟨?_, rfl⟩
    rw [decide_eq_true (show tkK (S 11) N e = 3 from c9)]
    rfl

set_option maxHeartbeats 4000000 in
set_option maxRecDepth 100000 in
theorem k_X4_takeNumber (l : Launch) (G : tf_G) (nR : Nat) (LL : List Nat) (ad : Nat → Nat) (hF : ∀ j ∈ tf_fix, j ∈ LL) (S : tf_M) (N e k : Nat) (hN : S 12 1 = nI N) (he : S 12 3 = nI e) (hk : S 10 1 = nI k) (hNk : N ≤ k) (hk4 : k ≤ 400) (heN : e ≤ N) : Ci l yX4_takeNumber wsX4_takeNumber ({ frames := 2, cells := 0, slots := 0, locals := 41 } : Room) G LL ad (pw G nR ad) (pw G nR ad S) [.ref (ad 12)] (fun x u => x = numR (S 11) N e ∧ u = stepS S N e) := by
  have hin4 : ∀ w ∈ u_ws RX4 TX4 5, w ∈ wsX4_takeNumber := by decide +kernel
  have lk25 : Cond.fieldLink RX4 25 "TributeFleet$Reader" "kind" "I" ∈ wsX4_takeNumber := by decide +kernel
  have lk22 : Cond.fieldLink RX4 22 "TributeFleet$Reader" "end" "I" ∈ wsX4_takeNumber := by decide +kernel
  have lk19 : Cond.fieldLink RX4 19 "TributeFleet$Reader" "start" "I" ∈ wsX4_takeNumber := by decide +kernel
  have lk9 : Cond.fieldLink RX4 9 "TributeFleet$Reader" "tape" "LTributeFleet$Tape;" ∈ wsX4_takeNumber := by decide +kernel
  refine ci_of (cc := cX4_takeNumber) (maxL := 3) (ret := (some .int)) (by decide +kernel) rfl (Nat.le_of_ble_eq_true rfl) ?_
  intro pv ev sv mv args below meth cv A C hrt9 hnm9
  have C : Cx pv sv mv args meth cv cX4_takeNumber 3 RX4 wsX4_takeNumber G A LL ad := C
  show XJ pv l ev _ sv mv args below meth cv G A LL ad _ 3 0 0 _ 0 [(0, .ref (ad 12))] []
  refine x_aload_n C 0 dX4_takeNumber_0 rfl rfl ?_
  refine x_Vv 12 C (k_X4_step l G nR LL ad hF S N e k hN he hk hNk hk4 heN) gX4_takeNumber_X4_step rfl (by decide +kernel) ⟨(Nat.le_of_ble_eq_true rfl), (Nat.le_of_ble_eq_true rfl)⟩ ⟨(Nat.le_of_ble_eq_true rfl), (Nat.le_of_ble_eq_true rfl)⟩ (hF 12 (by decide)) (pf_12 G nR ad _) (T := TX4) (N := 5) rfl (n := 0) rfl (st := []) (Nat.le_of_ble_eq_true rfl) rfl dX4_takeNumber_1 (fun _ hr9 => ?_)
  subst hr9
  obtain ⟨t1, t2, t3⟩ := tk_le (T := S 11) heN
  have hle : (nI (tkE (S 11) N e) - nI (tkS (S 11) N e) ≤ 3) ↔ tkE (S 11) N e - tkS (S 11) N e ≤ 3 := by
    rw [nI_sub t2]
    exact ⟨fun h => nI_ge' (b := tkE (S 11) N e - tkS (S 11) N e) (a := 3) h (by omega), fun h => nI_le (b := 3) h (by decide)⟩
  refine x_aload_n C 0 dX4_takeNumber_4 rfl rfl ?_
  refine x_get C (T := TX4) (N := 5) (v := .int ((stepS S N e) 12 4)) 12 4 hin4 (hF 12 (by decide)) (pf_12 G nR ad _) rfl (by decide) lk25 rfl rfl dX4_takeNumber_5 ?_
  refine x_iconst C dX4_takeNumber_8 (v := 2) (by decide) ?_
  refine x_icmp_ne C (tgt := 25) dX4_takeNumber_9 (by decide) (fun c9 => ?_) (fun c9 => ?_)
  · skip
    refine x_iconst C dX4_takeNumber_25 (v := -1) (by decide) ?_
    refine x_iret C hrt9 (stepS S N e) ?_ rfl dX4_takeNumber_26
    refine ⟨?_, rfl⟩
    rw [numR, if_neg (fun h => c9 h.1)]
  · skip
    refine x_aload_n C 0 dX4_takeNumber_12 rfl rfl ?_
    refine x_get C (T := TX4) (N := 5) (v := .int ((stepS S N e) 12 3)) 12 3 hin4 (hF 12 (by decide)) (pf_12 G nR ad _) rfl (by decide) lk22 rfl rfl dX4_takeNumber_13 ?_
    refine x_aload_n C 0 dX4_takeNumber_16 rfl rfl ?_
    refine x_get C (T := TX4) (N := 5) (v := .int ((stepS S N e) 12 2)) 12 2 hin4 (hF 12 (by decide)) (pf_12 G nR ad _) rfl (by decide) lk19 rfl rfl dX4_takeNumber_17 ?_
    refine x_isub C dX4_takeNumber_20 ?_
    refine x_iconst C dX4_takeNumber_21 (v := 3) (by decide) ?_
    refine x_icmp_le C (tgt := 27) dX4_takeNumber_22 (by decide) (fun c22 => ?_) (fun c22 => ?_)
    · skip
      refine x_iconst C dX4_takeNumber_27 (v := 0) (by decide) ?_
      refine x_istore_n C (L1 := [(1, .int 0), (0, .ref (ad 12))]) dX4_takeNumber_28 rfl (by decide) rfl ?_
      refine x_aload_n C 1 dX4_takeNumber_29 rfl rfl ?_
      refine x_get C (T := TX4) (N := 5) (v := .int ((stepS S N e) 12 2)) 12 2 hin4 (hF 12 (by decide)) (pf_12 G nR ad _) rfl (by decide) lk19 rfl rfl dX4_takeNumber_30 ?_
      refine x_istore_n C (L1 := [(2, .int ((stepS S N e) 12 2)), (1, .int 0), (0, .ref (ad 12))]) dX4_takeNumber_33 rfl (by decide) rfl ?_
      have lp34 : ∀ (d9 : Nat) (j : Nat) (v : Int32), (j ≤ tkE (S 11) N e - tkS (S 11) N e) → (v = numV (S 11) (tkS (S 11) N e) j) → (tkE (S 11) N e - tkS (S 11) N e) - j < d9 → XJ pv l ev ({ frames := 2, cells := 0, slots := 0, locals := 41 } : Room) sv mv args below meth cv G A LL ad (MQ below (va_Qi (fun x u => x = numR (S 11) N e ∧ u = stepS S N e) (tf_B G LL ad (pw G nR ad)) A) args sv 0 0 A) 3 0 0 (pw G nR ad (stepS S N e)) 34 [(0, .ref (ad 12)), (1, .int v), (2, .int (nI (tkS (S 11) N e + j)))] [] := by
        intro d9
        induction d9 with
        | zero => intro j v hjl hv hd9; omega
        | succ d9 ih34 =>
          intro j v hjl hv hd9
          have ih := ih34
          refine x_iload_n C 2 dX4_takeNumber_34 rfl rfl ?_
          refine x_aload_n C 0 dX4_takeNumber_35 rfl rfl ?_
          refine x_get C (T := TX4) (N := 5) (v := .int ((stepS S N e) 12 3)) 12 3 hin4 (hF 12 (by decide)) (pf_12 G nR ad _) rfl (by decide) lk22 rfl rfl dX4_takeNumber_36 ?_
          refine x_icmp_ge C (tgt := 65) dX4_takeNumber_39 (by decide) (fun c39 => ?_) (fun c39 => ?_)
          · skip
            refine x_iload_n C 1 dX4_takeNumber_65 rfl rfl ?_
            refine x_iret C hrt9 (stepS S N e) ?_ rfl dX4_takeNumber_66
            refine ⟨?_, rfl⟩
            have e1 : tkE (S 11) N e ≤ tkS (S 11) N e + j := nI_ge' c39 (by omega)
            rw [numR, if_pos ⟨c9, hle.mp c22⟩, hv, show tkE (S 11) N e - tkS (S 11) N e = j by omega]
          · skip
            have hj : tkS (S 11) N e + j < tkE (S 11) N e := nI_lt' c39 (by omega)
            refine x_iload_n C 1 dX4_takeNumber_42 rfl rfl ?_
            refine x_bipush C dX4_takeNumber_43 (v := 10) (by decide) ?_
            refine x_imul C dX4_takeNumber_45 ?_
            refine x_aload_n C 0 dX4_takeNumber_46 rfl rfl ?_
            refine x_get C (T := TX4) (N := 5) (v := .ref (ad 10)) 12 0 hin4 (hF 12 (by decide)) (pf_12 G nR ad _) rfl (by decide) lk9 rfl rfl dX4_takeNumber_47 ?_
            refine x_iload_n C 2 dX4_takeNumber_50 rfl rfl ?_
            refine x_Vi 10 C (k_X8_at l G nR LL ad hF (stepS S N e) (nI (tkS (S 11) N e + j)) k hk hk4) gX4_takeNumber_X8_at rfl (by decide +kernel) ⟨(Nat.le_of_ble_eq_true rfl), (Nat.le_of_ble_eq_true rfl)⟩ ⟨(Nat.le_of_ble_eq_true rfl), (Nat.le_of_ble_eq_true rfl)⟩ (hF 10 (by decide)) (pf_10 G nR ad _) (T := TX8) (N := 2) rfl (n := 1) rfl (st := [.int (v * 10)]) (Nat.le_of_ble_eq_true rfl) rfl dX4_takeNumber_51 (fun r9 _ hr9 => ?_)
            obtain rfl : r9 = S 11 (tkS (S 11) N e + j) := by rw [hr9]; exact tapeAt_k rfl rfl hk (by omega) hk4
            refine x_iadd C dX4_takeNumber_54 ?_
            refine x_bipush C dX4_takeNumber_55 (v := 48) (by decide) ?_
            refine x_isub C dX4_takeNumber_57 ?_
            refine x_istore_n C (L1 := [(1, .int (((v * 10) + (S 11 (tkS (S 11) N e + j))) - 48)), (0, .ref (ad 12)), (2, .int (nI (tkS (S 11) N e + j)))]) dX4_takeNumber_58 rfl (by decide) rfl ?_
            refine x_iinc C (L1 := [(2, .int ((nI (tkS (S 11) N e + j)) + 1)), (1, .int (((v * 10) + (S 11 (tkS (S 11) N e + j))) - 48)), (0, .ref (ad 12))]) 2 dX4_takeNumber_59 rfl rfl (by decide) rfl ?_
            refine x_goto C (tgt := 34) dX4_takeNumber_62 (by decide) ?_
            refine x_sub [2, 1, 0] (L1 := [(0, .ref (ad 12)), (1, .int (((v * 10) + (S 11 (tkS (S 11) N e + j))) - 48)), (2, .int ((nI (tkS (S 11) N e + j)) + 1))]) rfl ?_
            rw [← nI_succ]
            exact ih (j + 1) _ (by omega) (by rw [numV, ← hv]) (by omega)
      refine x_sub [2, 1, 0] (L1 := [(0, .ref (ad 12)), (1, .int 0), (2, .int ((stepS S N e) 12 2))]) rfl ?_
      exact lp34 (tkE (S 11) N e - tkS (S 11) N e + 1) 0 0 (Nat.zero_le _) rfl (by omega)
    · skip
      refine x_iconst C dX4_takeNumber_25 (v := -1) (by decide) ?_
      refine x_iret C hrt9 (stepS S N e) ?_ rfl dX4_takeNumber_26
      refine ⟨?_, rfl⟩
      rw [numR, if_neg (fun h => c22 (hle.mpr h.2))]

