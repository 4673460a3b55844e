/-! the JDK's methods that isWord reaches -/
def sLen (i : Nat) : Nat := tf_slen.getD i 0
def sByt (i j : Nat) : Int32 := (tf_sbyt.getD i []).getD j 0
theorem sLen_s : ∀ i, i < 9 → nI (sLen i) >>> ((0 : Int32) &&& 31) = nI (sLen i) := by decide +kernel
theorem sLen_le : ∀ i, i < 9 → sLen i ≤ 7 := by decide +kernel
theorem sByt_c : ∀ i, i < 9 → ∀ j, j < sLen i → ((sByt i j &&& 255).toUInt32 % 65536).toInt32 = sByt i j := by decide +kernel
theorem sByt_n : ∀ i, i < 9 → ∀ j, j < sLen i → narrow .char (.int (sByt i j)) = .int (sByt i j) := by decide +kernel
set_option maxHeartbeats 4000000 in
set_option maxRecDepth 100000 in
theorem k_J0_coder_7d493 (l : Launch) (G : tf_G) (LL : List Nat) (ad : Nat → Nat) (P : Nat → va_E) (i : Nat) (hi : i < 9) : Ci l yJ0_coder_7d493 wsJ0_coder_7d493 ({ frames := 0, cells := 0, slots := 0, locals := 0 } : Room) G LL ad (fun (_ : Unit) => P) P [.ref (G.2.2.1 i)] (fun r _ => r = 0) := by
  have lk38 : Cond.fieldLink RJ0 38 "java/lang/String" "COMPACT_STRINGS" "Z" ∈ wsJ0_coder_7d493 := by decide +kernel
  have lk15 : Cond.fieldLink RJ0 15 "java/lang/String" "coder" "B" ∈ wsJ0_coder_7d493 := by decide +kernel
  refine ci_of (cc := cJ0_coder_7d493) (maxL := 1) (ret := (some .byte)) (by decide +kernel) rfl (Nat.le_of_ble_eq_true rfl) ?_
  intro pv ev sv mv args below meth cv A C hrt9 hnm9
  have C : Cx pv sv mv args meth cv cJ0_coder_7d493 1 RJ0 wsJ0_coder_7d493 G A LL ad := C
  show XJ pv l ev _ sv mv args below meth cv G A LL ad _ 1 0 0 _ 0 [(0, .ref (G.2.2.1 i))] []
  refine x_gets C C.2.2.1.2.2.2.1.2.1 lk38 dJ0_coder_7d493_0 ?_
  refine x_if_eq C (tgt := 13) dJ0_coder_7d493_3 (by decide) (fun c3 => ?_) (fun c3 => ?_)
  · exact absurd c3 (by decide)
  refine x_aload_n C 0 dJ0_coder_7d493_6 rfl rfl ?_
  refine x_strf C (C.2.2.1.2.2.2.1.1.1 i hi).2.1 lk15 dJ0_coder_7d493_7 ?_
  refine x_goto C (tgt := 14) dJ0_coder_7d493_10 (by decide) ?_
  refine x_tret C hrt9 rfl () ?_ rfl dJ0_coder_7d493_14
  rfl

set_option maxHeartbeats 4000000 in
set_option maxRecDepth 100000 in
theorem k_J0_isLatin1_aae02 (l : Launch) (G : tf_G) (LL : List Nat) (ad : Nat → Nat) (P : Nat → va_E) (i : Nat) (hi : i < 9) : Ci l yJ0_isLatin1_aae02 wsJ0_isLatin1_aae02 ({ frames := 0, cells := 0, slots := 0, locals := 0 } : Room) G LL ad (fun (_ : Unit) => P) P [.ref (G.2.2.1 i)] (fun r _ => r = 1) := by
  have lk38 : Cond.fieldLink RJ0 38 "java/lang/String" "COMPACT_STRINGS" "Z" ∈ wsJ0_isLatin1_aae02 := by decide +kernel
  have lk15 : Cond.fieldLink RJ0 15 "java/lang/String" "coder" "B" ∈ wsJ0_isLatin1_aae02 := by decide +kernel
  refine ci_of (cc := cJ0_isLatin1_aae02) (maxL := 1) (ret := (some .boolean)) (by decide +kernel) rfl (Nat.le_of_ble_eq_true rfl) ?_
  intro pv ev sv mv args below meth cv A C hrt9 hnm9
  have C : Cx pv sv mv args meth cv cJ0_isLatin1_aae02 1 RJ0 wsJ0_isLatin1_aae02 G A LL ad := C
  show XJ pv l ev _ sv mv args below meth cv G A LL ad _ 1 0 0 _ 0 [(0, .ref (G.2.2.1 i))] []
  refine x_gets C C.2.2.1.2.2.2.1.2.1 lk38 dJ0_isLatin1_aae02_0 ?_
  refine x_if_eq C (tgt := 17) dJ0_isLatin1_aae02_3 (by decide) (fun c3 => ?_) (fun c3 => ?_)
  · exact absurd c3 (by decide)
  refine x_aload_n C 0 dJ0_isLatin1_aae02_6 rfl rfl ?_
  refine x_strf C (C.2.2.1.2.2.2.1.1.1 i hi).2.1 lk15 dJ0_isLatin1_aae02_7 ?_
  refine x_if_ne C (tgt := 17) dJ0_isLatin1_aae02_10 (by decide) (fun c10 => ?_) (fun c10 => ?_)
  · exact absurd c10 (by decide)
  refine x_iconst C dJ0_isLatin1_aae02_13 (v := 1) (by decide) ?_
  refine x_goto C (tgt := 18) dJ0_isLatin1_aae02_14 (by decide) ?_
  refine x_zret C hrt9 (Or.inr rfl) () ?_ rfl dJ0_isLatin1_aae02_18
  rfl

set_option maxHeartbeats 4000000 in
set_option maxRecDepth 100000 in
theorem k_J0_length_8abf5 (l : Launch) (G : tf_G) (LL : List Nat) (ad : Nat → Nat) (P : Nat → va_E) (i : Nat) (hi : i < 9) : Ci l yJ0_length_8abf5 wsJ0_length_8abf5 ({ frames := 1, cells := 0, slots := 0, locals := 20 } : Room) G LL ad (fun (_ : Unit) => P) P [.ref (G.2.2.1 i)] (fun r _ => r = nI (sLen i)) := by
  have lk9 : Cond.fieldLink RJ0 9 "java/lang/String" "value" "[B" ∈ wsJ0_length_8abf5 := by decide +kernel
  refine ci_of (cc := cJ0_length_8abf5) (maxL := 1) (ret := (some .int)) (by decide +kernel) rfl (Nat.le_of_ble_eq_true rfl) ?_
  intro pv ev sv mv args below meth cv A C hrt9 hnm9
  have C : Cx pv sv mv args meth cv cJ0_length_8abf5 1 RJ0 wsJ0_length_8abf5 G A LL ad := C
  show XJ pv l ev _ sv mv args below meth cv G A LL ad _ 1 0 0 _ 0 [(0, .ref (G.2.2.1 i))] []
  refine x_aload_n C 0 dJ0_length_8abf5_0 rfl rfl ?_
  refine x_strf C (C.2.2.1.2.2.2.1.1.1 i hi).2.2.1 lk9 dJ0_length_8abf5_1 ?_
  refine x_tlen C (C.2.2.1.2.2.2.1.1.1 i hi).2.2.2 (v := nI (sLen i)) rfl dJ0_length_8abf5_4 ?_
  refine x_aload_n C 0 dJ0_length_8abf5_5 rfl rfl ?_
  refine x_Wi i C hi (k_J0_coder_7d493 l G LL ad _ i hi) gJ0_length_8abf5_J0_coder_7d493 rfl (by decide +kernel) ⟨(Nat.le_of_ble_eq_true rfl), (Nat.le_of_ble_eq_true rfl)⟩ ⟨(Nat.le_of_ble_eq_true rfl), (Nat.le_of_ble_eq_true rfl)⟩ (n := 0) rfl (st := [.int (nI (sLen i))]) (Nat.le_of_ble_eq_true rfl) rfl dJ0_length_8abf5_6 (fun _ _ hr9 => ?_)
  subst hr9
  refine x_ishr C dJ0_length_8abf5_9 ?_
  refine x_iret C hrt9 () ?_ rfl dJ0_length_8abf5_10
  exact sLen_s i hi

set_option maxHeartbeats 4000000 in
set_option maxRecDepth 100000 in
theorem k_J3_checkIndex_r (l : Launch) (G : tf_G) (LL : List Nat) (ad : Nat → Nat) (P : Nat → va_E) (a b : Int32) (t : Nat) (h : isP a b = true) : Ci l yJ3_checkIndex_8e157 wsJ3_checkIndex_8e157 ({ frames := 0, cells := 0, slots := 0, locals := 0 } : Room) G LL ad (fun (_ : Unit) => P) P [.int a, .int b, .ref (t)] (fun r _ => r = a) := by
  refine ci_of (cc := cJ3_checkIndex_8e157) (maxL := 3) (ret := (some .int)) (by decide +kernel) rfl (Nat.le_of_ble_eq_true rfl) ?_
  intro pv ev sv mv args below meth cv A C hrt9 hnm9
  have C : Cx pv sv mv args meth cv cJ3_checkIndex_8e157 3 RJ3 wsJ3_checkIndex_8e157 G A LL ad := C
  show XJ pv l ev _ sv mv args below meth cv G A LL ad _ 3 0 0 _ 0 [(0, .int a), (1, .int b), (2, .ref (t))] []
  refine x_iload_n C 0 dJ3_checkIndex_8e157_0 rfl rfl ?_
  refine x_if_lt C (tgt := 9) dJ3_checkIndex_8e157_1 (by decide) (fun c1 => ?_) (fun c1 => ?_)
  · skip
    exact absurd c1 (Int32.not_lt.mpr (isP_t h).1)
  · skip
    refine x_iload_n C 0 dJ3_checkIndex_8e157_4 rfl rfl ?_
    refine x_iload_n C 1 dJ3_checkIndex_8e157_5 rfl rfl ?_
    refine x_icmp_lt C (tgt := 16) dJ3_checkIndex_8e157_6 (by decide) (fun c6 => ?_) (fun c6 => ?_)
    · skip
      refine x_iload_n C 0 dJ3_checkIndex_8e157_16 rfl rfl ?_
      refine x_iret C hrt9 () ?_ rfl dJ3_checkIndex_8e157_17
      rfl
    · skip
      exact absurd (isP_t h).2 c6

set_option maxHeartbeats 4000000 in
set_option maxRecDepth 100000 in
theorem k_J3_checkIndex_n (l : Launch) (G : tf_G) (LL : List Nat) (ad : Nat → Nat) (P : Nat → va_E) (a b : Int32) (h : isP a b = true) : Ci l yJ3_checkIndex_8e157 wsJ3_checkIndex_8e157 ({ frames := 0, cells := 0, slots := 0, locals := 0 } : Room) G LL ad (fun (_ : Unit) => P) P [.int a, .int b, .null] (fun r _ => r = a) := by
  refine ci_of (cc := cJ3_checkIndex_8e157) (maxL := 3) (ret := (some .int)) (by decide +kernel) rfl (Nat.le_of_ble_eq_true rfl) ?_
  intro pv ev sv mv args below meth cv A C hrt9 hnm9
  have C : Cx pv sv mv args meth cv cJ3_checkIndex_8e157 3 RJ3 wsJ3_checkIndex_8e157 G A LL ad := C
  show XJ pv l ev _ sv mv args below meth cv G A LL ad _ 3 0 0 _ 0 [(0, .int a), (1, .int b), (2, .null)] []
  refine x_iload_n C 0 dJ3_checkIndex_8e157_0 rfl rfl ?_
  refine x_if_lt C (tgt := 9) dJ3_checkIndex_8e157_1 (by decide) (fun c1 => ?_) (fun c1 => ?_)
  · skip
    exact absurd c1 (Int32.not_lt.mpr (isP_t h).1)
  · skip
    refine x_iload_n C 0 dJ3_checkIndex_8e157_4 rfl rfl ?_
    refine x_iload_n C 1 dJ3_checkIndex_8e157_5 rfl rfl ?_
    refine x_icmp_lt C (tgt := 16) dJ3_checkIndex_8e157_6 (by decide) (fun c6 => ?_) (fun c6 => ?_)
    · skip
      refine x_iload_n C 0 dJ3_checkIndex_8e157_16 rfl rfl ?_
      refine x_iret C hrt9 () ?_ rfl dJ3_checkIndex_8e157_17
      rfl
    · skip
      exact absurd (isP_t h).2 c6

set_option maxHeartbeats 4000000 in
set_option maxRecDepth 100000 in
theorem k_J0_checkIndex_df160 (l : Launch) (G : tf_G) (LL : List Nat) (ad : Nat → Nat) (P : Nat → va_E) (a b : Int32) (h : isP a b = true) : Cv l yJ0_checkIndex_df160 wsJ0_checkIndex_df160 ({ frames := 1, cells := 0, slots := 0, locals := 22 } : Room) G LL ad (fun (_ : Unit) => P) P [.int a, .int b] (fun _ => True) := by
  have lk1053 : Cond.fieldLink RJ0 1053 "jdk/internal/util/Preconditions" "SIOOBE_FORMATTER" "Ljava/util/function/BiFunction;" ∈ wsJ0_checkIndex_df160 := by decide +kernel
  refine cv_of (cc := cJ0_checkIndex_df160) (maxL := 2) (ret := none) (by decide +kernel) rfl (Nat.le_of_ble_eq_true rfl) ?_
  intro pv ev sv mv args below meth cv A C hrt9 hnm9
  have C : Cx pv sv mv args meth cv cJ0_checkIndex_df160 2 RJ0 wsJ0_checkIndex_df160 G A LL ad := C
  show XJ pv l ev _ sv mv args below meth cv G A LL ad _ 2 0 0 _ 0 [(0, .int a), (1, .int b)] []
  refine x_iload_n C 0 dJ0_checkIndex_df160_0 rfl rfl ?_
  refine x_iload_n C 1 dJ0_checkIndex_df160_1 rfl rfl ?_
  rcases C.2.2.1.2.2.2.1.2.2 with hz | ⟨t, hz⟩
  · skip
    refine x_gets C hz lk1053 dJ0_checkIndex_df160_2 ?_
    refine x_Si C (k_J3_checkIndex_n l G LL ad _ a b  h) gJ0_checkIndex_df160_J3_checkIndex_8e157 rfl (by decide +kernel) ⟨(Nat.le_of_ble_eq_true rfl), (Nat.le_of_ble_eq_true rfl)⟩ ⟨(Nat.le_of_ble_eq_true rfl), (Nat.le_of_ble_eq_true rfl)⟩ (n := 3) rfl (st := []) (Nat.le_of_ble_eq_true rfl) rfl dJ0_checkIndex_df160_5 (fun _ _ hr9 => ?_)
    subst hr9
    refine x_pop C dJ0_checkIndex_df160_8 rfl ?_
    refine x_vret C hrt9 () ?_ rfl dJ0_checkIndex_df160_9
    trivial
  · skip
    refine x_gets C hz lk1053 dJ0_checkIndex_df160_2 ?_
    refine x_Si C (k_J3_checkIndex_r l G LL ad _ a b t h) gJ0_checkIndex_df160_J3_checkIndex_8e157 rfl (by decide +kernel) ⟨(Nat.le_of_ble_eq_true rfl), (Nat.le_of_ble_eq_true rfl)⟩ ⟨(Nat.le_of_ble_eq_true rfl), (Nat.le_of_ble_eq_true rfl)⟩ (n := 3) rfl (st := []) (Nat.le_of_ble_eq_true rfl) rfl dJ0_checkIndex_df160_5 (fun _ _ hr9 => ?_)
    subst hr9
    refine x_pop C dJ0_checkIndex_df160_8 rfl ?_
    refine x_vret C hrt9 () ?_ rfl dJ0_checkIndex_df160_9
    trivial

set_option maxHeartbeats 4000000 in
set_option maxRecDepth 100000 in
theorem k_J1_charAt_3b067 (l : Launch) (G : tf_G) (LL : List Nat) (ad : Nat → Nat) (P : Nat → va_E) (i : Nat) (hi : i < 9) (j : Nat) (hj : j < sLen i) (h : isP (nI j) (nI (sLen i)) = true) : Ci l yJ1_charAt_3b067 wsJ1_charAt_3b067 ({ frames := 2, cells := 0, slots := 0, locals := 43 } : Room) G LL ad (fun (_ : Unit) => P) P [.ref (G.2.2.2 i), .int ((nI j))] (fun r _ => r = sByt i j) := by
  refine ci_of (cc := cJ1_charAt_3b067) (maxL := 2) (ret := (some .char)) (by decide +kernel) rfl (Nat.le_of_ble_eq_true rfl) ?_
  intro pv ev sv mv args below meth cv A C hrt9 hnm9
  have C : Cx pv sv mv args meth cv cJ1_charAt_3b067 2 RJ1 wsJ1_charAt_3b067 G A LL ad := C
  show XJ pv l ev _ sv mv args below meth cv G A LL ad _ 2 0 0 _ 0 [(0, .ref (G.2.2.2 i)), (1, .int ((nI j)))] []
  refine x_iload_n C 1 dJ1_charAt_3b067_0 rfl rfl ?_
  refine x_aload_n C 0 dJ1_charAt_3b067_1 rfl rfl ?_
  refine x_tlen C (C.2.2.1.2.2.2.1.1.1 i hi).2.2.2 (v := nI (sLen i)) rfl dJ1_charAt_3b067_2 ?_
  refine x_Sv C (k_J0_checkIndex_df160 l G LL ad _ (nI j) (nI (sLen i)) h) gJ1_charAt_3b067_J0_checkIndex_df160 rfl (by decide +kernel) ⟨(Nat.le_of_ble_eq_true rfl), (Nat.le_of_ble_eq_true rfl)⟩ ⟨(Nat.le_of_ble_eq_true rfl), (Nat.le_of_ble_eq_true rfl)⟩ (n := 2) rfl (st := []) (Nat.le_of_ble_eq_true rfl) rfl dJ1_charAt_3b067_3 (fun _ _ => ?_)
  refine x_aload_n C 0 dJ1_charAt_3b067_6 rfl rfl ?_
  refine x_iload_n C 1 dJ1_charAt_3b067_7 rfl rfl ?_
  refine x_tb C (v := .int (sByt i (nI j).toNatClampNeg)) (C.2.2.1.2.2.2.1.1.1 i hi).2.2.2 (nI_in (N := sLen i) hj (by have := sLen_le i hi; omega)) rfl dJ1_charAt_3b067_8 ?_
  refine x_sipush C dJ1_charAt_3b067_9 (v := 255) (by decide) ?_
  refine x_iand C dJ1_charAt_3b067_12 ?_
  refine x_i2c C (v := sByt i j) dJ1_charAt_3b067_13 (by rw [nI_clamp (by have := sLen_le i hi; omega)]; exact sByt_c i hi j hj) ?_
  refine x_tret C hrt9 (sByt_n i hi j hj) () ?_ rfl dJ1_charAt_3b067_14
  rfl

set_option maxHeartbeats 4000000 in
set_option maxRecDepth 100000 in
theorem k_J0_charAt_5068e (l : Launch) (G : tf_G) (LL : List Nat) (ad : Nat → Nat) (P : Nat → va_E) (i : Nat) (hi : i < 9) (j : Nat) (hj : j < sLen i) (h : isP (nI j) (nI (sLen i)) = true) : Ci l yJ0_charAt_5068e wsJ0_charAt_5068e ({ frames := 3, cells := 0, slots := 0, locals := 64 } : Room) G LL ad (fun (_ : Unit) => P) P [.ref (G.2.2.1 i), .int ((nI j))] (fun r _ => r = sByt i j) := by
  have lk9 : Cond.fieldLink RJ0 9 "java/lang/String" "value" "[B" ∈ wsJ0_charAt_5068e := by decide +kernel
  refine ci_of (cc := cJ0_charAt_5068e) (maxL := 2) (ret := (some .char)) (by decide +kernel) rfl (Nat.le_of_ble_eq_true rfl) ?_
  intro pv ev sv mv args below meth cv A C hrt9 hnm9
  have C : Cx pv sv mv args meth cv cJ0_charAt_5068e 2 RJ0 wsJ0_charAt_5068e G A LL ad := C
  show XJ pv l ev _ sv mv args below meth cv G A LL ad _ 2 0 0 _ 0 [(0, .ref (G.2.2.1 i)), (1, .int ((nI j)))] []
  refine x_aload_n C 0 dJ0_charAt_5068e_0 rfl rfl ?_
  refine x_Wi i C hi (k_J0_isLatin1_aae02 l G LL ad _ i hi) gJ0_charAt_5068e_J0_isLatin1_aae02 rfl (by decide +kernel) ⟨(Nat.le_of_ble_eq_true rfl), (Nat.le_of_ble_eq_true rfl)⟩ ⟨(Nat.le_of_ble_eq_true rfl), (Nat.le_of_ble_eq_true rfl)⟩ (n := 0) rfl (st := []) (Nat.le_of_ble_eq_true rfl) rfl dJ0_charAt_5068e_1 (fun _ _ hr9 => ?_)
  subst hr9
  refine x_if_eq C (tgt := 16) dJ0_charAt_5068e_4 (by decide) (fun c4 => ?_) (fun c4 => ?_)
  · exact absurd c4 (by decide)
  refine x_aload_n C 0 dJ0_charAt_5068e_7 rfl rfl ?_
  refine x_strf C (C.2.2.1.2.2.2.1.1.1 i hi).2.2.1 lk9 dJ0_charAt_5068e_8 ?_
  refine x_iload_n C 1 dJ0_charAt_5068e_11 rfl rfl ?_
  refine x_Si C (k_J1_charAt_3b067 l G LL ad _ i hi j hj h) gJ0_charAt_5068e_J1_charAt_3b067 rfl (by decide +kernel) ⟨(Nat.le_of_ble_eq_true rfl), (Nat.le_of_ble_eq_true rfl)⟩ ⟨(Nat.le_of_ble_eq_true rfl), (Nat.le_of_ble_eq_true rfl)⟩ (n := 2) rfl (st := []) (Nat.le_of_ble_eq_true rfl) rfl dJ0_charAt_5068e_12 (fun _ _ hr9 => ?_)
  subst hr9
  refine x_tret C hrt9 (sByt_n i hi j hj) () ?_ rfl dJ0_charAt_5068e_15
  rfl

