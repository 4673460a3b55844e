/-! tape, counties -/
def app1 (S : tf_M) (a o q : Nat) (k : Nat) (v sh : Int32) : tf_M := s2 (s2 S a k (vp_nar .byte (v >>> (sh &&& 31)).toInt8.toInt32)) o q (nI (k + 1))
def app4 (S : tf_M) (a o q : Nat) (k : Nat) (v : Int32) : tf_M := app1 (app1 (app1 (app1 S a o q k v 24) a o q (k + 1) v 16) a o q (k + 2) v 8) a o q (k + 3) v 0
def tapeAt (S : tf_M) (p : Int32) : Int32 := if isP p (S 10 1) = true then S 11 p.toNatClampNeg else -1
theorem vp_ok5 {v : Int32} (h : isW v 0 5 = true) : vp_in v 6 := by
  obtain ⟨h0, h1⟩ := isW_t h
  refine vp_ok (n := 6) ?_ (Nat.le_refl 6) (by decide)
  simp only [isP, Bool.and_eq_true, decide_eq_true_eq]
  refine ⟨h0, ?_⟩
  rw [Int32.lt_iff_toInt_lt]
  rw [Int32.le_iff_toInt_le] at h1
  have e1 : (5 : Int32).toInt = 5 := rfl
  have e2 : (nI 6).toInt = 6 := rfl
  omega
theorem vp_k {v : Int32} {n N : Nat} (h0 : ¬ v < 0) (h1 : ¬ nI n ≤ v) (hn : n ≤ N) (hN : N < 2 ^ 31) : vp_in v N := vp_ok (n := n) (by simp only [isP, Bool.and_eq_true, decide_eq_true_eq]; exact ⟨Int32.not_lt.mp h0, Int32.not_le.mp h1⟩) hn hN
set_option maxHeartbeats 4000000 in
set_option maxRecDepth 100000 in
theorem k_X8_hasRoom (l : Launch) (G : tf_G) (nR : Nat) (LL : List Nat) (ad : Nat → Nat) (hF : ∀ j ∈ tf_fix, j ∈ LL) (S : tf_M) : Ci l yX8_hasRoom wsX8_hasRoom ({ frames := 0, cells := 0, slots := 0, locals := 0 } : Room) G LL ad (fun (_ : Unit) => pw G nR ad S) (pw G nR ad S) [.ref (ad 10)] (fun x _ => x = bI (decide (S 10 1 + 20 ≤ 400))) := by
  have hin8 : ∀ w ∈ u_ws RX8 TX8 2, w ∈ wsX8_hasRoom := by decide +kernel
  have lk15 : Cond.fieldLink RX8 15 "TributeFleet$Tape" "size" "I" ∈ wsX8_hasRoom := by decide +kernel
  refine ci_of (cc := cX8_hasRoom) (maxL := 1) (ret := (some .boolean)) (by decide +kernel) rfl (Nat.le_of_ble_eq_true rfl) ?_
  intro pv ev sv mv args below meth cv A C hrt9 hnm9
  have C : Cx pv sv mv args meth cv cX8_hasRoom 1 RX8 wsX8_hasRoom G A LL ad := C
  show XJ pv l ev _ sv mv args below meth cv G A LL ad _ 1 0 0 _ 0 [(0, .ref (ad 10))] []
  refine x_aload_n C 0 dX8_hasRoom_0 rfl rfl ?_
  refine x_get C (T := TX8) (N := 2) (v := .int (S 10 1)) 10 1 hin8 (hF 10 (by decide)) (pf_10 G nR ad _) rfl (by decide) lk15 rfl rfl dX8_hasRoom_1 ?_
  refine x_bipush C dX8_hasRoom_4 (v := 20) (by decide) ?_
  refine x_iadd C dX8_hasRoom_6 ?_
  refine x_sipush C dX8_hasRoom_7 (v := 400) (by decide) ?_
  refine x_icmp_gt C (tgt := 17) dX8_hasRoom_10 (by decide) (fun c10 => ?_) (fun c10 => ?_)
  · skip
    refine x_iconst C dX8_hasRoom_17 (v := 0) (by decide) ?_
    refine x_zret C hrt9 (Or.inl rfl) () ?_ rfl dX8_hasRoom_18
    show _ = _
    simp [bI]; simp_all [← Int32.not_le]
  · skip
    refine x_iconst C dX8_hasRoom_13 (v := 1) (by decide) ?_
    refine x_goto C (tgt := 18) dX8_hasRoom_14 (by decide) ?_
    refine x_zret C hrt9 (Or.inr rfl) () ?_ rfl dX8_hasRoom_18
    show _ = _
    simp [bI]; simp_all [← Int32.not_le]

set_option maxHeartbeats 4000000 in
set_option maxRecDepth 100000 in
theorem k_X8_append (l : Launch) (G : tf_G) (nR : Nat) (LL : List Nat) (ad : Nat → Nat) (hF : ∀ j ∈ tf_fix, j ∈ LL) (S : tf_M) (v : Int32) (k : Nat) (hk : S 10 1 = nI k) (hk4 : k + 4 ≤ 400) : Cv l yX8_append wsX8_append ({ frames := 0, cells := 0, slots := 0, locals := 0 } : Room) G LL ad (pw G nR ad) (pw G nR ad S) [.ref (ad 10), .int v] (fun u => u = app4 S 11 10 1 k v) := by
  have hin8 : ∀ w ∈ u_ws RX8 TX8 2, w ∈ wsX8_append := by decide +kernel
  have lk15 : Cond.fieldLink RX8 15 "TributeFleet$Tape" "size" "I" ∈ wsX8_append := by decide +kernel
  have lk11 : Cond.fieldLink RX8 11 "TributeFleet$Tape" "bytes" "[B" ∈ wsX8_append := by decide +kernel
  refine cv_of (cc := cX8_append) (maxL := 3) (ret := none) (by decide +kernel) rfl (Nat.le_of_ble_eq_true rfl) ?_
  intro pv ev sv mv args below meth cv A C hrt9 hnm9
  have C : Cx pv sv mv args meth cv cX8_append 3 RX8 wsX8_append G A LL ad := C
  show XJ pv l ev _ sv mv args below meth cv G A LL ad _ 3 0 0 _ 0 [(0, .ref (ad 10)), (1, .int v)] []
  refine x_bipush C dX8_append_0 (v := 24) (by decide) ?_
  refine x_istore_n C (L1 := [(2, .int 24), (0, .ref (ad 10)), (1, .int v)]) dX8_append_2 rfl (by decide) rfl ?_
  refine x_iload_n C 0 dX8_append_3 rfl rfl ?_
  refine x_if_lt C (tgt := 46) dX8_append_4 (by decide) (fun c4 => ?_) (fun c4 => ?_)
  · exact absurd c4 (by decide)
  refine x_aload_n C 1 dX8_append_7 rfl rfl ?_
  refine x_get C (T := TX8) (N := 2) (v := .int (S 10 1)) 10 1 hin8 (hF 10 (by decide)) (pf_10 G nR ad _) rfl (by decide) lk15 rfl rfl dX8_append_8 ?_
  refine x_sipush C dX8_append_11 (v := 400) (by decide) ?_
  refine x_icmp_ge C (tgt := 46) dX8_append_14 (by decide) (fun c14 => ?_) (fun c14 => ?_)
  · skip
    exact absurd c14 (by rw [hk]; exact nI_ge (b := 400) (by omega) (by omega))
  · skip
    refine x_aload_n C 1 dX8_append_17 rfl rfl ?_
    refine x_get C (T := TX8) (N := 2) (v := .ref (ad 11)) 10 0 hin8 (hF 10 (by decide)) (pf_10 G nR ad _) rfl (by decide) lk11 rfl rfl dX8_append_18 ?_
    refine x_aload_n C 1 dX8_append_21 rfl rfl ?_
    refine x_get C (T := TX8) (N := 2) (v := .int (S 10 1)) 10 1 hin8 (hF 10 (by decide)) (pf_10 G nR ad _) rfl (by decide) lk15 rfl rfl dX8_append_22 ?_
    refine x_iload_n C 2 dX8_append_25 rfl rfl ?_
    refine x_iload_n C 0 dX8_append_26 rfl rfl ?_
    refine x_ishr C dX8_append_27 ?_
    refine x_i2b C dX8_append_28 ?_
    refine y_bast C 11 (hF 11 (by decide)) (fun f => (pf_11 G nR ad f)) (by rw [hk]; exact nI_in (by omega) (by decide)) (kk := k) (by rw [hk]; exact nI_clamp (by omega)) dX8_append_29 ?_
    refine x_aload_n C 1 dX8_append_30 rfl rfl ?_
    refine x_dup C dX8_append_31 rfl ?_
    refine x_get C (T := TX8) (N := 2) (v := .int (S 10 1)) 10 1 hin8 (hF 10 (by decide)) (pf_10 G nR ad _) rfl (by decide) lk15 rfl rfl dX8_append_32 ?_
    refine x_iconst C dX8_append_35 (v := 1) (by decide) ?_
    refine x_iadd C dX8_append_36 ?_
    refine y_put C (T := TX8) (N := 2) (ty := .int) 10 1 hin8 tyX8 tyX8_ok nmX8 (hF 10 (by decide)) (pf_10 G nR ad _) (pf_10 G nR ad _) rfl (by decide) lk15 rfl rfl (by decide +kernel) rfl rfl (Nat.le_of_ble_eq_true rfl) dX8_append_37 ?_
    obtain ⟨S1, e1⟩ : ∃ x, x = app1 S 11 10 1 (k) v 24 := ⟨_, rfl⟩
    have hk1 : S1 10 1 = nI (k + 1) := by rw [e1]; rfl
    rw [show (s2 (s2 S 11 k (vp_nar .byte ((v >>> (24 &&& 31)).toInt8.toInt32))) 10 1 ((S 10 1) + 1)) = S1 by rw [e1, hk, ← nI_succ]; rfl]
    refine x_iinc C (L1 := [(2, .int 16), (0, .ref (ad 10)), (1, .int v)]) 0 dX8_append_40 rfl (by decide) (by decide) rfl ?_
    refine x_goto C (tgt := 3) dX8_append_43 (by decide) ?_
    refine x_iload_n C 0 dX8_append_3 rfl rfl ?_
    refine x_if_lt C (tgt := 46) dX8_append_4 (by decide) (fun c4 => ?_) (fun c4 => ?_)
    · exact absurd c4 (by decide)
    refine x_aload_n C 1 dX8_append_7 rfl rfl ?_
    refine x_get C (T := TX8) (N := 2) (v := .int (S1 10 1)) 10 1 hin8 (hF 10 (by decide)) (pf_10 G nR ad _) rfl (by decide) lk15 rfl rfl dX8_append_8 ?_
    refine x_sipush C dX8_append_11 (v := 400) (by decide) ?_
    refine x_icmp_ge C (tgt := 46) dX8_append_14 (by decide) (fun c14 => ?_) (fun c14 => ?_)
    · skip
      exact absurd c14 (by rw [hk1]; exact nI_ge (b := 400) (by omega) (by omega))
    · skip
      refine x_aload_n C 1 dX8_append_17 rfl rfl ?_
      refine x_get C (T := TX8) (N := 2) (v := .ref (ad 11)) 10 0 hin8 (hF 10 (by decide)) (pf_10 G nR ad _) rfl (by decide) lk11 rfl rfl dX8_append_18 ?_
      refine x_aload_n C 1 dX8_append_21 rfl rfl ?_
      refine x_get C (T := TX8) (N := 2) (v := .int (S1 10 1)) 10 1 hin8 (hF 10 (by decide)) (pf_10 G nR ad _) rfl (by decide) lk15 rfl rfl dX8_append_22 ?_
      refine x_iload_n C 2 dX8_append_25 rfl rfl ?_
      refine x_iload_n C 0 dX8_append_26 rfl rfl ?_
      refine x_ishr C dX8_append_27 ?_
      refine x_i2b C dX8_append_28 ?_
      refine y_bast C 11 (hF 11 (by decide)) (fun f => (pf_11 G nR ad f)) (by rw [hk1]; exact nI_in (by omega) (by decide)) (kk := k + 1) (by rw [hk1]; exact nI_clamp (by omega)) dX8_append_29 ?_
      refine x_aload_n C 1 dX8_append_30 rfl rfl ?_
      refine x_dup C dX8_append_31 rfl ?_
      refine x_get C (T := TX8) (N := 2) (v := .int (S1 10 1)) 10 1 hin8 (hF 10 (by decide)) (pf_10 G nR ad _) rfl (by decide) lk15 rfl rfl dX8_append_32 ?_
      refine x_iconst C dX8_append_35 (v := 1) (by decide) ?_
      refine x_iadd C dX8_append_36 ?_
      refine y_put C (T := TX8) (N := 2) (ty := .int) 10 1 hin8 tyX8 tyX8_ok nmX8 (hF 10 (by decide)) (pf_10 G nR ad _) (pf_10 G nR ad _) rfl (by decide) lk15 rfl rfl (by decide +kernel) rfl rfl (Nat.le_of_ble_eq_true rfl) dX8_append_37 ?_
      obtain ⟨S2, e2⟩ : ∃ x, x = app1 S1 11 10 1 (k + 1) v 16 := ⟨_, rfl⟩
      have hk2 : S2 10 1 = nI (k + 2) := by rw [e2]; rfl
      rw [show (s2 (s2 S1 11 (k + 1) (vp_nar .byte ((v >>> (16 &&& 31)).toInt8.toInt32))) 10 1 ((S1 10 1) + 1)) = S2 by rw [e2, hk1, ← nI_succ]; rfl]
      refine x_iinc C (L1 := [(2, .int 8), (0, .ref (ad 10)), (1, .int v)]) 0 dX8_append_40 rfl (by decide) (by decide) rfl ?_
      refine x_goto C (tgt := 3) dX8_append_43 (by decide) ?_
      refine x_iload_n C 0 dX8_append_3 rfl rfl ?_
      refine x_if_lt C (tgt := 46) dX8_append_4 (by decide) (fun c4 => ?_) (fun c4 => ?_)
      · exact absurd c4 (by decide)
      refine x_aload_n C 1 dX8_append_7 rfl rfl ?_
      refine x_get C (T := TX8) (N := 2) (v := .int (S2 10 1)) 10 1 hin8 (hF 10 (by decide)) (pf_10 G nR ad _) rfl (by decide) lk15 rfl rfl dX8_append_8 ?_
      refine x_sipush C dX8_append_11 (v := 400) (by decide) ?_
      refine x_icmp_ge C (tgt := 46) dX8_append_14 (by decide) (fun c14 => ?_) (fun c14 => ?_)
      · skip
        exact absurd c14 (by rw [hk2]; exact nI_ge (b := 400) (by omega) (by omega))
      · skip
        refine x_aload_n C 1 dX8_append_17 rfl rfl ?_
        refine x_get C (T := TX8) (N := 2) (v := .ref (ad 11)) 10 0 hin8 (hF 10 (by decide)) (pf_10 G nR ad _) rfl (by decide) lk11 rfl rfl dX8_append_18 ?_
        refine x_aload_n C 1 dX8_append_21 rfl rfl ?_
        refine x_get C (T := TX8) (N := 2) (v := .int (S2 10 1)) 10 1 hin8 (hF 10 (by decide)) (pf_10 G nR ad _) rfl (by decide) lk15 rfl rfl dX8_append_22 ?_
        refine x_iload_n C 2 dX8_append_25 rfl rfl ?_
        refine x_iload_n C 0 dX8_append_26 rfl rfl ?_
        refine x_ishr C dX8_append_27 ?_
        refine x_i2b C dX8_append_28 ?_
        refine y_bast C 11 (hF 11 (by decide)) (fun f => (pf_11 G nR ad f)) (by rw [hk2]; exact nI_in (by omega) (by decide)) (kk := k + 2) (by rw [hk2]; exact nI_clamp (by omega)) dX8_append_29 ?_
        refine x_aload_n C 1 dX8_append_30 rfl rfl ?_
        refine x_dup C dX8_append_31 rfl ?_
        refine x_get C (T := TX8) (N := 2) (v := .int (S2 10 1)) 10 1 hin8 (hF 10 (by decide)) (pf_10 G nR ad _) rfl (by decide) lk15 rfl rfl dX8_append_32 ?_
        refine x_iconst C dX8_append_35 (v := 1) (by decide) ?_
        refine x_iadd C dX8_append_36 ?_
        refine y_put C (T := TX8) (N := 2) (ty := .int) 10 1 hin8 tyX8 tyX8_ok nmX8 (hF 10 (by decide)) (pf_10 G nR ad _) (pf_10 G nR ad _) rfl (by decide) lk15 rfl rfl (by decide +kernel) rfl rfl (Nat.le_of_ble_eq_true rfl) dX8_append_37 ?_
        obtain ⟨S3, e3⟩ : ∃ x, x = app1 S2 11 10 1 (k + 2) v 8 := ⟨_, rfl⟩
        have hk3 : S3 10 1 = nI (k + 3) := by rw [e3]; rfl
        rw [show (s2 (s2 S2 11 (k + 2) (vp_nar .byte ((v >>> (8 &&& 31)).toInt8.toInt32))) 10 1 ((S2 10 1) + 1)) = S3 by rw [e3, hk2, ← nI_succ]; rfl]
        refine x_iinc C (L1 := [(2, .int 0), (0, .ref (ad 10)), (1, .int v)]) 0 dX8_append_40 rfl (by decide) (by decide) rfl ?_
        refine x_goto C (tgt := 3) dX8_append_43 (by decide) ?_
        refine x_iload_n C 0 dX8_append_3 rfl rfl ?_
        refine x_if_lt C (tgt := 46) dX8_append_4 (by decide) (fun c4 => ?_) (fun c4 => ?_)
        · exact absurd c4 (by decide)
        refine x_aload_n C 1 dX8_append_7 rfl rfl ?_
        refine x_get C (T := TX8) (N := 2) (v := .int (S3 10 1)) 10 1 hin8 (hF 10 (by decide)) (pf_10 G nR ad _) rfl (by decide) lk15 rfl rfl dX8_append_8 ?_
        refine x_sipush C dX8_append_11 (v := 400) (by decide) ?_
        refine x_icmp_ge C (tgt := 46) dX8_append_14 (by decide) (fun c14 => ?_) (fun c14 => ?_)
        · skip
          exact absurd c14 (by rw [hk3]; exact nI_ge (b := 400) (by omega) (by omega))
        · skip
          refine x_aload_n C 1 dX8_append_17 rfl rfl ?_
          refine x_get C (T := TX8) (N := 2) (v := .ref (ad 11)) 10 0 hin8 (hF 10 (by decide)) (pf_10 G nR ad _) rfl (by decide) lk11 rfl rfl dX8_append_18 ?_
          refine x_aload_n C 1 dX8_append_21 rfl rfl ?_
          refine x_get C (T := TX8) (N := 2) (v := .int (S3 10 1)) 10 1 hin8 (hF 10 (by decide)) (pf_10 G nR ad _) rfl (by decide) lk15 rfl rfl dX8_append_22 ?_
          refine x_iload_n C 2 dX8_append_25 rfl rfl ?_
          refine x_iload_n C 0 dX8_append_26 rfl rfl ?_
          refine x_ishr C dX8_append_27 ?_
          refine x_i2b C dX8_append_28 ?_
          refine y_bast C 11 (hF 11 (by decide)) (fun f => (pf_11 G nR ad f)) (by rw [hk3]; exact nI_in (by omega) (by decide)) (kk := k + 3) (by rw [hk3]; exact nI_clamp (by omega)) dX8_append_29 ?_
          refine x_aload_n C 1 dX8_append_30 rfl rfl ?_
          refine x_dup C dX8_append_31 rfl ?_
          refine x_get C (T := TX8) (N := 2) (v := .int (S3 10 1)) 10 1 hin8 (hF 10 (by decide)) (pf_10 G nR ad _) rfl (by decide) lk15 rfl rfl dX8_append_32 ?_
          refine x_iconst C dX8_append_35 (v := 1) (by decide) ?_
          refine x_iadd C dX8_append_36 ?_
          refine y_put C (T := TX8) (N := 2) (ty := .int) 10 1 hin8 tyX8 tyX8_ok nmX8 (hF 10 (by decide)) (pf_10 G nR ad _) (pf_10 G nR ad _) rfl (by decide) lk15 rfl rfl (by decide +kernel) rfl rfl (Nat.le_of_ble_eq_true rfl) dX8_append_37 ?_
          obtain ⟨S4, e4⟩ : ∃ x, x = app1 S3 11 10 1 (k + 3) v 0 := ⟨_, rfl⟩
          have hk4 : S4 10 1 = nI (k + 4) := by rw [e4]; rfl
          rw [show (s2 (s2 S3 11 (k + 3) (vp_nar .byte ((v >>> (0 &&& 31)).toInt8.toInt32))) 10 1 ((S3 10 1) + 1)) = S4 by rw [e4, hk3, ← nI_succ]; rfl]
          refine x_iinc C (L1 := [(2, .int (-8)), (0, .ref (ad 10)), (1, .int v)]) 0 dX8_append_40 rfl (by decide) (by decide) rfl ?_
          refine x_goto C (tgt := 3) dX8_append_43 (by decide) ?_
          refine x_iload_n C 0 dX8_append_3 rfl rfl ?_
          refine x_if_lt C (tgt := 46) dX8_append_4 (by decide) (fun c4 => ?_) (fun c4 => ?_)
          rotate_left
          · exact absurd (by decide) c4
          refine x_vret C hrt9 S4 ?_ rfl dX8_append_46
          show _ = _
          rw [e4, e3, e2, e1]
          rfl

set_option maxHeartbeats 4000000 in
set_option maxRecDepth 100000 in
theorem k_X8_at (l : Launch) (G : tf_G) (nR : Nat) (LL : List Nat) (ad : Nat → Nat) (hF : ∀ j ∈ tf_fix, j ∈ LL) (S : tf_M) (p0 : Int32) (k : Nat) (hk : S 10 1 = nI k) (hk4 : k ≤ 400) : Ci l yX8_at wsX8_at ({ frames := 0, cells := 0, slots := 0, locals := 0 } : Room) G LL ad (fun (_ : Unit) => pw G nR ad S) (pw G nR ad S) [.ref (ad 10), .int p0] (fun x _ => x = tapeAt S p0) := by
  have hin8 : ∀ w ∈ u_ws RX8 TX8 2, w ∈ wsX8_at := by decide +kernel
  have lk15 : Cond.fieldLink RX8 15 "TributeFleet$Tape" "size" "I" ∈ wsX8_at := by decide +kernel
  have lk11 : Cond.fieldLink RX8 11 "TributeFleet$Tape" "bytes" "[B" ∈ wsX8_at := by decide +kernel
  refine ci_of (cc := cX8_at) (maxL := 2) (ret := (some .int)) (by decide +kernel) rfl (Nat.le_of_ble_eq_true rfl) ?_
  intro pv ev sv mv args below meth cv A C hrt9 hnm9
  have C : Cx pv sv mv args meth cv cX8_at 2 RX8 wsX8_at G A LL ad := C
  show XJ pv l ev _ sv mv args below meth cv G A LL ad _ 2 0 0 _ 0 [(0, .ref (ad 10)), (1, .int p0)] []
  refine x_iload_n C 1 dX8_at_0 rfl rfl ?_
  refine x_if_lt C (tgt := 21) dX8_at_1 (by decide) (fun c1 => ?_) (fun c1 => ?_)
  · skip
    refine x_iconst C dX8_at_21 (v := -1) (by decide) ?_
    refine x_iret C hrt9 () ?_ rfl dX8_at_22
    show _ = _
    simp [tapeAt, isP]; simp_all [← Int32.not_le]
  · skip
    refine x_iload_n C 1 dX8_at_4 rfl rfl ?_
    refine x_aload_n C 0 dX8_at_5 rfl rfl ?_
    refine x_get C (T := TX8) (N := 2) (v := .int (S 10 1)) 10 1 hin8 (hF 10 (by decide)) (pf_10 G nR ad _) rfl (by decide) lk15 rfl rfl dX8_at_6 ?_
    refine x_icmp_ge C (tgt := 21) dX8_at_9 (by decide) (fun c9 => ?_) (fun c9 => ?_)
    · skip
      refine x_iconst C dX8_at_21 (v := -1) (by decide) ?_
      refine x_iret C hrt9 () ?_ rfl dX8_at_22
      show _ = _
      simp [tapeAt, isP]; simp_all [← Int32.not_le]
    · skip
      refine x_aload_n C 0 dX8_at_12 rfl rfl ?_
      refine x_get C (T := TX8) (N := 2) (v := .ref (ad 11)) 10 0 hin8 (hF 10 (by decide)) (pf_10 G nR ad _) rfl (by decide) lk11 rfl rfl dX8_at_13 ?_
      refine x_iload_n C 1 dX8_at_16 rfl rfl ?_
      refine x_bald C 11 (hF 11 (by decide)) (pf_11 G nR ad _) (vp_k c1 (by rw [← hk]; exact c9) hk4 (by decide)) (kk := p0.toNatClampNeg) rfl dX8_at_17 ?_
      refine x_goto C (tgt := 22) dX8_at_18 (by decide) ?_
      refine x_iret C hrt9 () ?_ rfl dX8_at_22
      show _ = _
      simp [tapeAt, isP]; simp_all [← Int32.not_le]

def leftOf (S : tf_M) (c : Int32) : Int32 := if isW c 0 5 = true then S 18 c.toNatClampNeg - S 19 c.toNatClampNeg else 0
def payS (S : tf_M) (c b : Int32) : tf_M := if isW c 0 5 = true then s2 (s2 S 19 c.toNatClampNeg (S 19 c.toNatClampNeg + b)) 20 c.toNatClampNeg (S 20 c.toNatClampNeg + b * S 17 3) else S
set_option maxHeartbeats 4000000 in
set_option maxRecDepth 100000 in
theorem k_X2_leftToCommute (l : Launch) (G : tf_G) (nR : Nat) (LL : List Nat) (ad : Nat → Nat) (hF : ∀ j ∈ tf_fix, j ∈ LL) (S : tf_M) (a : Int32) : Ci l yX2_leftToCommute wsX2_leftToCommute ({ frames := 2, cells := 0, slots := 0, locals := 42 } : Room) G LL ad (fun (_ : Unit) => pw G nR ad S) (pw G nR ad S) [.ref (ad 17), .int a] (fun x _ => x = leftOf S a) := by
  have ini9 : Cond.initialized RX9 ∈ wsX2_leftToCommute := by decide +kernel
  have sttX9_isCounty : Cond.static yX9_isCounty ∈ wsX2_leftToCommute := by decide +kernel
  have hin2 : ∀ w ∈ u_ws RX2 TX2 4, w ∈ wsX2_leftToCommute := by decide +kernel
  have lk9 : Cond.fieldLink RX2 9 "TributeFleet$Counties" "allotted" "[I" ∈ wsX2_leftToCommute := by decide +kernel
  have lk15 : Cond.fieldLink RX2 15 "TributeFleet$Counties" "commuted" "[I" ∈ wsX2_leftToCommute := by decide +kernel
  refine ci_of (cc := cX2_leftToCommute) (maxL := 2) (ret := (some .int)) (by decide +kernel) rfl (Nat.le_of_ble_eq_true rfl) ?_
  intro pv ev sv mv args below meth cv A C hrt9 hnm9
  have C : Cx pv sv mv args meth cv cX2_leftToCommute 2 RX2 wsX2_leftToCommute G A LL ad := C
  show XJ pv l ev _ sv mv args below meth cv G A LL ad _ 2 0 0 _ 0 [(0, .ref (ad 17)), (1, .int a)] []
  refine x_iload_n C 1 dX2_leftToCommute_0 rfl rfl ?_
  refine x_Ni C (k_X9_isCounty l G LL ad _ a) gX2_leftToCommute_X9_isCounty_n25 rfl (by decide +kernel) C.2.2.1.2.1.2.1 ini9 sttX9_isCounty ⟨(Nat.le_of_ble_eq_true rfl), (Nat.le_of_ble_eq_true rfl)⟩ ⟨(Nat.le_of_ble_eq_true rfl), (Nat.le_of_ble_eq_true rfl)⟩ (n := 1) rfl (st := []) (Nat.le_of_ble_eq_true rfl) rfl dX2_leftToCommute_1 (fun _ _ hr9 => ?_)
  subst hr9
  refine x_if_eq C (tgt := 23) dX2_leftToCommute_4 (by decide) (fun c4 => ?_) (fun c4 => ?_)
  · replace c4 := bI_z c4
    refine x_iconst C dX2_leftToCommute_23 (v := 0) (by decide) ?_
    refine x_iret C hrt9 () ?_ rfl dX2_leftToCommute_24
    show _ = _
    simp [leftOf]; simp_all
  · replace c4 := bI_nz c4
    refine x_aload_n C 0 dX2_leftToCommute_7 rfl rfl ?_
    refine x_get C (T := TX2) (N := 4) (v := .ref (ad 18)) 17 0 hin2 (hF 17 (by decide)) (pf_17 G nR ad _) rfl (by decide) lk9 rfl rfl dX2_leftToCommute_8 ?_
    refine x_iload_n C 1 dX2_leftToCommute_11 rfl rfl ?_
    refine x_iald C 18 (hF 18 (by decide)) (pf_18 G nR ad _) (vp_ok5 c4) (kk := a.toNatClampNeg) rfl dX2_leftToCommute_12 ?_
    refine x_aload_n C 0 dX2_leftToCommute_13 rfl rfl ?_
    refine x_get C (T := TX2) (N := 4) (v := .ref (ad 19)) 17 1 hin2 (hF 17 (by decide)) (pf_17 G nR ad _) rfl (by decide) lk15 rfl rfl dX2_leftToCommute_14 ?_
    refine x_iload_n C 1 dX2_leftToCommute_17 rfl rfl ?_
    refine x_iald C 19 (hF 19 (by decide)) (pf_19 G nR ad _) (vp_ok5 c4) (kk := a.toNatClampNeg) rfl dX2_leftToCommute_18 ?_
    refine x_isub C dX2_leftToCommute_19 ?_
    refine x_goto C (tgt := 24) dX2_leftToCommute_20 (by decide) ?_
    refine x_iret C hrt9 () ?_ rfl dX2_leftToCommute_24
    show _ = _
    simp [leftOf]; simp_all

set_option maxHeartbeats 4000000 in
set_option maxRecDepth 100000 in
theorem k_X2_payFor (l : Launch) (G : tf_G) (nR : Nat) (LL : List Nat) (ad : Nat → Nat) (hF : ∀ j ∈ tf_fix, j ∈ LL) (S : tf_M) (a b : Int32) : Ci l yX2_payFor wsX2_payFor ({ frames := 2, cells := 0, slots := 0, locals := 42 } : Room) G LL ad (pw G nR ad) (pw G nR ad S) [.ref (ad 17), .int a, .int b] (fun x u => x = b * S 17 3 ∧ u = payS S a b) := by
  have hin2 : ∀ w ∈ u_ws RX2 TX2 4, w ∈ wsX2_payFor := by decide +kernel
  have lk21 : Cond.fieldLink RX2 21 "TributeFleet$Counties" "coinsABag" "I" ∈ wsX2_payFor := by decide +kernel
  have ini9 : Cond.initialized RX9 ∈ wsX2_payFor := by decide +kernel
  have sttX9_isCounty : Cond.static yX9_isCounty ∈ wsX2_payFor := by decide +kernel
  have lk15 : Cond.fieldLink RX2 15 "TributeFleet$Counties" "commuted" "[I" ∈ wsX2_payFor := by decide +kernel
  have lk18 : Cond.fieldLink RX2 18 "TributeFleet$Counties" "paid" "[I" ∈ wsX2_payFor := by decide +kernel
  refine ci_of (cc := cX2_payFor) (maxL := 4) (ret := (some .int)) (by decide +kernel) rfl (Nat.le_of_ble_eq_true rfl) ?_
  intro pv ev sv mv args below meth cv A C hrt9 hnm9
  have C : Cx pv sv mv args meth cv cX2_payFor 4 RX2 wsX2_payFor G A LL ad := C
  show XJ pv l ev _ sv mv args below meth cv G A LL ad _ 4 0 0 _ 0 [(0, .ref (ad 17)), (1, .int a), (2, .int b)] []
  refine x_iload_n C 2 dX2_payFor_0 rfl rfl ?_
  refine x_aload_n C 0 dX2_payFor_1 rfl rfl ?_
  refine x_get C (T := TX2) (N := 4) (v := .int (S 17 3)) 17 3 hin2 (hF 17 (by decide)) (pf_17 G nR ad _) rfl (by decide) lk21 rfl rfl dX2_payFor_2 ?_
  refine x_imul C dX2_payFor_5 ?_
  refine x_istore_n C (L1 := [(3, .int (b * (S 17 3))), (0, .ref (ad 17)), (1, .int a), (2, .int b)]) dX2_payFor_6 rfl (by decide) rfl ?_
  refine x_iload_n C 2 dX2_payFor_7 rfl rfl ?_
  refine x_Ni C (k_X9_isCounty l G LL ad _ a) gX2_payFor_X9_isCounty_n25 rfl (by decide +kernel) C.2.2.1.2.1.2.1 ini9 sttX9_isCounty ⟨(Nat.le_of_ble_eq_true rfl), (Nat.le_of_ble_eq_true rfl)⟩ ⟨(Nat.le_of_ble_eq_true rfl), (Nat.le_of_ble_eq_true rfl)⟩ (n := 1) rfl (st := []) (Nat.le_of_ble_eq_true rfl) rfl dX2_payFor_8 (fun _ _ hr9 => ?_)
  subst hr9
  refine x_if_eq C (tgt := 34) dX2_payFor_11 (by decide) (fun c11 => ?_) (fun c11 => ?_)
  · replace c11 := bI_z c11
    refine x_iload_n C 0 dX2_payFor_34 rfl rfl ?_
    refine x_iret C hrt9 S ?_ rfl dX2_payFor_35
    show _ ∧ _
    simp [payS]; simp_all
  · replace c11 := bI_nz c11
    refine x_aload_n C 1 dX2_payFor_14 rfl rfl ?_
    refine x_get C (T := TX2) (N := 4) (v := .ref (ad 19)) 17 1 hin2 (hF 17 (by decide)) (pf_17 G nR ad _) rfl (by decide) lk15 rfl rfl dX2_payFor_15 ?_
    refine x_iload_n C 2 dX2_payFor_18 rfl rfl ?_
    refine x_dup2 C dX2_payFor_19 rfl rfl ?_
    refine x_iald C 19 (hF 19 (by decide)) (pf_19 G nR ad _) (vp_ok5 c11) (kk := a.toNatClampNeg) rfl dX2_payFor_20 ?_
    refine x_iload_n C 3 dX2_payFor_21 rfl rfl ?_
    refine x_iadd C dX2_payFor_22 ?_
    refine y_iast C 19 (hF 19 (by decide)) (fun f => (pf_19 G nR ad f)) (vp_ok5 c11) (kk := a.toNatClampNeg) rfl dX2_payFor_23 ?_
    refine x_aload_n C 1 dX2_payFor_24 rfl rfl ?_
    refine x_get C (T := TX2) (N := 4) (v := .ref (ad 20)) 17 2 hin2 (hF 17 (by decide)) (pf_17 G nR ad _) rfl (by decide) lk18 rfl rfl dX2_payFor_25 ?_
    refine x_iload_n C 2 dX2_payFor_28 rfl rfl ?_
    refine x_dup2 C dX2_payFor_29 rfl rfl ?_
    refine x_iald C 20 (hF 20 (by decide)) (pf_20 G nR ad _) (vp_ok5 c11) (kk := a.toNatClampNeg) rfl dX2_payFor_30 ?_
    refine x_iload_n C 0 dX2_payFor_31 rfl rfl ?_
    refine x_iadd C dX2_payFor_32 ?_
    refine y_iast C 20 (hF 20 (by decide)) (fun f => (pf_20 G nR ad f)) (vp_ok5 c11) (kk := a.toNatClampNeg) rfl dX2_payFor_33 ?_
    refine x_iload_n C 0 dX2_payFor_34 rfl rfl ?_
    refine x_iret C hrt9 (s2 (s2 S 19 a.toNatClampNeg ((S 19 (a.toNatClampNeg)) + b)) 20 a.toNatClampNeg ((S 20 (a.toNatClampNeg)) + (b * (S 17 3)))) ?_ rfl dX2_payFor_35
    show _ ∧ _
    simp [payS]; simp_all

