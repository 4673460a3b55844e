set_option maxHeartbeats 4000000 in
set_option maxRecDepth 100000 in
theorem k_X9_leave (l : Launch) (G : tf_G) (nR : Nat) (LL : List Nat) (ad : Nat → Nat) (hF : ∀ j ∈ tf_fix, j ∈ LL) (S : tf_M) (q b : Int32) (n : Nat) (hfl : FlOk G nR LL ad S n) (hR : nR ≤ 12) (hb : b = 0 ∨ b = 1) : Ci l yX9_leave wsX9_leave ({ frames := 2, cells := 0, slots := 0, locals := 42 } : Room) G LL ad (pw G nR ad) (pw G nR ad S) [.ref (ad 0), .int q, .int b] (fun x u => x = bI (isP q (S 7 2) && !decide (S (100 + q.toNatClampNeg) 11 = b)) ∧ u = if (isP q (S 7 2) && !decide (S (100 + q.toNatClampNeg) 11 = b)) = true then s2 S (100 + q.toNatClampNeg) 11 b else S) := by
  have hin9 : ∀ w ∈ u_ws RX9 TX9 9, w ∈ wsX9_leave := by decide +kernel
  have lk30 : Cond.fieldLink RX9 30 "TributeFleet" "fleet" "LTributeFleet$Fleet;" ∈ wsX9_leave := by decide +kernel
  have hin6 : ∀ w ∈ u_ws RX6 TX6 12, w ∈ wsX9_leave := by decide +kernel
  have lk169 : Cond.fieldLink RX9 169 "TributeFleet$Squadron" "hasLeave" "Z" ∈ wsX9_leave := by decide +kernel
  refine ci_of (cc := cX9_leave) (maxL := 4) (ret := (some .boolean)) (by decide +kernel) rfl (Nat.le_of_ble_eq_true rfl) ?_
  intro pv ev sv mv args below meth cv A C hrt9 hnm9
  have C : Cx pv sv mv args meth cv cX9_leave 4 RX9 wsX9_leave G A LL ad := C
  show XJ pv l ev _ sv mv args below meth cv G A LL ad _ 4 0 0 _ 0 [(0, .ref (ad 0)), (1, .int q), (2, .int b)] []
  refine x_aload_n C 0 dX9_leave_0 rfl rfl ?_
  refine x_get C (T := TX9) (N := 9) (v := .ref (ad 7)) 0 1 hin9 (hF 0 (by decide)) (pf_0 G nR ad _) rfl (by decide) lk30 rfl rfl dX9_leave_1 ?_
  refine x_iload_n C 1 dX9_leave_4 rfl rfl ?_
  refine x_Vq 7 C (k_X3_find l G nR LL ad hF S n hfl q) gX9_leave_X3_find rfl (by decide +kernel) ⟨(Nat.le_of_ble_eq_true rfl), (Nat.le_of_ble_eq_true rfl)⟩ ⟨(Nat.le_of_ble_eq_true rfl), (Nat.le_of_ble_eq_true rfl)⟩ (hF 7 (by decide)) (pf_7 G nR ad _) (T := TX3) (N := 3) rfl (n := 1) rfl (st := []) (Nat.le_of_ble_eq_true rfl) rfl dX9_leave_5 (fun r9 _ hr9 => ?_)
  rcases hr9 with ⟨gq, rfl⟩ | ⟨gq, rfl⟩
  · have hq := hfl.2.2.1 _ (isP_nat (by rw [← hfl.1]; exact gq) (by have := hfl.2.1; omega)).1
    refine x_astore_n C (L1 := [(3, .ref (ad (100 + q.toNatClampNeg))), (0, .ref (ad 0)), (1, .int q), (2, .int b)]) dX9_leave_8 rfl (by decide) rfl ?_
    refine x_aload_n C 0 dX9_leave_9 rfl rfl ?_
    refine x_ifnull C dX9_leave_10 ?_
    refine x_aload_n C 0 dX9_leave_13 rfl rfl ?_
    refine x_get C (T := TX6) (N := 12) (v := .int (S (100 + q.toNatClampNeg) 11)) (100 + q.toNatClampNeg) 11 hin6 hq.2.2.2.1 (hq.1 _) rfl (by decide) lk169 rfl rfl dX9_leave_14 ?_
    refine x_iload_n C 3 dX9_leave_17 rfl rfl ?_
    refine x_icmp_ne C (tgt := 23) dX9_leave_18 (by decide) (fun c18 => ?_) (fun c18 => ?_)
    · skip
      refine x_aload_n C 0 dX9_leave_23 rfl rfl ?_
      refine x_iload_n C 3 dX9_leave_24 rfl rfl ?_
      refine y_put C (T := TX6) (N := 12) (ty := .boolean) (100 + q.toNatClampNeg) 11 hin6 tyX6 tyX6_ok nmX6 hq.2.2.2.1 (hq.1 _) (hq.1 _) rfl (by decide) lk169 rfl rfl (by decide +kernel) (by rcases hb with rfl | rfl <;> rfl) (by rcases hb with rfl | rfl <;> rfl) (Nat.le_of_ble_eq_true rfl) dX9_leave_25 ?_
      refine x_iconst C dX9_leave_28 (v := 1) (by decide) ?_
      refine x_zret C hrt9 (Or.inr rfl) (s2 S (100 + q.toNatClampNeg) 11 b) ?_ rfl dX9_leave_29
      constructor <;> simp [bI, gq, c18]
    · skip
      refine x_iconst C dX9_leave_21 (v := 0) (by decide) ?_
      refine x_zret C hrt9 (Or.inl rfl) S ?_ rfl dX9_leave_22
      constructor <;> simp [bI, gq, c18]
  · skip
    refine x_astore_nN C (L1 := [(3, .null), (0, .ref (ad 0)), (1, .int q), (2, .int b)]) dX9_leave_8 rfl (by decide) rfl ?_
    refine x_aload_nN C 0 dX9_leave_9 rfl rfl ?_
    refine x_ifnullN C (tgt := 21) dX9_leave_10 (by decide) ?_
    refine x_iconst C dX9_leave_21 (v := 0) (by decide) ?_
    refine x_zret C hrt9 (Or.inl rfl) S ?_ rfl dX9_leave_22
    constructor <;> simp [bI, gq]

set_option maxHeartbeats 4000000 in
set_option maxRecDepth 100000 in
theorem k_X9_lose (l : Launch) (G : tf_G) (nR : Nat) (LL : List Nat) (ad : Nat → Nat) (hF : ∀ j ∈ tf_fix, j ∈ LL) (S : tf_M) (q b : Int32) (n : Nat) (hfl : FlOk G nR LL ad S n) (hR : nR ≤ 12)  : Ci l yX9_lose wsX9_lose ({ frames := 2, cells := 0, slots := 0, locals := 42 } : Room) G LL ad (pw G nR ad) (pw G nR ad S) [.ref (ad 0), .int q, .int b] (fun x u => x = (if (isP q (S 7 2) && !come S (100 + q.toNatClampNeg) && isW b 1 (S (100 + q.toNatClampNeg) 2 - S (100 + q.toNatClampNeg) 8)) = true then S (100 + q.toNatClampNeg) 2 - (S (100 + q.toNatClampNeg) 8 + b) else -1) ∧ u = if (isP q (S 7 2) && !come S (100 + q.toNatClampNeg) && isW b 1 (S (100 + q.toNatClampNeg) 2 - S (100 + q.toNatClampNeg) 8)) = true then s2 S (100 + q.toNatClampNeg) 8 (S (100 + q.toNatClampNeg) 8 + b) else S) := by
  have hin9 : ∀ w ∈ u_ws RX9 TX9 9, w ∈ wsX9_lose := by decide +kernel
  have lk30 : Cond.fieldLink RX9 30 "TributeFleet" "fleet" "LTributeFleet$Fleet;" ∈ wsX9_lose := by decide +kernel
  have hin6 : ∀ w ∈ u_ws RX6 TX6 12, w ∈ wsX9_lose := by decide +kernel
  have lk180 : Cond.fieldLink RX9 180 "TributeFleet$Squadron" "lost" "I" ∈ wsX9_lose := by decide +kernel
  refine ci_of (cc := cX9_lose) (maxL := 4) (ret := (some .int)) (by decide +kernel) rfl (Nat.le_of_ble_eq_true rfl) ?_
  intro pv ev sv mv args below meth cv A C hrt9 hnm9
  have C : Cx pv sv mv args meth cv cX9_lose 4 RX9 wsX9_lose G A LL ad := C
  show XJ pv l ev _ sv mv args below meth cv G A LL ad _ 4 0 0 _ 0 [(0, .ref (ad 0)), (1, .int q), (2, .int b)] []
  refine x_aload_n C 0 dX9_lose_0 rfl rfl ?_
  refine x_get C (T := TX9) (N := 9) (v := .ref (ad 7)) 0 1 hin9 (hF 0 (by decide)) (pf_0 G nR ad _) rfl (by decide) lk30 rfl rfl dX9_lose_1 ?_
  refine x_iload_n C 1 dX9_lose_4 rfl rfl ?_
  refine x_Vq 7 C (k_X3_find l G nR LL ad hF S n hfl q) gX9_lose_X3_find rfl (by decide +kernel) ⟨(Nat.le_of_ble_eq_true rfl), (Nat.le_of_ble_eq_true rfl)⟩ ⟨(Nat.le_of_ble_eq_true rfl), (Nat.le_of_ble_eq_true rfl)⟩ (hF 7 (by decide)) (pf_7 G nR ad _) (T := TX3) (N := 3) rfl (n := 1) rfl (st := []) (Nat.le_of_ble_eq_true rfl) rfl dX9_lose_5 (fun r9 _ hr9 => ?_)
  rcases hr9 with ⟨gq, rfl⟩ | ⟨gq, rfl⟩
  · have hq := hfl.2.2.1 _ (isP_nat (by rw [← hfl.1]; exact gq) (by have := hfl.2.1; omega)).1
    refine x_astore_n C (L1 := [(3, .ref (ad (100 + q.toNatClampNeg))), (0, .ref (ad 0)), (1, .int q), (2, .int b)]) dX9_lose_8 rfl (by decide) rfl ?_
    refine x_aload_n C 0 dX9_lose_9 rfl rfl ?_
    refine x_ifnull C dX9_lose_10 ?_
    refine x_aload_n C 0 dX9_lose_13 rfl rfl ?_
    refine x_Vi (100 + q.toNatClampNeg) C (k_X6_hasCome l G nR LL ad hF S (100 + q.toNatClampNeg) (200 + q.toNatClampNeg) (300 + q.toNatClampNeg) hq  hR ) gX9_lose_X6_hasCome rfl (by decide +kernel) ⟨(Nat.le_of_ble_eq_true rfl), (Nat.le_of_ble_eq_true rfl)⟩ ⟨(Nat.le_of_ble_eq_true rfl), (Nat.le_of_ble_eq_true rfl)⟩ hq.2.2.2.1 (hq.1 _) (T := TX6) (N := 12) rfl (n := 0) rfl (st := []) (Nat.le_of_ble_eq_true rfl) rfl dX9_lose_14 (fun _ _ hr9 => ?_)
    subst hr9
    refine x_if_ne C (tgt := 32) dX9_lose_17 (by decide) (fun c17 => ?_) (fun c17 => ?_)
    · replace c17 := bI_nz c17
      refine x_iconst C dX9_lose_32 (v := -1) (by decide) ?_
      refine x_iret C hrt9 S ?_ rfl dX9_lose_33
      constructor <;> simp [bI, gq, c17, s2_eq, s2_nk]
    · replace c17 := bI_z c17
      refine x_iload_n C 3 dX9_lose_20 rfl rfl ?_
      refine x_iconst C dX9_lose_21 (v := 1) (by decide) ?_
      refine x_aload_n C 0 dX9_lose_22 rfl rfl ?_
      refine x_Vi (100 + q.toNatClampNeg) C (k_X6_bagsLeft l G nR LL ad hF S (100 + q.toNatClampNeg) (200 + q.toNatClampNeg) (300 + q.toNatClampNeg) hq  hR ) gX9_lose_X6_bagsLeft rfl (by decide +kernel) ⟨(Nat.le_of_ble_eq_true rfl), (Nat.le_of_ble_eq_true rfl)⟩ ⟨(Nat.le_of_ble_eq_true rfl), (Nat.le_of_ble_eq_true rfl)⟩ hq.2.2.2.1 (hq.1 _) (T := TX6) (N := 12) rfl (n := 0) rfl (st := [.int 1, .int b]) (Nat.le_of_ble_eq_true rfl) rfl dX9_lose_23 (fun _ _ hr9 => ?_)
      subst hr9
      refine x_Si C (k_X9_isWithin l G LL ad _ b 1 (S (100 + q.toNatClampNeg) 2 - S (100 + q.toNatClampNeg) 8)) gX9_lose_X9_isWithin rfl (by decide +kernel) ⟨(Nat.le_of_ble_eq_true rfl), (Nat.le_of_ble_eq_true rfl)⟩ ⟨(Nat.le_of_ble_eq_true rfl), (Nat.le_of_ble_eq_true rfl)⟩ (n := 3) rfl (st := []) (Nat.le_of_ble_eq_true rfl) rfl dX9_lose_26 (fun _ _ hr9 => ?_)
      subst hr9
      refine x_if_ne C (tgt := 34) dX9_lose_29 (by decide) (fun c29 => ?_) (fun c29 => ?_)
      · replace c29 := bI_nz c29
        refine x_aload_n C 0 dX9_lose_34 rfl rfl ?_
        refine x_dup C dX9_lose_35 rfl ?_
        refine x_get C (T := TX6) (N := 12) (v := .int (S (100 + q.toNatClampNeg) 8)) (100 + q.toNatClampNeg) 8 hin6 hq.2.2.2.1 (hq.1 _) rfl (by decide) lk180 rfl rfl dX9_lose_36 ?_
        refine x_iload_n C 3 dX9_lose_39 rfl rfl ?_
        refine x_iadd C dX9_lose_40 ?_
        refine y_put C (T := TX6) (N := 12) (ty := .int) (100 + q.toNatClampNeg) 8 hin6 tyX6 tyX6_ok nmX6 hq.2.2.2.1 (hq.1 _) (hq.1 _) rfl (by decide) lk180 rfl rfl (by decide +kernel) rfl rfl (Nat.le_of_ble_eq_true rfl) dX9_lose_41 ?_
        refine x_aload_n C 0 dX9_lose_44 rfl rfl ?_
        refine x_Vi (100 + q.toNatClampNeg) C (k_X6_bagsLeft l G nR LL ad hF (s2 S (100 + q.toNatClampNeg) 8 ((S (100 + q.toNatClampNeg) 8) + b)) (100 + q.toNatClampNeg) (200 + q.toNatClampNeg) (300 + q.toNatClampNeg) hq  hR ) gX9_lose_X6_bagsLeft rfl (by decide +kernel) ⟨(Nat.le_of_ble_eq_true rfl), (Nat.le_of_ble_eq_true rfl)⟩ ⟨(Nat.le_of_ble_eq_true rfl), (Nat.le_of_ble_eq_true rfl)⟩ hq.2.2.2.1 (hq.1 _) (T := TX6) (N := 12) rfl (n := 0) rfl (st := []) (Nat.le_of_ble_eq_true rfl) rfl dX9_lose_45 (fun _ _ hr9 => ?_)
        subst hr9
        refine x_iret C hrt9 (s2 S (100 + q.toNatClampNeg) 8 ((S (100 + q.toNatClampNeg) 8) + b)) ?_ rfl dX9_lose_48
        constructor <;> simp [bI, gq, c17, c29, s2_eq, s2_nk]
      · replace c29 := bI_z c29
        refine x_iconst C dX9_lose_32 (v := -1) (by decide) ?_
        refine x_iret C hrt9 S ?_ rfl dX9_lose_33
        constructor <;> simp [bI, gq, c17, c29, s2_eq, s2_nk]
  · skip
    refine x_astore_nN C (L1 := [(3, .null), (0, .ref (ad 0)), (1, .int q), (2, .int b)]) dX9_lose_8 rfl (by decide) rfl ?_
    refine x_aload_nN C 0 dX9_lose_9 rfl rfl ?_
    refine x_ifnullN C (tgt := 32) dX9_lose_10 (by decide) ?_
    refine x_iconst C dX9_lose_32 (v := -1) (by decide) ?_
    refine x_iret C hrt9 S ?_ rfl dX9_lose_33
    constructor <;> simp [bI, gq, s2_eq, s2_nk]

set_option maxHeartbeats 4000000 in
set_option maxRecDepth 100000 in
theorem k_X9_told (l : Launch) (G : tf_G) (nR : Nat) (LL : List Nat) (ad : Nat → Nat) (hF : ∀ j ∈ tf_fix, j ∈ LL) (S : tf_M) (q b : Int32) (n : Nat) (hfl : FlOk G nR LL ad S n) (hR : nR ≤ 12)  : Ci l yX9_told wsX9_told ({ frames := 3, cells := 0, slots := 0, locals := 63 } : Room) G LL ad (fun (_ : Unit) => pw G nR ad S) (pw G nR ad S) [.ref (ad 0), .int q, .int b] (fun x _ => x = if isP q (S 7 2) = true then sqTell nR S (100 + q.toNatClampNeg) (200 + q.toNatClampNeg) (300 + q.toNatClampNeg) b else -1) := by
  have hin9 : ∀ w ∈ u_ws RX9 TX9 9, w ∈ wsX9_told := by decide +kernel
  have lk30 : Cond.fieldLink RX9 30 "TributeFleet" "fleet" "LTributeFleet$Fleet;" ∈ wsX9_told := by decide +kernel
  refine ci_of (cc := cX9_told) (maxL := 4) (ret := (some .int)) (by decide +kernel) rfl (Nat.le_of_ble_eq_true rfl) ?_
  intro pv ev sv mv args below meth cv A C hrt9 hnm9
  have C : Cx pv sv mv args meth cv cX9_told 4 RX9 wsX9_told G A LL ad := C
  show XJ pv l ev _ sv mv args below meth cv G A LL ad _ 4 0 0 _ 0 [(0, .ref (ad 0)), (1, .int q), (2, .int b)] []
  refine x_aload_n C 0 dX9_told_0 rfl rfl ?_
  refine x_get C (T := TX9) (N := 9) (v := .ref (ad 7)) 0 1 hin9 (hF 0 (by decide)) (pf_0 G nR ad _) rfl (by decide) lk30 rfl rfl dX9_told_1 ?_
  refine x_iload_n C 1 dX9_told_4 rfl rfl ?_
  refine x_Vq 7 C (k_X3_find l G nR LL ad hF S n hfl q) gX9_told_X3_find rfl (by decide +kernel) ⟨(Nat.le_of_ble_eq_true rfl), (Nat.le_of_ble_eq_true rfl)⟩ ⟨(Nat.le_of_ble_eq_true rfl), (Nat.le_of_ble_eq_true rfl)⟩ (hF 7 (by decide)) (pf_7 G nR ad _) (T := TX3) (N := 3) rfl (n := 1) rfl (st := []) (Nat.le_of_ble_eq_true rfl) rfl dX9_told_5 (fun r9 _ hr9 => ?_)
  rcases hr9 with ⟨gq, rfl⟩ | ⟨gq, rfl⟩
  · have hq := hfl.2.2.1 _ (isP_nat (by rw [← hfl.1]; exact gq) (by have := hfl.2.1; omega)).1
    refine x_astore_n C (L1 := [(3, .ref (ad (100 + q.toNatClampNeg))), (0, .ref (ad 0)), (1, .int q), (2, .int b)]) dX9_told_8 rfl (by decide) rfl ?_
    refine x_aload_n C 0 dX9_told_9 rfl rfl ?_
    refine x_ifnonnull C (tgt := 17) dX9_told_10 (by decide) ?_
    refine x_aload_n C 0 dX9_told_17 rfl rfl ?_
    refine x_iload_n C 3 dX9_told_18 rfl rfl ?_
    refine x_Vi (100 + q.toNatClampNeg) C (k_X6_tell l G nR LL ad hF S (100 + q.toNatClampNeg) (200 + q.toNatClampNeg) (300 + q.toNatClampNeg) hq  hR b) gX9_told_X6_tell rfl (by decide +kernel) ⟨(Nat.le_of_ble_eq_true rfl), (Nat.le_of_ble_eq_true rfl)⟩ ⟨(Nat.le_of_ble_eq_true rfl), (Nat.le_of_ble_eq_true rfl)⟩ hq.2.2.2.1 (hq.1 _) (T := TX6) (N := 12) rfl (n := 1) rfl (st := []) (Nat.le_of_ble_eq_true rfl) rfl dX9_told_19 (fun _ _ hr9 => ?_)
    subst hr9
    refine x_iret C hrt9 () ?_ rfl dX9_told_22
    show _ = _
    simp [bI, gq]
  · skip
    refine x_astore_nN C (L1 := [(3, .null), (0, .ref (ad 0)), (1, .int q), (2, .int b)]) dX9_told_8 rfl (by decide) rfl ?_
    refine x_aload_nN C 0 dX9_told_9 rfl rfl ?_
    refine x_ifnonnullN C dX9_told_10 ?_
    refine x_iconst C dX9_told_13 (v := -1) (by decide) ?_
    refine x_goto C (tgt := 22) dX9_told_14 (by decide) ?_
    refine x_iret C hrt9 () ?_ rfl dX9_told_22
    show _ = _
    simp [bI, gq]

set_option maxHeartbeats 4000000 in
set_option maxRecDepth 100000 in
theorem k_X9_due (l : Launch) (G : tf_G) (nR : Nat) (LL : List Nat) (ad : Nat → Nat) (hF : ∀ j ∈ tf_fix, j ∈ LL) (S : tf_M) (q b : Int32) (n : Nat) (hfl : FlOk G nR LL ad S n) (hR : nR ≤ 12)  : Ci l yX9_due wsX9_due ({ frames := 2, cells := 0, slots := 0, locals := 42 } : Room) G LL ad (pw G nR ad) (pw G nR ad S) [.ref (ad 0), .int q, .int b] (fun x u => x = bI (isP q (S 7 2) && isW b 0 400) ∧ u = if (isP q (S 7 2) && isW b 0 400) = true then s2 S (100 + q.toNatClampNeg) 10 b else S) := by
  have hin9 : ∀ w ∈ u_ws RX9 TX9 9, w ∈ wsX9_due := by decide +kernel
  have lk30 : Cond.fieldLink RX9 30 "TributeFleet" "fleet" "LTributeFleet$Fleet;" ∈ wsX9_due := by decide +kernel
  have hin6 : ∀ w ∈ u_ws RX6 TX6 12, w ∈ wsX9_due := by decide +kernel
  have lk238 : Cond.fieldLink RX9 238 "TributeFleet$Squadron" "dueDay" "I" ∈ wsX9_due := by decide +kernel
  refine ci_of (cc := cX9_due) (maxL := 4) (ret := (some .boolean)) (by decide +kernel) rfl (Nat.le_of_ble_eq_true rfl) ?_
  intro pv ev sv mv args below meth cv A C hrt9 hnm9
  have C : Cx pv sv mv args meth cv cX9_due 4 RX9 wsX9_due G A LL ad := C
  show XJ pv l ev _ sv mv args below meth cv G A LL ad _ 4 0 0 _ 0 [(0, .ref (ad 0)), (1, .int q), (2, .int b)] []
  refine x_aload_n C 0 dX9_due_0 rfl rfl ?_
  refine x_get C (T := TX9) (N := 9) (v := .ref (ad 7)) 0 1 hin9 (hF 0 (by decide)) (pf_0 G nR ad _) rfl (by decide) lk30 rfl rfl dX9_due_1 ?_
  refine x_iload_n C 1 dX9_due_4 rfl rfl ?_
  refine x_Vq 7 C (k_X3_find l G nR LL ad hF S n hfl q) gX9_due_X3_find rfl (by decide +kernel) ⟨(Nat.le_of_ble_eq_true rfl), (Nat.le_of_ble_eq_true rfl)⟩ ⟨(Nat.le_of_ble_eq_true rfl), (Nat.le_of_ble_eq_true rfl)⟩ (hF 7 (by decide)) (pf_7 G nR ad _) (T := TX3) (N := 3) rfl (n := 1) rfl (st := []) (Nat.le_of_ble_eq_true rfl) rfl dX9_due_5 (fun r9 _ hr9 => ?_)
  rcases hr9 with ⟨gq, rfl⟩ | ⟨gq, rfl⟩
  · have hq := hfl.2.2.1 _ (isP_nat (by rw [← hfl.1]; exact gq) (by have := hfl.2.1; omega)).1
    refine x_astore_n C (L1 := [(3, .ref (ad (100 + q.toNatClampNeg))), (0, .ref (ad 0)), (1, .int q), (2, .int b)]) dX9_due_8 rfl (by decide) rfl ?_
    refine x_aload_n C 0 dX9_due_9 rfl rfl ?_
    refine x_ifnull C dX9_due_10 ?_
    refine x_iload_n C 3 dX9_due_13 rfl rfl ?_
    refine x_Si C (k_X9_isDay l G LL ad _ b) gX9_due_X9_isDay rfl (by decide +kernel) ⟨(Nat.le_of_ble_eq_true rfl), (Nat.le_of_ble_eq_true rfl)⟩ ⟨(Nat.le_of_ble_eq_true rfl), (Nat.le_of_ble_eq_true rfl)⟩ (n := 1) rfl (st := []) (Nat.le_of_ble_eq_true rfl) rfl dX9_due_14 (fun _ _ hr9 => ?_)
    subst hr9
    refine x_if_ne C (tgt := 22) dX9_due_17 (by decide) (fun c17 => ?_) (fun c17 => ?_)
    · replace c17 := bI_nz c17
      refine x_aload_n C 0 dX9_due_22 rfl rfl ?_
      refine x_iload_n C 3 dX9_due_23 rfl rfl ?_
      refine y_put C (T := TX6) (N := 12) (ty := .int) (100 + q.toNatClampNeg) 10 hin6 tyX6 tyX6_ok nmX6 hq.2.2.2.1 (hq.1 _) (hq.1 _) rfl (by decide) lk238 rfl rfl (by decide +kernel) rfl rfl (Nat.le_of_ble_eq_true rfl) dX9_due_24 ?_
      refine x_iconst C dX9_due_27 (v := 1) (by decide) ?_
      refine x_zret C hrt9 (Or.inr rfl) (s2 S (100 + q.toNatClampNeg) 10 b) ?_ rfl dX9_due_28
      constructor <;> simp [bI, gq, c17]
    · replace c17 := bI_z c17
      refine x_iconst C dX9_due_20 (v := 0) (by decide) ?_
      refine x_zret C hrt9 (Or.inl rfl) S ?_ rfl dX9_due_21
      constructor <;> simp [bI, gq, c17]
  · skip
    refine x_astore_nN C (L1 := [(3, .null), (0, .ref (ad 0)), (1, .int q), (2, .int b)]) dX9_due_8 rfl (by decide) rfl ?_
    refine x_aload_nN C 0 dX9_due_9 rfl rfl ?_
    refine x_ifnullN C (tgt := 20) dX9_due_10 (by decide) ?_
    refine x_iconst C dX9_due_20 (v := 0) (by decide) ?_
    refine x_zret C hrt9 (Or.inl rfl) S ?_ rfl dX9_due_21
    constructor <;> simp [bI, gq]

set_option maxHeartbeats 4000000 in
set_option maxRecDepth 100000 in
theorem k_X9_law (l : Launch) (G : tf_G) (nR : Nat) (LL : List Nat) (ad : Nat → Nat) (hF : ∀ j ∈ tf_fix, j ∈ LL) (S : tf_M) (a b : Int32) (t : Nat) (hcd : CdOk G nR LL ad S t) (hR : nR ≤ 12) : Ci l yX9_law wsX9_law ({ frames := 3, cells := 0, slots := 0, locals := 63 } : Room) G LL ad (fun (_ : Unit) => pw G nR ad S) (pw G nR ad S) [.ref (ad 0), .int a, .int b] (fun x _ => x = if isW a 0 400 = true then stTell nR S (frc S a t) (frw (frc S a t)) b else -1) := by
  have hin9 : ∀ w ∈ u_ws RX9 TX9 9, w ∈ wsX9_law := by decide +kernel
  have lk53 : Cond.fieldLink RX9 53 "TributeFleet" "code" "LTributeFleet$Code;" ∈ wsX9_law := by decide +kernel
  refine ci_of (cc := cX9_law) (maxL := 3) (ret := (some .int)) (by decide +kernel) rfl (Nat.le_of_ble_eq_true rfl) ?_
  intro pv ev sv mv args below meth cv A C hrt9 hnm9
  have C : Cx pv sv mv args meth cv cX9_law 3 RX9 wsX9_law G A LL ad := C
  show XJ pv l ev _ sv mv args below meth cv G A LL ad _ 3 0 0 _ 0 [(0, .ref (ad 0)), (1, .int a), (2, .int b)] []
  refine x_iload_n C 1 dX9_law_0 rfl rfl ?_
  refine x_Si C (k_X9_isDay l G LL ad _ a) gX9_law_X9_isDay rfl (by decide +kernel) ⟨(Nat.le_of_ble_eq_true rfl), (Nat.le_of_ble_eq_true rfl)⟩ ⟨(Nat.le_of_ble_eq_true rfl), (Nat.le_of_ble_eq_true rfl)⟩ (n := 1) rfl (st := []) (Nat.le_of_ble_eq_true rfl) rfl dX9_law_1 (fun _ _ hr9 => ?_)
  subst hr9
  refine x_if_eq C (tgt := 22) dX9_law_4 (by decide) (fun c4 => ?_) (fun c4 => ?_)
  · replace c4 := bI_z c4
    refine x_iconst C dX9_law_22 (v := -1) (by decide) ?_
    refine x_iret C hrt9 () ?_ rfl dX9_law_23
    show _ = _
    simp [c4]
  · replace c4 := bI_nz c4
    refine x_aload_n C 0 dX9_law_7 rfl rfl ?_
    refine x_get C (T := TX9) (N := 9) (v := .ref (ad 13)) 0 4 hin9 (hF 0 (by decide)) (pf_0 G nR ad _) rfl (by decide) lk53 rfl rfl dX9_law_8 ?_
    refine x_iload_n C 1 dX9_law_11 rfl rfl ?_
    refine x_Vq 13 C (k_X1_inForce l G nR LL ad hF S t hcd a) gX9_law_X1_inForce rfl (by decide +kernel) ⟨(Nat.le_of_ble_eq_true rfl), (Nat.le_of_ble_eq_true rfl)⟩ ⟨(Nat.le_of_ble_eq_true rfl), (Nat.le_of_ble_eq_true rfl)⟩ (hF 13 (by decide)) (pf_13 G nR ad _) (T := TX1) (N := 3) rfl (n := 1) rfl (st := []) (Nat.le_of_ble_eq_true rfl) rfl dX9_law_12 (fun _ _ hr9 => ?_)
    subst hr9
    refine x_iload_n C 2 dX9_law_15 rfl rfl ?_
    refine x_Vi (frc S a t) C (k_X7_tell l G nR LL ad hF S (frc S a t) (frw (frc S a t)) (frc_ok hcd _)  hR b) gX9_law_X7_tell rfl (by decide +kernel) ⟨(Nat.le_of_ble_eq_true rfl), (Nat.le_of_ble_eq_true rfl)⟩ ⟨(Nat.le_of_ble_eq_true rfl), (Nat.le_of_ble_eq_true rfl)⟩ (frc_ok hcd a).2.2.1 ((frc_ok hcd a).1 _) (T := TX7) (N := 7) rfl (n := 1) rfl (st := []) (Nat.le_of_ble_eq_true rfl) rfl dX9_law_16 (fun _ _ hr9 => ?_)
    subst hr9
    refine x_goto C (tgt := 23) dX9_law_19 (by decide) ?_
    refine x_iret C hrt9 () ?_ rfl dX9_law_23
    show _ = _
    simp [c4]

set_option maxHeartbeats 4000000 in
set_option maxRecDepth 100000 in
theorem k_X9_judge (l : Launch) (G : tf_G) (nR : Nat) (LL : List Nat) (ad : Nat → Nat) (hF : ∀ j ∈ tf_fix, j ∈ LL) (S : tf_M) (q b : Int32) (n : Nat) (hfl : FlOk G nR LL ad S n) (hR : nR ≤ 12) (t : Nat) (hcd : CdOk G nR LL ad S t) (hR1 : 1 ≤ nR) : Ci l yX9_judge wsX9_judge ({ frames := 4, cells := 0, slots := 0, locals := 87 } : Room) G LL ad (fun (_ : Unit) => pw G nR ad S) (pw G nR ad S) [.ref (ad 0), .int q, .int b] (fun x _ => x = if isP q (S 7 2) = true ∧ come S (100 + q.toNatClampNeg) = true then judgeOf nR S (100 + q.toNatClampNeg) (200 + q.toNatClampNeg) (frc S (S (100 + q.toNatClampNeg) 7) t) (frw (frc S (S (100 + q.toNatClampNeg) 7) t)) b else -1) := by
  have hin9 : ∀ w ∈ u_ws RX9 TX9 9, w ∈ wsX9_judge := by decide +kernel
  have lk30 : Cond.fieldLink RX9 30 "TributeFleet" "fleet" "LTributeFleet$Fleet;" ∈ wsX9_judge := by decide +kernel
  have lk53 : Cond.fieldLink RX9 53 "TributeFleet" "code" "LTributeFleet$Code;" ∈ wsX9_judge := by decide +kernel
  have hin6 : ∀ w ∈ u_ws RX6 TX6 12, w ∈ wsX9_judge := by decide +kernel
  have lk199 : Cond.fieldLink RX9 199 "TributeFleet$Squadron" "cameOn" "I" ∈ wsX9_judge := by decide +kernel
  refine ci_of (cc := cX9_judge) (maxL := 4) (ret := (some .int)) (by decide +kernel) rfl (Nat.le_of_ble_eq_true rfl) ?_
  intro pv ev sv mv args below meth cv A C hrt9 hnm9
  have C : Cx pv sv mv args meth cv cX9_judge 4 RX9 wsX9_judge G A LL ad := C
  show XJ pv l ev _ sv mv args below meth cv G A LL ad _ 4 0 0 _ 0 [(0, .ref (ad 0)), (1, .int q), (2, .int b)] []
  refine x_aload_n C 0 dX9_judge_0 rfl rfl ?_
  refine x_get C (T := TX9) (N := 9) (v := .ref (ad 7)) 0 1 hin9 (hF 0 (by decide)) (pf_0 G nR ad _) rfl (by decide) lk30 rfl rfl dX9_judge_1 ?_
  refine x_iload_n C 1 dX9_judge_4 rfl rfl ?_
  refine x_Vq 7 C (k_X3_find l G nR LL ad hF S n hfl q) gX9_judge_X3_find rfl (by decide +kernel) ⟨(Nat.le_of_ble_eq_true rfl), (Nat.le_of_ble_eq_true rfl)⟩ ⟨(Nat.le_of_ble_eq_true rfl), (Nat.le_of_ble_eq_true rfl)⟩ (hF 7 (by decide)) (pf_7 G nR ad _) (T := TX3) (N := 3) rfl (n := 1) rfl (st := []) (Nat.le_of_ble_eq_true rfl) rfl dX9_judge_5 (fun r9 _ hr9 => ?_)
  rcases hr9 with ⟨gq, rfl⟩ | ⟨gq, rfl⟩
  · have hq := hfl.2.2.1 _ (isP_nat (by rw [← hfl.1]; exact gq) (by have := hfl.2.1; omega)).1
    refine x_astore_n C (L1 := [(3, .ref (ad (100 + q.toNatClampNeg))), (0, .ref (ad 0)), (1, .int q), (2, .int b)]) dX9_judge_8 rfl (by decide) rfl ?_
    refine x_aload_n C 0 dX9_judge_9 rfl rfl ?_
    refine x_ifnull C dX9_judge_10 ?_
    refine x_aload_n C 0 dX9_judge_13 rfl rfl ?_
    refine x_Vi (100 + q.toNatClampNeg) C (k_X6_hasCome l G nR LL ad hF S (100 + q.toNatClampNeg) (200 + q.toNatClampNeg) (300 + q.toNatClampNeg) hq  hR ) gX9_judge_X6_hasCome rfl (by decide +kernel) ⟨(Nat.le_of_ble_eq_true rfl), (Nat.le_of_ble_eq_true rfl)⟩ ⟨(Nat.le_of_ble_eq_true rfl), (Nat.le_of_ble_eq_true rfl)⟩ hq.2.2.2.1 (hq.1 _) (T := TX6) (N := 12) rfl (n := 0) rfl (st := []) (Nat.le_of_ble_eq_true rfl) rfl dX9_judge_14 (fun _ _ hr9 => ?_)
    subst hr9
    refine x_if_ne C (tgt := 22) dX9_judge_17 (by decide) (fun c17 => ?_) (fun c17 => ?_)
    · replace c17 := bI_nz c17
      refine x_aload_n C 0 dX9_judge_22 rfl rfl ?_
      refine x_aload_n C 1 dX9_judge_23 rfl rfl ?_
      refine x_get C (T := TX9) (N := 9) (v := .ref (ad 13)) 0 4 hin9 (hF 0 (by decide)) (pf_0 G nR ad _) rfl (by decide) lk53 rfl rfl dX9_judge_24 ?_
      refine x_aload_n C 0 dX9_judge_27 rfl rfl ?_
      refine x_get C (T := TX6) (N := 12) (v := .int (S (100 + q.toNatClampNeg) 7)) (100 + q.toNatClampNeg) 7 hin6 hq.2.2.2.1 (hq.1 _) rfl (by decide) lk199 rfl rfl dX9_judge_28 ?_
      refine x_Vq 13 C (k_X1_inForce l G nR LL ad hF S t hcd (S (100 + q.toNatClampNeg) 7)) gX9_judge_X1_inForce rfl (by decide +kernel) ⟨(Nat.le_of_ble_eq_true rfl), (Nat.le_of_ble_eq_true rfl)⟩ ⟨(Nat.le_of_ble_eq_true rfl), (Nat.le_of_ble_eq_true rfl)⟩ (hF 13 (by decide)) (pf_13 G nR ad _) (T := TX1) (N := 3) rfl (n := 1) rfl (st := [.ref (ad (100 + q.toNatClampNeg))]) (Nat.le_of_ble_eq_true rfl) rfl dX9_judge_31 (fun _ _ hr9 => ?_)
      subst hr9
      refine x_iload_n C 3 dX9_judge_34 rfl rfl ?_
      refine x_Vi (100 + q.toNatClampNeg) C (k_X6_judgedBy l G nR LL ad hF S (100 + q.toNatClampNeg) (200 + q.toNatClampNeg) (300 + q.toNatClampNeg) hq (frc S (S (100 + q.toNatClampNeg) 7) t) (frw (frc S (S (100 + q.toNatClampNeg) 7) t)) (frc_ok hcd _) hR hR1 b) gX9_judge_X6_judgedBy rfl (by decide +kernel) ⟨(Nat.le_of_ble_eq_true rfl), (Nat.le_of_ble_eq_true rfl)⟩ ⟨(Nat.le_of_ble_eq_true rfl), (Nat.le_of_ble_eq_true rfl)⟩ hq.2.2.2.1 (hq.1 _) (T := TX6) (N := 12) rfl (n := 2) rfl (st := []) (Nat.le_of_ble_eq_true rfl) rfl dX9_judge_35 (fun _ _ hr9 => ?_)
      subst hr9
      refine x_iret C hrt9 () ?_ rfl dX9_judge_38
      show _ = _
      simp [bI, gq, c17]
    · replace c17 := bI_z c17
      refine x_iconst C dX9_judge_20 (v := -1) (by decide) ?_
      refine x_iret C hrt9 () ?_ rfl dX9_judge_21
      show _ = _
      simp [bI, gq, c17]
  · skip
    refine x_astore_nN C (L1 := [(3, .null), (0, .ref (ad 0)), (1, .int q), (2, .int b)]) dX9_judge_8 rfl (by decide) rfl ?_
    refine x_aload_nN C 0 dX9_judge_9 rfl rfl ?_
    refine x_ifnullN C (tgt := 20) dX9_judge_10 (by decide) ?_
    refine x_iconst C dX9_judge_20 (v := -1) (by decide) ?_
    refine x_iret C hrt9 () ?_ rfl dX9_judge_21
    show _ = _
    simp [bI, gq]

def reachOf (S : tf_M) (n : Nat) (a b : Int32) : Int32 := if isP a (S 1 0) = true then (if b = 0 then S 2 a.toNatClampNeg else if b = 1 then sumI (boatsF S a) n else if b = 2 then (if icy (S 1 7) (S 1 8) a (S 0 7) = true then 1 else 0) else if b = 3 then (if isP a (S 1 0 - 1) = true then S 3 a.toNatClampNeg else -1) else -1) else -1
def countyOf (S : tf_M) (n : Nat) (a b : Int32) : Int32 := if isW a 0 5 = true then (if b = 0 then S 18 a.toNatClampNeg else if b = 1 then S 19 a.toNatClampNeg else if b = 2 then S 20 a.toNatClampNeg else if b = 3 then sumI (bagsF S a) n else if b = 4 then leftOf S a - sumI (bagsF S a) n else -100000) else -100000
def countOf (S : tf_M) (n : Nat) (b : Int32) : Int32 := if b = 0 then S 0 7 else if b = 1 then S 7 2 else if b = 2 then S 1 6 else if b = 3 then S 13 2 else if b = 4 then S 10 1 else if b = 5 then sumI (comeF S) n else if b = 6 then S 1 0 else -1
set_option maxHeartbeats 4000000 in
set_option maxRecDepth 100000 in
theorem k_X9_reach (l : Launch) (G : tf_G) (nR : Nat) (LL : List Nat) (ad : Nat → Nat) (hF : ∀ j ∈ tf_fix, j ∈ LL) (S : tf_M) (a b : Int32) (hn : S 1 0 = nI nR) (hR1 : 1 ≤ nR) (n : Nat) (hfl : FlOk G nR LL ad S n) (hR : nR ≤ 12)  : Ci l yX9_reach wsX9_reach ({ frames := 3, cells := 0, slots := 0, locals := 66 } : Room) G LL ad (fun (_ : Unit) => pw G nR ad S) (pw G nR ad S) [.ref (ad 0), .int a, .int b] (fun x _ => x = reachOf S n a b) := by
  have hin9 : ∀ w ∈ u_ws RX9 TX9 9, w ∈ wsX9_reach := by decide +kernel
  have lk23 : Cond.fieldLink RX9 23 "TributeFleet" "canal" "LTributeFleet$Canal;" ∈ wsX9_reach := by decide +kernel
  have hin0 : ∀ w ∈ u_ws RX0 TX0 9, w ∈ wsX9_reach := by decide +kernel
  have lk86 : Cond.fieldLink RX9 86 "TributeFleet$Canal" "water" "[I" ∈ wsX9_reach := by decide +kernel
  have lk30 : Cond.fieldLink RX9 30 "TributeFleet" "fleet" "LTributeFleet$Fleet;" ∈ wsX9_reach := by decide +kernel
  have lk71 : Cond.fieldLink RX9 71 "TributeFleet" "today" "I" ∈ wsX9_reach := by decide +kernel
  have lk93 : Cond.fieldLink RX9 93 "TributeFleet$Canal" "lockBoats" "[I" ∈ wsX9_reach := by decide +kernel
  refine ci_of (cc := cX9_reach) (maxL := 3) (ret := (some .int)) (by decide +kernel) rfl (Nat.le_of_ble_eq_true rfl) ?_
  intro pv ev sv mv args below meth cv A C hrt9 hnm9
  have C : Cx pv sv mv args meth cv cX9_reach 3 RX9 wsX9_reach G A LL ad := C
  show XJ pv l ev _ sv mv args below meth cv G A LL ad _ 3 0 0 _ 0 [(0, .ref (ad 0)), (1, .int a), (2, .int b)] []
  refine x_aload_n C 0 dX9_reach_0 rfl rfl ?_
  refine x_get C (T := TX9) (N := 9) (v := .ref (ad 1)) 0 0 hin9 (hF 0 (by decide)) (pf_0 G nR ad _) rfl (by decide) lk23 rfl rfl dX9_reach_1 ?_
  refine x_iload_n C 1 dX9_reach_4 rfl rfl ?_
  refine x_Vi 1 C (k_X0_hasReach l G nR LL ad hF S a ) gX9_reach_X0_hasReach rfl (by decide +kernel) ⟨(Nat.le_of_ble_eq_true rfl), (Nat.le_of_ble_eq_true rfl)⟩ ⟨(Nat.le_of_ble_eq_true rfl), (Nat.le_of_ble_eq_true rfl)⟩ (hF 1 (by decide)) (pf_1 G nR ad _) (T := TX0) (N := 9) rfl (n := 1) rfl (st := []) (Nat.le_of_ble_eq_true rfl) rfl dX9_reach_5 (fun _ _ hr9 => ?_)
  subst hr9
  refine x_if_ne C (tgt := 13) dX9_reach_8 (by decide) (fun c8 => ?_) (fun c8 => ?_)
  · replace c8 := bI_nz c8
    refine x_iload_n C 2 dX9_reach_13 rfl rfl ?_
    rcases sw_3 b with rfl | rfl | rfl | rfl | h9
    · skip
      refine x_tableIn C dX9_reach_14 (by decide) (by decide) (off := 30) (tgt := 44) rfl (by decide) ?_
      refine x_aload_n C 0 dX9_reach_44 rfl rfl ?_
      refine x_get C (T := TX9) (N := 9) (v := .ref (ad 1)) 0 0 hin9 (hF 0 (by decide)) (pf_0 G nR ad _) rfl (by decide) lk23 rfl rfl dX9_reach_45 ?_
      refine x_get C (T := TX0) (N := 9) (v := .ref (ad 2)) 1 1 hin0 (hF 1 (by decide)) (pf_1 G nR ad _) rfl (by decide) lk86 rfl rfl dX9_reach_48 ?_
      refine x_iload_n C 1 dX9_reach_51 rfl rfl ?_
      refine x_iald C 2 (hF 2 (by decide)) (pf_2 G nR ad _) (vp_ok (by rw [← hn]; assumption) hR (by decide)) (kk := a.toNatClampNeg) rfl dX9_reach_52 ?_
      refine x_iret C hrt9 () ?_ rfl dX9_reach_53
      show _ = _
      simp [reachOf, c8]
    · skip
      refine x_tableIn C dX9_reach_14 (by decide) (by decide) (off := 40) (tgt := 54) rfl (by decide) ?_
      refine x_aload_n C 0 dX9_reach_54 rfl rfl ?_
      refine x_get C (T := TX9) (N := 9) (v := .ref (ad 7)) 0 1 hin9 (hF 0 (by decide)) (pf_0 G nR ad _) rfl (by decide) lk30 rfl rfl dX9_reach_55 ?_
      refine x_iload_n C 1 dX9_reach_58 rfl rfl ?_
      refine x_Vi 7 C (k_X3_boatsIn l G nR LL ad hF S n hfl hR a) gX9_reach_X3_boatsIn rfl (by decide +kernel) ⟨(Nat.le_of_ble_eq_true rfl), (Nat.le_of_ble_eq_true rfl)⟩ ⟨(Nat.le_of_ble_eq_true rfl), (Nat.le_of_ble_eq_true rfl)⟩ (hF 7 (by decide)) (pf_7 G nR ad _) (T := TX3) (N := 3) rfl (n := 1) rfl (st := []) (Nat.le_of_ble_eq_true rfl) rfl dX9_reach_59 (fun _ _ hr9 => ?_)
      subst hr9
      refine x_iret C hrt9 () ?_ rfl dX9_reach_62
      show _ = _
      simp [reachOf, c8]
    · skip
      refine x_tableIn C dX9_reach_14 (by decide) (by decide) (off := 49) (tgt := 63) rfl (by decide) ?_
      refine x_aload_n C 0 dX9_reach_63 rfl rfl ?_
      refine x_get C (T := TX9) (N := 9) (v := .ref (ad 1)) 0 0 hin9 (hF 0 (by decide)) (pf_0 G nR ad _) rfl (by decide) lk23 rfl rfl dX9_reach_64 ?_
      refine x_iload_n C 1 dX9_reach_67 rfl rfl ?_
      refine x_aload_n C 0 dX9_reach_68 rfl rfl ?_
      refine x_get C (T := TX9) (N := 9) (v := .int (S 0 7)) 0 7 hin9 (hF 0 (by decide)) (pf_0 G nR ad _) rfl (by decide) lk71 rfl rfl dX9_reach_69 ?_
      refine x_Vi 1 C (k_X0_isIcy l G nR LL ad hF S a (S 0 7) ) gX9_reach_X0_isIcy rfl (by decide +kernel) ⟨(Nat.le_of_ble_eq_true rfl), (Nat.le_of_ble_eq_true rfl)⟩ ⟨(Nat.le_of_ble_eq_true rfl), (Nat.le_of_ble_eq_true rfl)⟩ (hF 1 (by decide)) (pf_1 G nR ad _) (T := TX0) (N := 9) rfl (n := 2) rfl (st := []) (Nat.le_of_ble_eq_true rfl) rfl dX9_reach_72 (fun _ _ hr9 => ?_)
      subst hr9
      refine x_if_eq C (tgt := 82) dX9_reach_75 (by decide) (fun c75 => ?_) (fun c75 => ?_)
      · replace c75 := bI_z c75
        refine x_iconst C dX9_reach_82 (v := 0) (by decide) ?_
        refine x_iret C hrt9 () ?_ rfl dX9_reach_83
        show _ = _
        simp [reachOf, c8, c75]
      · replace c75 := bI_nz c75
        refine x_iconst C dX9_reach_78 (v := 1) (by decide) ?_
        refine x_goto C (tgt := 83) dX9_reach_79 (by decide) ?_
        refine x_iret C hrt9 () ?_ rfl dX9_reach_83
        show _ = _
        simp [reachOf, c8, c75]
    · skip
      refine x_tableIn C dX9_reach_14 (by decide) (by decide) (off := 70) (tgt := 84) rfl (by decide) ?_
      refine x_aload_n C 0 dX9_reach_84 rfl rfl ?_
      refine x_get C (T := TX9) (N := 9) (v := .ref (ad 1)) 0 0 hin9 (hF 0 (by decide)) (pf_0 G nR ad _) rfl (by decide) lk23 rfl rfl dX9_reach_85 ?_
      refine x_iload_n C 1 dX9_reach_88 rfl rfl ?_
      refine x_Vi 1 C (k_X0_hasLock l G nR LL ad hF S a ) gX9_reach_X0_hasLock rfl (by decide +kernel) ⟨(Nat.le_of_ble_eq_true rfl), (Nat.le_of_ble_eq_true rfl)⟩ ⟨(Nat.le_of_ble_eq_true rfl), (Nat.le_of_ble_eq_true rfl)⟩ (hF 1 (by decide)) (pf_1 G nR ad _) (T := TX0) (N := 9) rfl (n := 1) rfl (st := []) (Nat.le_of_ble_eq_true rfl) rfl dX9_reach_89 (fun _ _ hr9 => ?_)
      subst hr9
      refine x_if_eq C (tgt := 107) dX9_reach_92 (by decide) (fun c92 => ?_) (fun c92 => ?_)
      · replace c92 := bI_z c92
        refine x_iconst C dX9_reach_107 (v := -1) (by decide) ?_
        refine x_iret C hrt9 () ?_ rfl dX9_reach_108
        show _ = _
        simp [reachOf, c8, c92]
      · replace c92 := bI_nz c92
        refine x_aload_n C 0 dX9_reach_95 rfl rfl ?_
        refine x_get C (T := TX9) (N := 9) (v := .ref (ad 1)) 0 0 hin9 (hF 0 (by decide)) (pf_0 G nR ad _) rfl (by decide) lk23 rfl rfl dX9_reach_96 ?_
        refine x_get C (T := TX0) (N := 9) (v := .ref (ad 3)) 1 2 hin0 (hF 1 (by decide)) (pf_1 G nR ad _) rfl (by decide) lk93 rfl rfl dX9_reach_99 ?_
        refine x_iload_n C 1 dX9_reach_102 rfl rfl ?_
        refine x_iald C 3 (hF 3 (by decide)) (pf_3 G nR ad _) (vp_ok (n := nR - 1) (by rw [← nI_sub1 hR1, ← hn]; assumption) (by omega) (by decide)) (kk := a.toNatClampNeg) rfl dX9_reach_103 ?_
        refine x_goto C (tgt := 108) dX9_reach_104 (by decide) ?_
        refine x_iret C hrt9 () ?_ rfl dX9_reach_108
        show _ = _
        simp [reachOf, c8, c92]
    · skip
      refine x_tableOut C dX9_reach_14 h9.1 (tgt := 109) (by decide) ?_
      refine x_iconst C dX9_reach_109 (v := -1) (by decide) ?_
      refine x_iret C hrt9 () ?_ rfl dX9_reach_110
      show _ = _
      simp [reachOf, c8, h9.2]
  · replace c8 := bI_z c8
    refine x_iconst C dX9_reach_11 (v := -1) (by decide) ?_
    refine x_iret C hrt9 () ?_ rfl dX9_reach_12
    show _ = _
    simp [reachOf, c8]

set_option maxHeartbeats 4000000 in
set_option maxRecDepth 100000 in
theorem k_X9_county (l : Launch) (G : tf_G) (nR : Nat) (LL : List Nat) (ad : Nat → Nat) (hF : ∀ j ∈ tf_fix, j ∈ LL) (S : tf_M) (a b : Int32) (n : Nat) (hfl : FlOk G nR LL ad S n) (hR : nR ≤ 12)  : Ci l yX9_county wsX9_county ({ frames := 3, cells := 0, slots := 0, locals := 66 } : Room) G LL ad (fun (_ : Unit) => pw G nR ad S) (pw G nR ad S) [.ref (ad 0), .int a, .int b] (fun x _ => x = countyOf S n a b) := by
  have hin9 : ∀ w ∈ u_ws RX9 TX9 9, w ∈ wsX9_county := by decide +kernel
  have lk60 : Cond.fieldLink RX9 60 "TributeFleet" "counties" "LTributeFleet$Counties;" ∈ wsX9_county := by decide +kernel
  have hin2 : ∀ w ∈ u_ws RX2 TX2 4, w ∈ wsX9_county := by decide +kernel
  have lk216 : Cond.fieldLink RX9 216 "TributeFleet$Counties" "allotted" "[I" ∈ wsX9_county := by decide +kernel
  have lk229 : Cond.fieldLink RX9 229 "TributeFleet$Counties" "commuted" "[I" ∈ wsX9_county := by decide +kernel
  have lk232 : Cond.fieldLink RX9 232 "TributeFleet$Counties" "paid" "[I" ∈ wsX9_county := by decide +kernel
  have lk30 : Cond.fieldLink RX9 30 "TributeFleet" "fleet" "LTributeFleet$Fleet;" ∈ wsX9_county := by decide +kernel
  refine ci_of (cc := cX9_county) (maxL := 3) (ret := (some .int)) (by decide +kernel) rfl (Nat.le_of_ble_eq_true rfl) ?_
  intro pv ev sv mv args below meth cv A C hrt9 hnm9
  have C : Cx pv sv mv args meth cv cX9_county 3 RX9 wsX9_county G A LL ad := C
  show XJ pv l ev _ sv mv args below meth cv G A LL ad _ 3 0 0 _ 0 [(0, .ref (ad 0)), (1, .int a), (2, .int b)] []
  refine x_iload_n C 1 dX9_county_0 rfl rfl ?_
  refine x_Si C (k_X9_isCounty l G LL ad _ a) gX9_county_X9_isCounty rfl (by decide +kernel) ⟨(Nat.le_of_ble_eq_true rfl), (Nat.le_of_ble_eq_true rfl)⟩ ⟨(Nat.le_of_ble_eq_true rfl), (Nat.le_of_ble_eq_true rfl)⟩ (n := 1) rfl (st := []) (Nat.le_of_ble_eq_true rfl) rfl dX9_county_1 (fun _ _ hr9 => ?_)
  subst hr9
  refine x_if_ne C (tgt := 10) dX9_county_4 (by decide) (fun c4 => ?_) (fun c4 => ?_)
  · replace c4 := bI_nz c4
    refine x_iload_n C 2 dX9_county_10 rfl rfl ?_
    rcases sw_4 b with rfl | rfl | rfl | rfl | rfl | h9
    · skip
      refine x_tableIn C dX9_county_11 (by decide) (by decide) (off := 33) (tgt := 44) rfl (by decide) ?_
      refine x_aload_n C 0 dX9_county_44 rfl rfl ?_
      refine x_get C (T := TX9) (N := 9) (v := .ref (ad 17)) 0 5 hin9 (hF 0 (by decide)) (pf_0 G nR ad _) rfl (by decide) lk60 rfl rfl dX9_county_45 ?_
      refine x_get C (T := TX2) (N := 4) (v := .ref (ad 18)) 17 0 hin2 (hF 17 (by decide)) (pf_17 G nR ad _) rfl (by decide) lk216 rfl rfl dX9_county_48 ?_
      refine x_iload_n C 1 dX9_county_51 rfl rfl ?_
      refine x_iald C 18 (hF 18 (by decide)) (pf_18 G nR ad _) (vp_ok5 c4) (kk := a.toNatClampNeg) rfl dX9_county_52 ?_
      refine x_iret C hrt9 () ?_ rfl dX9_county_53
      show _ = _
      simp [countyOf, c4]
    · skip
      refine x_tableIn C dX9_county_11 (by decide) (by decide) (off := 43) (tgt := 54) rfl (by decide) ?_
      refine x_aload_n C 0 dX9_county_54 rfl rfl ?_
      refine x_get C (T := TX9) (N := 9) (v := .ref (ad 17)) 0 5 hin9 (hF 0 (by decide)) (pf_0 G nR ad _) rfl (by decide) lk60 rfl rfl dX9_county_55 ?_
      refine x_get C (T := TX2) (N := 4) (v := .ref (ad 19)) 17 1 hin2 (hF 17 (by decide)) (pf_17 G nR ad _) rfl (by decide) lk229 rfl rfl dX9_county_58 ?_
      refine x_iload_n C 1 dX9_county_61 rfl rfl ?_
      refine x_iald C 19 (hF 19 (by decide)) (pf_19 G nR ad _) (vp_ok5 c4) (kk := a.toNatClampNeg) rfl dX9_county_62 ?_
      refine x_iret C hrt9 () ?_ rfl dX9_county_63
      show _ = _
      simp [countyOf, c4]
    · skip
      refine x_tableIn C dX9_county_11 (by decide) (by decide) (off := 53) (tgt := 64) rfl (by decide) ?_
      refine x_aload_n C 0 dX9_county_64 rfl rfl ?_
      refine x_get C (T := TX9) (N := 9) (v := .ref (ad 17)) 0 5 hin9 (hF 0 (by decide)) (pf_0 G nR ad _) rfl (by decide) lk60 rfl rfl dX9_county_65 ?_
      refine x_get C (T := TX2) (N := 4) (v := .ref (ad 20)) 17 2 hin2 (hF 17 (by decide)) (pf_17 G nR ad _) rfl (by decide) lk232 rfl rfl dX9_county_68 ?_
      refine x_iload_n C 1 dX9_county_71 rfl rfl ?_
      refine x_iald C 20 (hF 20 (by decide)) (pf_20 G nR ad _) (vp_ok5 c4) (kk := a.toNatClampNeg) rfl dX9_county_72 ?_
      refine x_iret C hrt9 () ?_ rfl dX9_county_73
      show _ = _
      simp [countyOf, c4]
    · skip
      refine x_tableIn C dX9_county_11 (by decide) (by decide) (off := 63) (tgt := 74) rfl (by decide) ?_
      refine x_aload_n C 0 dX9_county_74 rfl rfl ?_
      refine x_get C (T := TX9) (N := 9) (v := .ref (ad 7)) 0 1 hin9 (hF 0 (by decide)) (pf_0 G nR ad _) rfl (by decide) lk30 rfl rfl dX9_county_75 ?_
      refine x_iload_n C 1 dX9_county_78 rfl rfl ?_
      refine x_Vi 7 C (k_X3_bagsComeOf l G nR LL ad hF S n hfl hR a) gX9_county_X3_bagsComeOf rfl (by decide +kernel) ⟨(Nat.le_of_ble_eq_true rfl), (Nat.le_of_ble_eq_true rfl)⟩ ⟨(Nat.le_of_ble_eq_true rfl), (Nat.le_of_ble_eq_true rfl)⟩ (hF 7 (by decide)) (pf_7 G nR ad _) (T := TX3) (N := 3) rfl (n := 1) rfl (st := []) (Nat.le_of_ble_eq_true rfl) rfl dX9_county_79 (fun _ _ hr9 => ?_)
      subst hr9
      refine x_iret C hrt9 () ?_ rfl dX9_county_82
      show _ = _
      simp [countyOf, c4]
    · skip
      refine x_tableIn C dX9_county_11 (by decide) (by decide) (off := 72) (tgt := 83) rfl (by decide) ?_
      refine x_aload_n C 0 dX9_county_83 rfl rfl ?_
      refine x_get C (T := TX9) (N := 9) (v := .ref (ad 17)) 0 5 hin9 (hF 0 (by decide)) (pf_0 G nR ad _) rfl (by decide) lk60 rfl rfl dX9_county_84 ?_
      refine x_iload_n C 1 dX9_county_87 rfl rfl ?_
      refine x_Vi 17 C (k_X2_leftToCommute l G nR LL ad hF S a ) gX9_county_X2_leftToCommute rfl (by decide +kernel) ⟨(Nat.le_of_ble_eq_true rfl), (Nat.le_of_ble_eq_true rfl)⟩ ⟨(Nat.le_of_ble_eq_true rfl), (Nat.le_of_ble_eq_true rfl)⟩ (hF 17 (by decide)) (pf_17 G nR ad _) (T := TX2) (N := 4) rfl (n := 1) rfl (st := []) (Nat.le_of_ble_eq_true rfl) rfl dX9_county_88 (fun _ _ hr9 => ?_)
      subst hr9
      refine x_aload_n C 0 dX9_county_91 rfl rfl ?_
      refine x_get C (T := TX9) (N := 9) (v := .ref (ad 7)) 0 1 hin9 (hF 0 (by decide)) (pf_0 G nR ad _) rfl (by decide) lk30 rfl rfl dX9_county_92 ?_
      refine x_iload_n C 1 dX9_county_95 rfl rfl ?_
      refine x_Vi 7 C (k_X3_bagsComeOf l G nR LL ad hF S n hfl hR a) gX9_county_X3_bagsComeOf rfl (by decide +kernel) ⟨(Nat.le_of_ble_eq_true rfl), (Nat.le_of_ble_eq_true rfl)⟩ ⟨(Nat.le_of_ble_eq_true rfl), (Nat.le_of_ble_eq_true rfl)⟩ (hF 7 (by decide)) (pf_7 G nR ad _) (T := TX3) (N := 3) rfl (n := 1) rfl (st := [.int (leftOf S a)]) (Nat.le_of_ble_eq_true rfl) rfl dX9_county_96 (fun _ _ hr9 => ?_)
      subst hr9
      refine x_isub C dX9_county_99 ?_
      refine x_iret C hrt9 () ?_ rfl dX9_county_100
      show _ = _
      simp [countyOf, c4]
    · skip
      refine x_tableOut C dX9_county_11 h9.1 (tgt := 101) (by decide) ?_
      refine x_ldc C (v := -100000) (by decide +kernel) dX9_county_101 ?_
      refine x_iret C hrt9 () ?_ rfl dX9_county_103
      show _ = _
      simp [countyOf, c4, h9.2]
  · replace c4 := bI_z c4
    refine x_ldc C (v := -100000) (by decide +kernel) dX9_county_7 ?_
    refine x_iret C hrt9 () ?_ rfl dX9_county_9
    show _ = _
    simp [countyOf, c4]

set_option maxHeartbeats 4000000 in
set_option maxRecDepth 100000 in
theorem k_X9_count (l : Launch) (G : tf_G) (nR : Nat) (LL : List Nat) (ad : Nat → Nat) (hF : ∀ j ∈ tf_fix, j ∈ LL) (S : tf_M) (b : Int32) (n : Nat) (hfl : FlOk G nR LL ad S n) (hR : nR ≤ 12)  : Ci l yX9_count wsX9_count ({ frames := 3, cells := 0, slots := 0, locals := 65 } : Room) G LL ad (fun (_ : Unit) => pw G nR ad S) (pw G nR ad S) [.ref (ad 0), .int b] (fun x _ => x = countOf S n b) := by
  have hin9 : ∀ w ∈ u_ws RX9 TX9 9, w ∈ wsX9_count := by decide +kernel
  have lk71 : Cond.fieldLink RX9 71 "TributeFleet" "today" "I" ∈ wsX9_count := by decide +kernel
  have lk30 : Cond.fieldLink RX9 30 "TributeFleet" "fleet" "LTributeFleet$Fleet;" ∈ wsX9_count := by decide +kernel
  have hin3 : ∀ w ∈ u_ws RX3 TX3 3, w ∈ wsX9_count := by decide +kernel
  have lk252 : Cond.fieldLink RX9 252 "TributeFleet$Fleet" "size" "I" ∈ wsX9_count := by decide +kernel
  have lk23 : Cond.fieldLink RX9 23 "TributeFleet" "canal" "LTributeFleet$Canal;" ∈ wsX9_count := by decide +kernel
  have hin0 : ∀ w ∈ u_ws RX0 TX0 9, w ∈ wsX9_count := by decide +kernel
  have lk270 : Cond.fieldLink RX9 270 "TributeFleet$Canal" "lakes" "I" ∈ wsX9_count := by decide +kernel
  have lk53 : Cond.fieldLink RX9 53 "TributeFleet" "code" "LTributeFleet$Code;" ∈ wsX9_count := by decide +kernel
  have hin1 : ∀ w ∈ u_ws RX1 TX1 3, w ∈ wsX9_count := by decide +kernel
  have lk145 : Cond.fieldLink RX9 145 "TributeFleet$Code" "size" "I" ∈ wsX9_count := by decide +kernel
  have lk37 : Cond.fieldLink RX9 37 "TributeFleet" "tape" "LTributeFleet$Tape;" ∈ wsX9_count := by decide +kernel
  have hin8 : ∀ w ∈ u_ws RX8 TX8 2, w ∈ wsX9_count := by decide +kernel
  have lk139 : Cond.fieldLink RX9 139 "TributeFleet$Tape" "size" "I" ∈ wsX9_count := by decide +kernel
  have lk123 : Cond.fieldLink RX9 123 "TributeFleet$Canal" "reaches" "I" ∈ wsX9_count := by decide +kernel
  refine ci_of (cc := cX9_count) (maxL := 2) (ret := (some .int)) (by decide +kernel) rfl (Nat.le_of_ble_eq_true rfl) ?_
  intro pv ev sv mv args below meth cv A C hrt9 hnm9
  have C : Cx pv sv mv args meth cv cX9_count 2 RX9 wsX9_count G A LL ad := C
  show XJ pv l ev _ sv mv args below meth cv G A LL ad _ 2 0 0 _ 0 [(0, .ref (ad 0)), (1, .int b)] []
  refine x_iload_n C 1 dX9_count_0 rfl rfl ?_
  rcases sw_6 b with rfl | rfl | rfl | rfl | rfl | rfl | rfl | h9
  · skip
    refine x_tableIn C dX9_count_1 (by decide) (by decide) (off := 43) (tgt := 44) rfl (by decide) ?_
    refine x_aload_n C 0 dX9_count_44 rfl rfl ?_
    refine x_get C (T := TX9) (N := 9) (v := .int (S 0 7)) 0 7 hin9 (hF 0 (by decide)) (pf_0 G nR ad _) rfl (by decide) lk71 rfl rfl dX9_count_45 ?_
    refine x_iret C hrt9 () ?_ rfl dX9_count_48
    show _ = _
    simp [countOf]
  · skip
    refine x_tableIn C dX9_count_1 (by decide) (by decide) (off := 48) (tgt := 49) rfl (by decide) ?_
    refine x_aload_n C 0 dX9_count_49 rfl rfl ?_
    refine x_get C (T := TX9) (N := 9) (v := .ref (ad 7)) 0 1 hin9 (hF 0 (by decide)) (pf_0 G nR ad _) rfl (by decide) lk30 rfl rfl dX9_count_50 ?_
    refine x_get C (T := TX3) (N := 3) (v := .int (S 7 2)) 7 2 hin3 (hF 7 (by decide)) (pf_7 G nR ad _) rfl (by decide) lk252 rfl rfl dX9_count_53 ?_
    refine x_iret C hrt9 () ?_ rfl dX9_count_56
    show _ = _
    simp [countOf]
  · skip
    refine x_tableIn C dX9_count_1 (by decide) (by decide) (off := 56) (tgt := 57) rfl (by decide) ?_
    refine x_aload_n C 0 dX9_count_57 rfl rfl ?_
    refine x_get C (T := TX9) (N := 9) (v := .ref (ad 1)) 0 0 hin9 (hF 0 (by decide)) (pf_0 G nR ad _) rfl (by decide) lk23 rfl rfl dX9_count_58 ?_
    refine x_get C (T := TX0) (N := 9) (v := .int (S 1 6)) 1 6 hin0 (hF 1 (by decide)) (pf_1 G nR ad _) rfl (by decide) lk270 rfl rfl dX9_count_61 ?_
    refine x_iret C hrt9 () ?_ rfl dX9_count_64
    show _ = _
    simp [countOf]
  · skip
    refine x_tableIn C dX9_count_1 (by decide) (by decide) (off := 64) (tgt := 65) rfl (by decide) ?_
    refine x_aload_n C 0 dX9_count_65 rfl rfl ?_
    refine x_get C (T := TX9) (N := 9) (v := .ref (ad 13)) 0 4 hin9 (hF 0 (by decide)) (pf_0 G nR ad _) rfl (by decide) lk53 rfl rfl dX9_count_66 ?_
    refine x_get C (T := TX1) (N := 3) (v := .int (S 13 2)) 13 2 hin1 (hF 13 (by decide)) (pf_13 G nR ad _) rfl (by decide) lk145 rfl rfl dX9_count_69 ?_
    refine x_iret C hrt9 () ?_ rfl dX9_count_72
    show _ = _
    simp [countOf]
  · skip
    refine x_tableIn C dX9_count_1 (by decide) (by decide) (off := 72) (tgt := 73) rfl (by decide) ?_
    refine x_aload_n C 0 dX9_count_73 rfl rfl ?_
    refine x_get C (T := TX9) (N := 9) (v := .ref (ad 10)) 0 2 hin9 (hF 0 (by decide)) (pf_0 G nR ad _) rfl (by decide) lk37 rfl rfl dX9_count_74 ?_
    refine x_get C (T := TX8) (N := 2) (v := .int (S 10 1)) 10 1 hin8 (hF 10 (by decide)) (pf_10 G nR ad _) rfl (by decide) lk139 rfl rfl dX9_count_77 ?_
    refine x_iret C hrt9 () ?_ rfl dX9_count_80
    show _ = _
    simp [countOf]
  · skip
    refine x_tableIn C dX9_count_1 (by decide) (by decide) (off := 80) (tgt := 81) rfl (by decide) ?_
    refine x_aload_n C 0 dX9_count_81 rfl rfl ?_
    refine x_get C (T := TX9) (N := 9) (v := .ref (ad 7)) 0 1 hin9 (hF 0 (by decide)) (pf_0 G nR ad _) rfl (by decide) lk30 rfl rfl dX9_count_82 ?_
    refine x_Vi 7 C (k_X3_come l G nR LL ad hF S n hfl hR) gX9_count_X3_come rfl (by decide +kernel) ⟨(Nat.le_of_ble_eq_true rfl), (Nat.le_of_ble_eq_true rfl)⟩ ⟨(Nat.le_of_ble_eq_true rfl), (Nat.le_of_ble_eq_true rfl)⟩ (hF 7 (by decide)) (pf_7 G nR ad _) (T := TX3) (N := 3) rfl (n := 0) rfl (st := []) (Nat.le_of_ble_eq_true rfl) rfl dX9_count_85 (fun _ _ hr9 => ?_)
    subst hr9
    refine x_iret C hrt9 () ?_ rfl dX9_count_88
    show _ = _
    simp [countOf]
  · skip
    refine x_tableIn C dX9_count_1 (by decide) (by decide) (off := 88) (tgt := 89) rfl (by decide) ?_
    refine x_aload_n C 0 dX9_count_89 rfl rfl ?_
    refine x_get C (T := TX9) (N := 9) (v := .ref (ad 1)) 0 0 hin9 (hF 0 (by decide)) (pf_0 G nR ad _) rfl (by decide) lk23 rfl rfl dX9_count_90 ?_
    refine x_get C (T := TX0) (N := 9) (v := .int (S 1 0)) 1 0 hin0 (hF 1 (by decide)) (pf_1 G nR ad _) rfl (by decide) lk123 rfl rfl dX9_count_93 ?_
    refine x_iret C hrt9 () ?_ rfl dX9_count_96
    show _ = _
    simp [countOf]
  · skip
    refine x_tableOut C dX9_count_1 h9.1 (tgt := 97) (by decide) ?_
    refine x_iconst C dX9_count_97 (v := -1) (by decide) ?_
    refine x_iret C hrt9 () ?_ rfl dX9_count_98
    show _ = _
    simp [countOf, h9.2]

