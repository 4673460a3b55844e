set_option maxHeartbeats 4000000 in
set_option maxRecDepth 100000 in
theorem k_X9_water (l : Launch) (G : tf_G) (nR : Nat) (LL : List Nat) (ad : Nat → Nat) (hF : ∀ j ∈ tf_fix, j ∈ LL) (S : tf_M) (a b : Int32) (hn : S 1 0 = nI nR) (hR : nR ≤ 12) : Ci l yX9_water wsX9_water ({ frames := 2, cells := 0, slots := 0, locals := 42 } : Room) G LL ad (pw G nR ad) (pw G nR ad S) [.ref (ad 0), .int a, .int b] (fun x u => x = bI (isP a (S 1 0) && isW b 0 1000) ∧ u = if (isP a (S 1 0) && isW b 0 1000) = true then s2 S 2 a.toNatClampNeg b else S) := by
  have hin9 : ∀ w ∈ u_ws RX9 TX9 9, w ∈ wsX9_water := by decide +kernel
  have lk23 : Cond.fieldLink RX9 23 "TributeFleet" "canal" "LTributeFleet$Canal;" ∈ wsX9_water := by decide +kernel
  have hin0 : ∀ w ∈ u_ws RX0 TX0 9, w ∈ wsX9_water := by decide +kernel
  have lk86 : Cond.fieldLink RX9 86 "TributeFleet$Canal" "water" "[I" ∈ wsX9_water := by decide +kernel
  refine ci_of (cc := cX9_water) (maxL := 3) (ret := (some .boolean)) (by decide +kernel) rfl (Nat.le_of_ble_eq_true rfl) ?_
  intro pv ev sv mv args below meth cv A C hrt9 hnm9
  have C : Cx pv sv mv args meth cv cX9_water 3 RX9 wsX9_water G A LL ad := C
  show XJ pv l ev _ sv mv args below meth cv G A LL ad _ 3 0 0 _ 0 [(0, .ref (ad 0)), (1, .int a), (2, .int b)] []
  refine x_aload_n C 0 dX9_water_0 rfl rfl ?_
  refine x_get C (T := TX9) (N := 9) (v := .ref (ad 1)) 0 0 hin9 (hF 0 (by decide)) (pf_0 G nR ad _) rfl (by decide) lk23 rfl rfl dX9_water_1 ?_
  refine x_iload_n C 1 dX9_water_4 rfl rfl ?_
  refine x_Vi 1 C (k_X0_hasReach l G nR LL ad hF S a ) gX9_water_X0_hasReach rfl (by decide +kernel) ⟨(Nat.le_of_ble_eq_true rfl), (Nat.le_of_ble_eq_true rfl)⟩ ⟨(Nat.le_of_ble_eq_true rfl), (Nat.le_of_ble_eq_true rfl)⟩ (hF 1 (by decide)) (pf_1 G nR ad _) (T := TX0) (N := 9) rfl (n := 1) rfl (st := []) (Nat.le_of_ble_eq_true rfl) rfl dX9_water_5 (fun _ _ hr9 => ?_)
  subst hr9
  refine x_if_eq C (tgt := 22) dX9_water_8 (by decide) (fun c8 => ?_) (fun c8 => ?_)
  · replace c8 := bI_z c8
    refine x_iconst C dX9_water_22 (v := 0) (by decide) ?_
    refine x_zret C hrt9 (Or.inl rfl) S ?_ rfl dX9_water_23
    constructor <;> simp [bI, c8]
  · replace c8 := bI_nz c8
    refine x_iload_n C 2 dX9_water_11 rfl rfl ?_
    refine x_iconst C dX9_water_12 (v := 0) (by decide) ?_
    refine x_sipush C dX9_water_13 (v := 1000) (by decide) ?_
    refine x_Si C (k_X9_isWithin l G LL ad _ b 0 1000) gX9_water_X9_isWithin rfl (by decide +kernel) ⟨(Nat.le_of_ble_eq_true rfl), (Nat.le_of_ble_eq_true rfl)⟩ ⟨(Nat.le_of_ble_eq_true rfl), (Nat.le_of_ble_eq_true rfl)⟩ (n := 3) rfl (st := []) (Nat.le_of_ble_eq_true rfl) rfl dX9_water_16 (fun _ _ hr9 => ?_)
    subst hr9
    refine x_if_ne C (tgt := 24) dX9_water_19 (by decide) (fun c19 => ?_) (fun c19 => ?_)
    · replace c19 := bI_nz c19
      refine x_aload_n C 0 dX9_water_24 rfl rfl ?_
      refine x_get C (T := TX9) (N := 9) (v := .ref (ad 1)) 0 0 hin9 (hF 0 (by decide)) (pf_0 G nR ad _) rfl (by decide) lk23 rfl rfl dX9_water_25 ?_
      refine x_get C (T := TX0) (N := 9) (v := .ref (ad 2)) 1 1 hin0 (hF 1 (by decide)) (pf_1 G nR ad _) rfl (by decide) lk86 rfl rfl dX9_water_28 ?_
      refine x_iload_n C 1 dX9_water_31 rfl rfl ?_
      refine x_iload_n C 2 dX9_water_32 rfl rfl ?_
      refine y_iast C 2 (hF 2 (by decide)) (fun f => (pf_2 G nR ad f)) (vp_ok (by rw [← hn]; assumption) hR (by decide)) (kk := a.toNatClampNeg) rfl dX9_water_33 ?_
      refine x_iconst C dX9_water_34 (v := 1) (by decide) ?_
      refine x_zret C hrt9 (Or.inr rfl) (s2 S 2 a.toNatClampNeg b) ?_ rfl dX9_water_35
      constructor <;> simp [bI, c8, c19]
    · replace c19 := bI_z c19
      refine x_iconst C dX9_water_22 (v := 0) (by decide) ?_
      refine x_zret C hrt9 (Or.inl rfl) S ?_ rfl dX9_water_23
      constructor <;> simp [bI, c8, c19]

set_option maxHeartbeats 4000000 in
set_option maxRecDepth 100000 in
theorem k_X9_lock (l : Launch) (G : tf_G) (nR : Nat) (LL : List Nat) (ad : Nat → Nat) (hF : ∀ j ∈ tf_fix, j ∈ LL) (S : tf_M) (a b : Int32) (hn : S 1 0 = nI nR) (hR : nR ≤ 12) (hR1 : 1 ≤ nR) : Ci l yX9_lock wsX9_lock ({ frames := 2, cells := 0, slots := 0, locals := 42 } : Room) G LL ad (pw G nR ad) (pw G nR ad S) [.ref (ad 0), .int a, .int b] (fun x u => x = bI (isP a (S 1 0 - 1) && isW b 1 60) ∧ u = if (isP a (S 1 0 - 1) && isW b 1 60) = true then s2 S 3 a.toNatClampNeg b else S) := by
  have hin9 : ∀ w ∈ u_ws RX9 TX9 9, w ∈ wsX9_lock := by decide +kernel
  have lk23 : Cond.fieldLink RX9 23 "TributeFleet" "canal" "LTributeFleet$Canal;" ∈ wsX9_lock := by decide +kernel
  have hin0 : ∀ w ∈ u_ws RX0 TX0 9, w ∈ wsX9_lock := by decide +kernel
  have lk93 : Cond.fieldLink RX9 93 "TributeFleet$Canal" "lockBoats" "[I" ∈ wsX9_lock := by decide +kernel
  refine ci_of (cc := cX9_lock) (maxL := 3) (ret := (some .boolean)) (by decide +kernel) rfl (Nat.le_of_ble_eq_true rfl) ?_
  intro pv ev sv mv args below meth cv A C hrt9 hnm9
  have C : Cx pv sv mv args meth cv cX9_lock 3 RX9 wsX9_lock G A LL ad := C
  show XJ pv l ev _ sv mv args below meth cv G A LL ad _ 3 0 0 _ 0 [(0, .ref (ad 0)), (1, .int a), (2, .int b)] []
  refine x_aload_n C 0 dX9_lock_0 rfl rfl ?_
  refine x_get C (T := TX9) (N := 9) (v := .ref (ad 1)) 0 0 hin9 (hF 0 (by decide)) (pf_0 G nR ad _) rfl (by decide) lk23 rfl rfl dX9_lock_1 ?_
  refine x_iload_n C 1 dX9_lock_4 rfl rfl ?_
  refine x_Vi 1 C (k_X0_hasLock l G nR LL ad hF S a ) gX9_lock_X0_hasLock rfl (by decide +kernel) ⟨(Nat.le_of_ble_eq_true rfl), (Nat.le_of_ble_eq_true rfl)⟩ ⟨(Nat.le_of_ble_eq_true rfl), (Nat.le_of_ble_eq_true rfl)⟩ (hF 1 (by decide)) (pf_1 G nR ad _) (T := TX0) (N := 9) rfl (n := 1) rfl (st := []) (Nat.le_of_ble_eq_true rfl) rfl dX9_lock_5 (fun _ _ hr9 => ?_)
  subst hr9
  refine x_if_eq C (tgt := 21) dX9_lock_8 (by decide) (fun c8 => ?_) (fun c8 => ?_)
  · replace c8 := bI_z c8
    refine x_iconst C dX9_lock_21 (v := 0) (by decide) ?_
    refine x_zret C hrt9 (Or.inl rfl) S ?_ rfl dX9_lock_22
    constructor <;> simp [bI, c8]
  · replace c8 := bI_nz c8
    refine x_iload_n C 2 dX9_lock_11 rfl rfl ?_
    refine x_iconst C dX9_lock_12 (v := 1) (by decide) ?_
    refine x_bipush C dX9_lock_13 (v := 60) (by decide) ?_
    refine x_Si C (k_X9_isWithin l G LL ad _ b 1 60) gX9_lock_X9_isWithin rfl (by decide +kernel) ⟨(Nat.le_of_ble_eq_true rfl), (Nat.le_of_ble_eq_true rfl)⟩ ⟨(Nat.le_of_ble_eq_true rfl), (Nat.le_of_ble_eq_true rfl)⟩ (n := 3) rfl (st := []) (Nat.le_of_ble_eq_true rfl) rfl dX9_lock_15 (fun _ _ hr9 => ?_)
    subst hr9
    refine x_if_ne C (tgt := 23) dX9_lock_18 (by decide) (fun c18 => ?_) (fun c18 => ?_)
    · replace c18 := bI_nz c18
      refine x_aload_n C 0 dX9_lock_23 rfl rfl ?_
      refine x_get C (T := TX9) (N := 9) (v := .ref (ad 1)) 0 0 hin9 (hF 0 (by decide)) (pf_0 G nR ad _) rfl (by decide) lk23 rfl rfl dX9_lock_24 ?_
      refine x_get C (T := TX0) (N := 9) (v := .ref (ad 3)) 1 2 hin0 (hF 1 (by decide)) (pf_1 G nR ad _) rfl (by decide) lk93 rfl rfl dX9_lock_27 ?_
      refine x_iload_n C 1 dX9_lock_30 rfl rfl ?_
      refine x_iload_n C 2 dX9_lock_31 rfl rfl ?_
      refine y_iast C 3 (hF 3 (by decide)) (fun f => (pf_3 G nR ad f)) (vp_ok (n := nR - 1) (by rw [← nI_sub1 hR1, ← hn]; assumption) (by omega) (by decide)) (kk := a.toNatClampNeg) rfl dX9_lock_32 ?_
      refine x_iconst C dX9_lock_33 (v := 1) (by decide) ?_
      refine x_zret C hrt9 (Or.inr rfl) (s2 S 3 a.toNatClampNeg b) ?_ rfl dX9_lock_34
      constructor <;> simp [bI, c8, c18]
    · replace c18 := bI_z c18
      refine x_iconst C dX9_lock_21 (v := 0) (by decide) ?_
      refine x_zret C hrt9 (Or.inl rfl) S ?_ rfl dX9_lock_22
      constructor <;> simp [bI, c8, c18]

set_option maxHeartbeats 4000000 in
set_option maxRecDepth 100000 in
theorem k_X9_lake (l : Launch) (G : tf_G) (nR : Nat) (LL : List Nat) (ad : Nat → Nat) (hF : ∀ j ∈ tf_fix, j ∈ LL) (S : tf_M) (a b : Int32) (nk : Nat) (hk : S 1 6 = nI nk) (hk4 : nk ≤ 4) : Ci l yX9_lake wsX9_lake ({ frames := 2, cells := 0, slots := 0, locals := 42 } : Room) G LL ad (pw G nR ad) (pw G nR ad S) [.ref (ad 0), .int a, .int b] (fun x u => x = (if (isP a (S 1 0) && isW b 0 5000) = true ∧ nk < 4 then nI nk else -1) ∧ u = if (isP a (S 1 0) && isW b 0 5000) = true ∧ nk < 4 then s2 (s2 (s2 S 4 nk a) 5 nk b) 1 6 (nI (nk + 1)) else S) := by
  have hin9 : ∀ w ∈ u_ws RX9 TX9 9, w ∈ wsX9_lake := by decide +kernel
  have lk23 : Cond.fieldLink RX9 23 "TributeFleet" "canal" "LTributeFleet$Canal;" ∈ wsX9_lake := by decide +kernel
  refine ci_of (cc := cX9_lake) (maxL := 3) (ret := (some .int)) (by decide +kernel) rfl (Nat.le_of_ble_eq_true rfl) ?_
  intro pv ev sv mv args below meth cv A C hrt9 hnm9
  have C : Cx pv sv mv args meth cv cX9_lake 3 RX9 wsX9_lake G A LL ad := C
  show XJ pv l ev _ sv mv args below meth cv G A LL ad _ 3 0 0 _ 0 [(0, .ref (ad 0)), (1, .int a), (2, .int b)] []
  refine x_aload_n C 0 dX9_lake_0 rfl rfl ?_
  refine x_get C (T := TX9) (N := 9) (v := .ref (ad 1)) 0 0 hin9 (hF 0 (by decide)) (pf_0 G nR ad _) rfl (by decide) lk23 rfl rfl dX9_lake_1 ?_
  refine x_iload_n C 1 dX9_lake_4 rfl rfl ?_
  refine x_Vi 1 C (k_X0_hasReach l G nR LL ad hF S a ) gX9_lake_X0_hasReach rfl (by decide +kernel) ⟨(Nat.le_of_ble_eq_true rfl), (Nat.le_of_ble_eq_true rfl)⟩ ⟨(Nat.le_of_ble_eq_true rfl), (Nat.le_of_ble_eq_true rfl)⟩ (hF 1 (by decide)) (pf_1 G nR ad _) (T := TX0) (N := 9) rfl (n := 1) rfl (st := []) (Nat.le_of_ble_eq_true rfl) rfl dX9_lake_5 (fun _ _ hr9 => ?_)
  subst hr9
  refine x_if_eq C (tgt := 22) dX9_lake_8 (by decide) (fun c8 => ?_) (fun c8 => ?_)
  · replace c8 := bI_z c8
    refine x_iconst C dX9_lake_22 (v := -1) (by decide) ?_
    refine x_iret C hrt9 S ?_ rfl dX9_lake_23
    constructor <;> simp [bI, c8]
  · replace c8 := bI_nz c8
    refine x_iload_n C 2 dX9_lake_11 rfl rfl ?_
    refine x_iconst C dX9_lake_12 (v := 0) (by decide) ?_
    refine x_sipush C dX9_lake_13 (v := 5000) (by decide) ?_
    refine x_Si C (k_X9_isWithin l G LL ad _ b 0 5000) gX9_lake_X9_isWithin rfl (by decide +kernel) ⟨(Nat.le_of_ble_eq_true rfl), (Nat.le_of_ble_eq_true rfl)⟩ ⟨(Nat.le_of_ble_eq_true rfl), (Nat.le_of_ble_eq_true rfl)⟩ (n := 3) rfl (st := []) (Nat.le_of_ble_eq_true rfl) rfl dX9_lake_16 (fun _ _ hr9 => ?_)
    subst hr9
    refine x_if_ne C (tgt := 24) dX9_lake_19 (by decide) (fun c19 => ?_) (fun c19 => ?_)
    · replace c19 := bI_nz c19
      refine x_aload_n C 0 dX9_lake_24 rfl rfl ?_
      refine x_get C (T := TX9) (N := 9) (v := .ref (ad 1)) 0 0 hin9 (hF 0 (by decide)) (pf_0 G nR ad _) rfl (by decide) lk23 rfl rfl dX9_lake_25 ?_
      refine x_iload_n C 1 dX9_lake_28 rfl rfl ?_
      refine x_iload_n C 2 dX9_lake_29 rfl rfl ?_
      refine x_Vi 1 C (k_X0_addLake l G nR LL ad hF S a b nk hk hk4) gX9_lake_X0_addLake rfl (by decide +kernel) ⟨(Nat.le_of_ble_eq_true rfl), (Nat.le_of_ble_eq_true rfl)⟩ ⟨(Nat.le_of_ble_eq_true rfl), (Nat.le_of_ble_eq_true rfl)⟩ (hF 1 (by decide)) (pf_1 G nR ad _) (T := TX0) (N := 9) rfl (n := 2) rfl (st := []) (Nat.le_of_ble_eq_true rfl) rfl dX9_lake_30 (fun _ _ hr9 => ?_)
      obtain ⟨rfl, rfl⟩ := hr9
      refine x_iret C hrt9 (if nk < 4 then s2 (s2 (s2 S 4 nk a) 5 nk b) 1 6 (nI (nk + 1)) else S) ?_ rfl dX9_lake_33
      constructor <;> simp [bI, c8, c19]
    · replace c19 := bI_z c19
      refine x_iconst C dX9_lake_22 (v := -1) (by decide) ?_
      refine x_iret C hrt9 S ?_ rfl dX9_lake_23
      constructor <;> simp [bI, c8, c19]

set_option maxHeartbeats 4000000 in
set_option maxRecDepth 100000 in
theorem k_X9_give (l : Launch) (G : tf_G) (nR : Nat) (LL : List Nat) (ad : Nat → Nat) (hF : ∀ j ∈ tf_fix, j ∈ LL) (S : tf_M) (a b : Int32) (nk : Nat) (hk : S 1 6 = nI nk) (hk4 : nk ≤ 4) : Ci l yX9_give wsX9_give ({ frames := 2, cells := 0, slots := 0, locals := 42 } : Room) G LL ad (pw G nR ad) (pw G nR ad S) [.ref (ad 0), .int a, .int b] (fun x u => x = bI (isP a (S 1 6) && isW b 0 100) ∧ u = if (isP a (S 1 6) && isW b 0 100) = true then s2 S 6 a.toNatClampNeg b else S) := by
  have hin9 : ∀ w ∈ u_ws RX9 TX9 9, w ∈ wsX9_give := by decide +kernel
  have lk23 : Cond.fieldLink RX9 23 "TributeFleet" "canal" "LTributeFleet$Canal;" ∈ wsX9_give := by decide +kernel
  have hin0 : ∀ w ∈ u_ws RX0 TX0 9, w ∈ wsX9_give := by decide +kernel
  have lk102 : Cond.fieldLink RX9 102 "TributeFleet$Canal" "lakeGives" "[I" ∈ wsX9_give := by decide +kernel
  refine ci_of (cc := cX9_give) (maxL := 3) (ret := (some .boolean)) (by decide +kernel) rfl (Nat.le_of_ble_eq_true rfl) ?_
  intro pv ev sv mv args below meth cv A C hrt9 hnm9
  have C : Cx pv sv mv args meth cv cX9_give 3 RX9 wsX9_give G A LL ad := C
  show XJ pv l ev _ sv mv args below meth cv G A LL ad _ 3 0 0 _ 0 [(0, .ref (ad 0)), (1, .int a), (2, .int b)] []
  refine x_aload_n C 0 dX9_give_0 rfl rfl ?_
  refine x_get C (T := TX9) (N := 9) (v := .ref (ad 1)) 0 0 hin9 (hF 0 (by decide)) (pf_0 G nR ad _) rfl (by decide) lk23 rfl rfl dX9_give_1 ?_
  refine x_iload_n C 1 dX9_give_4 rfl rfl ?_
  refine x_Vi 1 C (k_X0_hasLake l G nR LL ad hF S a ) gX9_give_X0_hasLake rfl (by decide +kernel) ⟨(Nat.le_of_ble_eq_true rfl), (Nat.le_of_ble_eq_true rfl)⟩ ⟨(Nat.le_of_ble_eq_true rfl), (Nat.le_of_ble_eq_true rfl)⟩ (hF 1 (by decide)) (pf_1 G nR ad _) (T := TX0) (N := 9) rfl (n := 1) rfl (st := []) (Nat.le_of_ble_eq_true rfl) rfl dX9_give_5 (fun _ _ hr9 => ?_)
  subst hr9
  refine x_if_eq C (tgt := 21) dX9_give_8 (by decide) (fun c8 => ?_) (fun c8 => ?_)
  · replace c8 := bI_z c8
    refine x_iconst C dX9_give_21 (v := 0) (by decide) ?_
    refine x_zret C hrt9 (Or.inl rfl) S ?_ rfl dX9_give_22
    constructor <;> simp [bI, c8]
  · replace c8 := bI_nz c8
    refine x_iload_n C 2 dX9_give_11 rfl rfl ?_
    refine x_iconst C dX9_give_12 (v := 0) (by decide) ?_
    refine x_bipush C dX9_give_13 (v := 100) (by decide) ?_
    refine x_Si C (k_X9_isWithin l G LL ad _ b 0 100) gX9_give_X9_isWithin rfl (by decide +kernel) ⟨(Nat.le_of_ble_eq_true rfl), (Nat.le_of_ble_eq_true rfl)⟩ ⟨(Nat.le_of_ble_eq_true rfl), (Nat.le_of_ble_eq_true rfl)⟩ (n := 3) rfl (st := []) (Nat.le_of_ble_eq_true rfl) rfl dX9_give_15 (fun _ _ hr9 => ?_)
    subst hr9
    refine x_if_ne C (tgt := 23) dX9_give_18 (by decide) (fun c18 => ?_) (fun c18 => ?_)
    · replace c18 := bI_nz c18
      refine x_aload_n C 0 dX9_give_23 rfl rfl ?_
      refine x_get C (T := TX9) (N := 9) (v := .ref (ad 1)) 0 0 hin9 (hF 0 (by decide)) (pf_0 G nR ad _) rfl (by decide) lk23 rfl rfl dX9_give_24 ?_
      refine x_get C (T := TX0) (N := 9) (v := .ref (ad 6)) 1 5 hin0 (hF 1 (by decide)) (pf_1 G nR ad _) rfl (by decide) lk102 rfl rfl dX9_give_27 ?_
      refine x_iload_n C 1 dX9_give_30 rfl rfl ?_
      refine x_iload_n C 2 dX9_give_31 rfl rfl ?_
      refine y_iast C 6 (hF 6 (by decide)) (fun f => (pf_6 G nR ad f)) (vp_ok (by rw [← hk]; assumption) hk4 (by decide)) (kk := a.toNatClampNeg) rfl dX9_give_32 ?_
      refine x_iconst C dX9_give_33 (v := 1) (by decide) ?_
      refine x_zret C hrt9 (Or.inr rfl) (s2 S 6 a.toNatClampNeg b) ?_ rfl dX9_give_34
      constructor <;> simp [bI, c8, c18]
    · replace c18 := bI_z c18
      refine x_iconst C dX9_give_21 (v := 0) (by decide) ?_
      refine x_zret C hrt9 (Or.inl rfl) S ?_ rfl dX9_give_22
      constructor <;> simp [bI, c8, c18]

set_option maxHeartbeats 4000000 in
set_option maxRecDepth 100000 in
theorem k_X9_ice (l : Launch) (G : tf_G) (nR : Nat) (LL : List Nat) (ad : Nat → Nat) (hF : ∀ j ∈ tf_fix, j ∈ LL) (S : tf_M) (a b : Int32) : Ci l yX9_ice wsX9_ice ({ frames := 2, cells := 0, slots := 0, locals := 42 } : Room) G LL ad (pw G nR ad) (pw G nR ad S) [.ref (ad 0), .int a, .int b] (fun x u => x = bI (isW a 0 400 && isP b (S 1 0)) ∧ u = if (isW a 0 400 && isP b (S 1 0)) = true then s2 (s2 S 1 7 a) 1 8 b else S) := by
  have hin9 : ∀ w ∈ u_ws RX9 TX9 9, w ∈ wsX9_ice := by decide +kernel
  have lk23 : Cond.fieldLink RX9 23 "TributeFleet" "canal" "LTributeFleet$Canal;" ∈ wsX9_ice := by decide +kernel
  have hin0 : ∀ w ∈ u_ws RX0 TX0 9, w ∈ wsX9_ice := by decide +kernel
  have lk108 : Cond.fieldLink RX9 108 "TributeFleet$Canal" "iceDay" "I" ∈ wsX9_ice := by decide +kernel
  have lk111 : Cond.fieldLink RX9 111 "TributeFleet$Canal" "iceReach" "I" ∈ wsX9_ice := by decide +kernel
  refine ci_of (cc := cX9_ice) (maxL := 3) (ret := (some .boolean)) (by decide +kernel) rfl (Nat.le_of_ble_eq_true rfl) ?_
  intro pv ev sv mv args below meth cv A C hrt9 hnm9
  have C : Cx pv sv mv args meth cv cX9_ice 3 RX9 wsX9_ice G A LL ad := C
  show XJ pv l ev _ sv mv args below meth cv G A LL ad _ 3 0 0 _ 0 [(0, .ref (ad 0)), (1, .int a), (2, .int b)] []
  refine x_iload_n C 1 dX9_ice_0 rfl rfl ?_
  refine x_Si C (k_X9_isDay l G LL ad _ a) gX9_ice_X9_isDay rfl (by decide +kernel) ⟨(Nat.le_of_ble_eq_true rfl), (Nat.le_of_ble_eq_true rfl)⟩ ⟨(Nat.le_of_ble_eq_true rfl), (Nat.le_of_ble_eq_true rfl)⟩ (n := 1) rfl (st := []) (Nat.le_of_ble_eq_true rfl) rfl dX9_ice_1 (fun _ _ hr9 => ?_)
  subst hr9
  refine x_if_eq C (tgt := 18) dX9_ice_4 (by decide) (fun c4 => ?_) (fun c4 => ?_)
  · replace c4 := bI_z c4
    refine x_iconst C dX9_ice_18 (v := 0) (by decide) ?_
    refine x_zret C hrt9 (Or.inl rfl) S ?_ rfl dX9_ice_19
    constructor <;> simp [bI, c4]
  · replace c4 := bI_nz c4
    refine x_aload_n C 0 dX9_ice_7 rfl rfl ?_
    refine x_get C (T := TX9) (N := 9) (v := .ref (ad 1)) 0 0 hin9 (hF 0 (by decide)) (pf_0 G nR ad _) rfl (by decide) lk23 rfl rfl dX9_ice_8 ?_
    refine x_iload_n C 2 dX9_ice_11 rfl rfl ?_
    refine x_Vi 1 C (k_X0_hasReach l G nR LL ad hF S b ) gX9_ice_X0_hasReach rfl (by decide +kernel) ⟨(Nat.le_of_ble_eq_true rfl), (Nat.le_of_ble_eq_true rfl)⟩ ⟨(Nat.le_of_ble_eq_true rfl), (Nat.le_of_ble_eq_true rfl)⟩ (hF 1 (by decide)) (pf_1 G nR ad _) (T := TX0) (N := 9) rfl (n := 1) rfl (st := []) (Nat.le_of_ble_eq_true rfl) rfl dX9_ice_12 (fun _ _ hr9 => ?_)
    subst hr9
    refine x_if_ne C (tgt := 20) dX9_ice_15 (by decide) (fun c15 => ?_) (fun c15 => ?_)
    · replace c15 := bI_nz c15
      refine x_aload_n C 0 dX9_ice_20 rfl rfl ?_
      refine x_get C (T := TX9) (N := 9) (v := .ref (ad 1)) 0 0 hin9 (hF 0 (by decide)) (pf_0 G nR ad _) rfl (by decide) lk23 rfl rfl dX9_ice_21 ?_
      refine x_iload_n C 1 dX9_ice_24 rfl rfl ?_
      refine y_put C (T := TX0) (N := 9) (ty := .int) 1 7 hin0 tyX0 tyX0_ok nmX0 (hF 1 (by decide)) (pf_1 G nR ad _) (pf_1 G nR ad _) rfl (by decide) lk108 rfl rfl (by decide +kernel) rfl rfl (Nat.le_of_ble_eq_true rfl) dX9_ice_25 ?_
      refine x_aload_n C 0 dX9_ice_28 rfl rfl ?_
      refine x_get C (T := TX9) (N := 9) (v := .ref (ad 1)) 0 0 hin9 (hF 0 (by decide)) (pf_0 G nR ad _) rfl (by decide) lk23 rfl rfl dX9_ice_29 ?_
      refine x_iload_n C 2 dX9_ice_32 rfl rfl ?_
      refine y_put C (T := TX0) (N := 9) (ty := .int) 1 8 hin0 tyX0 tyX0_ok nmX0 (hF 1 (by decide)) (pf_1 G nR ad _) (pf_1 G nR ad _) rfl (by decide) lk111 rfl rfl (by decide +kernel) rfl rfl (Nat.le_of_ble_eq_true rfl) dX9_ice_33 ?_
      refine x_iconst C dX9_ice_36 (v := 1) (by decide) ?_
      refine x_zret C hrt9 (Or.inr rfl) (s2 (s2 S 1 7 a) 1 8 b) ?_ rfl dX9_ice_37
      constructor <;> simp [bI, c4, c15]
    · replace c15 := bI_z c15
      refine x_iconst C dX9_ice_18 (v := 0) (by decide) ?_
      refine x_zret C hrt9 (Or.inl rfl) S ?_ rfl dX9_ice_19
      constructor <;> simp [bI, c4, c15]

set_option maxHeartbeats 4000000 in
set_option maxRecDepth 100000 in
theorem k_X9_fault (l : Launch) (G : tf_G) (nR : Nat) (LL : List Nat) (ad : Nat → Nat) (hF : ∀ j ∈ tf_fix, j ∈ LL) (S : tf_M)  : Ci l yX9_fault wsX9_fault ({ frames := 0, cells := 0, slots := 0, locals := 0 } : Room) G LL ad (fun (_ : Unit) => pw G nR ad S) (pw G nR ad S) [.ref (ad 0)] (fun x _ => x = S 0 8) := by
  have hin9 : ∀ w ∈ u_ws RX9 TX9 9, w ∈ wsX9_fault := by decide +kernel
  have lk75 : Cond.fieldLink RX9 75 "TributeFleet" "faultPlace" "I" ∈ wsX9_fault := by decide +kernel
  refine ci_of (cc := cX9_fault) (maxL := 1) (ret := (some .int)) (by decide +kernel) rfl (Nat.le_of_ble_eq_true rfl) ?_
  intro pv ev sv mv args below meth cv A C hrt9 hnm9
  have C : Cx pv sv mv args meth cv cX9_fault 1 RX9 wsX9_fault G A LL ad := C
  show XJ pv l ev _ sv mv args below meth cv G A LL ad _ 1 0 0 _ 0 [(0, .ref (ad 0))] []
  refine x_aload_n C 0 dX9_fault_0 rfl rfl ?_
  refine x_get C (T := TX9) (N := 9) (v := .int (S 0 8)) 0 8 hin9 (hF 0 (by decide)) (pf_0 G nR ad _) rfl (by decide) lk75 rfl rfl dX9_fault_1 ?_
  refine x_iret C hrt9 () ?_ rfl dX9_fault_4
  rfl

set_option maxHeartbeats 4000000 in
set_option maxRecDepth 100000 in
theorem k_X9_store (l : Launch) (G : tf_G) (nR : Nat) (LL : List Nat) (ad : Nat → Nat) (hF : ∀ j ∈ tf_fix, j ∈ LL) (S : tf_M) (a : Int32) (nk : Nat) (hk : S 1 6 = nI nk) (hk4 : nk ≤ 4) : Ci l yX9_store wsX9_store ({ frames := 2, cells := 0, slots := 0, locals := 42 } : Room) G LL ad (fun (_ : Unit) => pw G nR ad S) (pw G nR ad S) [.ref (ad 0), .int a] (fun x _ => x = if isP a (S 1 6) = true then S 5 a.toNatClampNeg else -1) := by
  have hin9 : ∀ w ∈ u_ws RX9 TX9 9, w ∈ wsX9_store := by decide +kernel
  have lk23 : Cond.fieldLink RX9 23 "TributeFleet" "canal" "LTributeFleet$Canal;" ∈ wsX9_store := by decide +kernel
  have hin0 : ∀ w ∈ u_ws RX0 TX0 9, w ∈ wsX9_store := by decide +kernel
  have lk213 : Cond.fieldLink RX9 213 "TributeFleet$Canal" "lakeStore" "[I" ∈ wsX9_store := by decide +kernel
  refine ci_of (cc := cX9_store) (maxL := 2) (ret := (some .int)) (by decide +kernel) rfl (Nat.le_of_ble_eq_true rfl) ?_
  intro pv ev sv mv args below meth cv A C hrt9 hnm9
  have C : Cx pv sv mv args meth cv cX9_store 2 RX9 wsX9_store G A LL ad := C
  show XJ pv l ev _ sv mv args below meth cv G A LL ad _ 2 0 0 _ 0 [(0, .ref (ad 0)), (1, .int a)] []
  refine x_aload_n C 0 dX9_store_0 rfl rfl ?_
  refine x_get C (T := TX9) (N := 9) (v := .ref (ad 1)) 0 0 hin9 (hF 0 (by decide)) (pf_0 G nR ad _) rfl (by decide) lk23 rfl rfl dX9_store_1 ?_
  refine x_iload_n C 1 dX9_store_4 rfl rfl ?_
  refine x_Vi 1 C (k_X0_hasLake l G nR LL ad hF S a ) gX9_store_X0_hasLake rfl (by decide +kernel) ⟨(Nat.le_of_ble_eq_true rfl), (Nat.le_of_ble_eq_true rfl)⟩ ⟨(Nat.le_of_ble_eq_true rfl), (Nat.le_of_ble_eq_true rfl)⟩ (hF 1 (by decide)) (pf_1 G nR ad _) (T := TX0) (N := 9) rfl (n := 1) rfl (st := []) (Nat.le_of_ble_eq_true rfl) rfl dX9_store_5 (fun _ _ hr9 => ?_)
  subst hr9
  refine x_if_eq C (tgt := 23) dX9_store_8 (by decide) (fun c8 => ?_) (fun c8 => ?_)
  · replace c8 := bI_z c8
    refine x_iconst C dX9_store_23 (v := -1) (by decide) ?_
    refine x_iret C hrt9 () ?_ rfl dX9_store_24
    show _ = _
    simp [c8]
  · replace c8 := bI_nz c8
    refine x_aload_n C 0 dX9_store_11 rfl rfl ?_
    refine x_get C (T := TX9) (N := 9) (v := .ref (ad 1)) 0 0 hin9 (hF 0 (by decide)) (pf_0 G nR ad _) rfl (by decide) lk23 rfl rfl dX9_store_12 ?_
    refine x_get C (T := TX0) (N := 9) (v := .ref (ad 5)) 1 4 hin0 (hF 1 (by decide)) (pf_1 G nR ad _) rfl (by decide) lk213 rfl rfl dX9_store_15 ?_
    refine x_iload_n C 1 dX9_store_18 rfl rfl ?_
    refine x_iald C 5 (hF 5 (by decide)) (pf_5 G nR ad _) (vp_ok (by rw [← hk]; assumption) hk4 (by decide)) (kk := a.toNatClampNeg) rfl dX9_store_19 ?_
    refine x_goto C (tgt := 24) dX9_store_20 (by decide) ?_
    refine x_iret C hrt9 () ?_ rfl dX9_store_24
    show _ = _
    simp [c8]

set_option maxHeartbeats 4000000 in
set_option maxRecDepth 100000 in
theorem k_X9_allot (l : Launch) (G : tf_G) (nR : Nat) (LL : List Nat) (ad : Nat → Nat) (hF : ∀ j ∈ tf_fix, j ∈ LL) (S : tf_M) (a b : Int32) : Ci l yX9_allot wsX9_allot ({ frames := 2, cells := 0, slots := 0, locals := 42 } : Room) G LL ad (pw G nR ad) (pw G nR ad S) [.ref (ad 0), .int a, .int b] (fun x u => x = bI (isW a 0 5 && isW b 0 10000) ∧ u = if (isW a 0 5 && isW b 0 10000) = true then s2 S 18 a.toNatClampNeg b else S) := by
  have hin9 : ∀ w ∈ u_ws RX9 TX9 9, w ∈ wsX9_allot := by decide +kernel
  have lk60 : Cond.fieldLink RX9 60 "TributeFleet" "counties" "LTributeFleet$Counties;" ∈ wsX9_allot := by decide +kernel
  have hin2 : ∀ w ∈ u_ws RX2 TX2 4, w ∈ wsX9_allot := by decide +kernel
  have lk216 : Cond.fieldLink RX9 216 "TributeFleet$Counties" "allotted" "[I" ∈ wsX9_allot := by decide +kernel
  refine ci_of (cc := cX9_allot) (maxL := 3) (ret := (some .boolean)) (by decide +kernel) rfl (Nat.le_of_ble_eq_true rfl) ?_
  intro pv ev sv mv args below meth cv A C hrt9 hnm9
  have C : Cx pv sv mv args meth cv cX9_allot 3 RX9 wsX9_allot G A LL ad := C
  show XJ pv l ev _ sv mv args below meth cv G A LL ad _ 3 0 0 _ 0 [(0, .ref (ad 0)), (1, .int a), (2, .int b)] []
  refine x_iload_n C 1 dX9_allot_0 rfl rfl ?_
  refine x_Si C (k_X9_isCounty l G LL ad _ a) gX9_allot_X9_isCounty rfl (by decide +kernel) ⟨(Nat.le_of_ble_eq_true rfl), (Nat.le_of_ble_eq_true rfl)⟩ ⟨(Nat.le_of_ble_eq_true rfl), (Nat.le_of_ble_eq_true rfl)⟩ (n := 1) rfl (st := []) (Nat.le_of_ble_eq_true rfl) rfl dX9_allot_1 (fun _ _ hr9 => ?_)
  subst hr9
  refine x_if_eq C (tgt := 18) dX9_allot_4 (by decide) (fun c4 => ?_) (fun c4 => ?_)
  · replace c4 := bI_z c4
    refine x_iconst C dX9_allot_18 (v := 0) (by decide) ?_
    refine x_zret C hrt9 (Or.inl rfl) S ?_ rfl dX9_allot_19
    constructor <;> simp [bI, c4]
  · replace c4 := bI_nz c4
    refine x_iload_n C 2 dX9_allot_7 rfl rfl ?_
    refine x_iconst C dX9_allot_8 (v := 0) (by decide) ?_
    refine x_sipush C dX9_allot_9 (v := 10000) (by decide) ?_
    refine x_Si C (k_X9_isWithin l G LL ad _ b 0 10000) gX9_allot_X9_isWithin rfl (by decide +kernel) ⟨(Nat.le_of_ble_eq_true rfl), (Nat.le_of_ble_eq_true rfl)⟩ ⟨(Nat.le_of_ble_eq_true rfl), (Nat.le_of_ble_eq_true rfl)⟩ (n := 3) rfl (st := []) (Nat.le_of_ble_eq_true rfl) rfl dX9_allot_12 (fun _ _ hr9 => ?_)
    subst hr9
    refine x_if_ne C (tgt := 20) dX9_allot_15 (by decide) (fun c15 => ?_) (fun c15 => ?_)
    · replace c15 := bI_nz c15
      refine x_aload_n C 0 dX9_allot_20 rfl rfl ?_
      refine x_get C (T := TX9) (N := 9) (v := .ref (ad 17)) 0 5 hin9 (hF 0 (by decide)) (pf_0 G nR ad _) rfl (by decide) lk60 rfl rfl dX9_allot_21 ?_
      refine x_get C (T := TX2) (N := 4) (v := .ref (ad 18)) 17 0 hin2 (hF 17 (by decide)) (pf_17 G nR ad _) rfl (by decide) lk216 rfl rfl dX9_allot_24 ?_
      refine x_iload_n C 1 dX9_allot_27 rfl rfl ?_
      refine x_iload_n C 2 dX9_allot_28 rfl rfl ?_
      refine y_iast C 18 (hF 18 (by decide)) (fun f => (pf_18 G nR ad f)) (vp_ok5 c4) (kk := a.toNatClampNeg) rfl dX9_allot_29 ?_
      refine x_iconst C dX9_allot_30 (v := 1) (by decide) ?_
      refine x_zret C hrt9 (Or.inr rfl) (s2 S 18 a.toNatClampNeg b) ?_ rfl dX9_allot_31
      constructor <;> simp [bI, c4, c15]
    · replace c15 := bI_z c15
      refine x_iconst C dX9_allot_18 (v := 0) (by decide) ?_
      refine x_zret C hrt9 (Or.inl rfl) S ?_ rfl dX9_allot_19
      constructor <;> simp [bI, c4, c15]

set_option maxHeartbeats 4000000 in
set_option maxRecDepth 100000 in
theorem k_X9_rate (l : Launch) (G : tf_G) (nR : Nat) (LL : List Nat) (ad : Nat → Nat) (hF : ∀ j ∈ tf_fix, j ∈ LL) (S : tf_M) (a : Int32) : Ci l yX9_rate wsX9_rate ({ frames := 1, cells := 0, slots := 0, locals := 22 } : Room) G LL ad (pw G nR ad) (pw G nR ad S) [.ref (ad 0), .int a] (fun x u => x = bI (isW a 0 100) ∧ u = if (isW a 0 100) = true then s2 S 17 3 a else S) := by
  have hin9 : ∀ w ∈ u_ws RX9 TX9 9, w ∈ wsX9_rate := by decide +kernel
  have lk60 : Cond.fieldLink RX9 60 "TributeFleet" "counties" "LTributeFleet$Counties;" ∈ wsX9_rate := by decide +kernel
  have hin2 : ∀ w ∈ u_ws RX2 TX2 4, w ∈ wsX9_rate := by decide +kernel
  have lk219 : Cond.fieldLink RX9 219 "TributeFleet$Counties" "coinsABag" "I" ∈ wsX9_rate := by decide +kernel
  refine ci_of (cc := cX9_rate) (maxL := 2) (ret := (some .boolean)) (by decide +kernel) rfl (Nat.le_of_ble_eq_true rfl) ?_
  intro pv ev sv mv args below meth cv A C hrt9 hnm9
  have C : Cx pv sv mv args meth cv cX9_rate 2 RX9 wsX9_rate G A LL ad := C
  show XJ pv l ev _ sv mv args below meth cv G A LL ad _ 2 0 0 _ 0 [(0, .ref (ad 0)), (1, .int a)] []
  refine x_iload_n C 1 dX9_rate_0 rfl rfl ?_
  refine x_iconst C dX9_rate_1 (v := 0) (by decide) ?_
  refine x_bipush C dX9_rate_2 (v := 100) (by decide) ?_
  refine x_Si C (k_X9_isWithin l G LL ad _ a 0 100) gX9_rate_X9_isWithin rfl (by decide +kernel) ⟨(Nat.le_of_ble_eq_true rfl), (Nat.le_of_ble_eq_true rfl)⟩ ⟨(Nat.le_of_ble_eq_true rfl), (Nat.le_of_ble_eq_true rfl)⟩ (n := 3) rfl (st := []) (Nat.le_of_ble_eq_true rfl) rfl dX9_rate_4 (fun _ _ hr9 => ?_)
  subst hr9
  refine x_if_ne C (tgt := 12) dX9_rate_7 (by decide) (fun c7 => ?_) (fun c7 => ?_)
  · replace c7 := bI_nz c7
    refine x_aload_n C 0 dX9_rate_12 rfl rfl ?_
    refine x_get C (T := TX9) (N := 9) (v := .ref (ad 17)) 0 5 hin9 (hF 0 (by decide)) (pf_0 G nR ad _) rfl (by decide) lk60 rfl rfl dX9_rate_13 ?_
    refine x_iload_n C 1 dX9_rate_16 rfl rfl ?_
    refine y_put C (T := TX2) (N := 4) (ty := .int) 17 3 hin2 tyX2 tyX2_ok nmX2 (hF 17 (by decide)) (pf_17 G nR ad _) (pf_17 G nR ad _) rfl (by decide) lk219 rfl rfl (by decide +kernel) rfl rfl (Nat.le_of_ble_eq_true rfl) dX9_rate_17 ?_
    refine x_iconst C dX9_rate_20 (v := 1) (by decide) ?_
    refine x_zret C hrt9 (Or.inr rfl) (s2 S 17 3 a) ?_ rfl dX9_rate_21
    constructor <;> simp [bI, c7]
  · replace c7 := bI_z c7
    refine x_iconst C dX9_rate_10 (v := 0) (by decide) ?_
    refine x_zret C hrt9 (Or.inl rfl) S ?_ rfl dX9_rate_11
    constructor <;> simp [bI, c7]

set_option maxHeartbeats 4000000 in
set_option maxRecDepth 100000 in
theorem k_X9_commute (l : Launch) (G : tf_G) (nR : Nat) (LL : List Nat) (ad : Nat → Nat) (hF : ∀ j ∈ tf_fix, j ∈ LL) (S : tf_M) (a b : Int32) : Ci l yX9_commute wsX9_commute ({ frames := 3, cells := 0, slots := 0, locals := 65 } : Room) G LL ad (pw G nR ad) (pw G nR ad S) [.ref (ad 0), .int a, .int b] (fun x u => x = (if (isW a 0 5 && isW b 1 (leftOf S a)) = true then b * S 17 3 else -1) ∧ u = if (isW a 0 5 && isW b 1 (leftOf S a)) = true then payS S a b else S) := by
  have hin9 : ∀ w ∈ u_ws RX9 TX9 9, w ∈ wsX9_commute := by decide +kernel
  have lk60 : Cond.fieldLink RX9 60 "TributeFleet" "counties" "LTributeFleet$Counties;" ∈ wsX9_commute := by decide +kernel
  refine ci_of (cc := cX9_commute) (maxL := 3) (ret := (some .int)) (by decide +kernel) rfl (Nat.le_of_ble_eq_true rfl) ?_
  intro pv ev sv mv args below meth cv A C hrt9 hnm9
  have C : Cx pv sv mv args meth cv cX9_commute 3 RX9 wsX9_commute G A LL ad := C
  show XJ pv l ev _ sv mv args below meth cv G A LL ad _ 3 0 0 _ 0 [(0, .ref (ad 0)), (1, .int a), (2, .int b)] []
  refine x_iload_n C 1 dX9_commute_0 rfl rfl ?_
  refine x_Si C (k_X9_isCounty l G LL ad _ a) gX9_commute_X9_isCounty rfl (by decide +kernel) ⟨(Nat.le_of_ble_eq_true rfl), (Nat.le_of_ble_eq_true rfl)⟩ ⟨(Nat.le_of_ble_eq_true rfl), (Nat.le_of_ble_eq_true rfl)⟩ (n := 1) rfl (st := []) (Nat.le_of_ble_eq_true rfl) rfl dX9_commute_1 (fun _ _ hr9 => ?_)
  subst hr9
  refine x_if_eq C (tgt := 23) dX9_commute_4 (by decide) (fun c4 => ?_) (fun c4 => ?_)
  · replace c4 := bI_z c4
    refine x_iconst C dX9_commute_23 (v := -1) (by decide) ?_
    refine x_iret C hrt9 S ?_ rfl dX9_commute_24
    constructor <;> simp [bI, c4]
  · replace c4 := bI_nz c4
    refine x_iload_n C 2 dX9_commute_7 rfl rfl ?_
    refine x_iconst C dX9_commute_8 (v := 1) (by decide) ?_
    refine x_aload_n C 0 dX9_commute_9 rfl rfl ?_
    refine x_get C (T := TX9) (N := 9) (v := .ref (ad 17)) 0 5 hin9 (hF 0 (by decide)) (pf_0 G nR ad _) rfl (by decide) lk60 rfl rfl dX9_commute_10 ?_
    refine x_iload_n C 1 dX9_commute_13 rfl rfl ?_
    refine x_Vi 17 C (k_X2_leftToCommute l G nR LL ad hF S a ) gX9_commute_X2_leftToCommute rfl (by decide +kernel) ⟨(Nat.le_of_ble_eq_true rfl), (Nat.le_of_ble_eq_true rfl)⟩ ⟨(Nat.le_of_ble_eq_true rfl), (Nat.le_of_ble_eq_true rfl)⟩ (hF 17 (by decide)) (pf_17 G nR ad _) (T := TX2) (N := 4) rfl (n := 1) rfl (st := [.int 1, .int b]) (Nat.le_of_ble_eq_true rfl) rfl dX9_commute_14 (fun _ _ hr9 => ?_)
    subst hr9
    refine x_Si C (k_X9_isWithin l G LL ad _ b 1 (leftOf S a)) gX9_commute_X9_isWithin rfl (by decide +kernel) ⟨(Nat.le_of_ble_eq_true rfl), (Nat.le_of_ble_eq_true rfl)⟩ ⟨(Nat.le_of_ble_eq_true rfl), (Nat.le_of_ble_eq_true rfl)⟩ (n := 3) rfl (st := []) (Nat.le_of_ble_eq_true rfl) rfl dX9_commute_17 (fun _ _ hr9 => ?_)
    subst hr9
    refine x_if_ne C (tgt := 25) dX9_commute_20 (by decide) (fun c20 => ?_) (fun c20 => ?_)
    · replace c20 := bI_nz c20
      refine x_aload_n C 0 dX9_commute_25 rfl rfl ?_
      refine x_get C (T := TX9) (N := 9) (v := .ref (ad 17)) 0 5 hin9 (hF 0 (by decide)) (pf_0 G nR ad _) rfl (by decide) lk60 rfl rfl dX9_commute_26 ?_
      refine x_iload_n C 1 dX9_commute_29 rfl rfl ?_
      refine x_iload_n C 2 dX9_commute_30 rfl rfl ?_
      refine x_Vi 17 C (k_X2_payFor l G nR LL ad hF S a b ) gX9_commute_X2_payFor rfl (by decide +kernel) ⟨(Nat.le_of_ble_eq_true rfl), (Nat.le_of_ble_eq_true rfl)⟩ ⟨(Nat.le_of_ble_eq_true rfl), (Nat.le_of_ble_eq_true rfl)⟩ (hF 17 (by decide)) (pf_17 G nR ad _) (T := TX2) (N := 4) rfl (n := 2) rfl (st := []) (Nat.le_of_ble_eq_true rfl) rfl dX9_commute_31 (fun _ _ hr9 => ?_)
      obtain ⟨rfl, rfl⟩ := hr9
      refine x_iret C hrt9 (payS S a b) ?_ rfl dX9_commute_34
      constructor <;> simp [bI, c4, c20]
    · replace c20 := bI_z c20
      refine x_iconst C dX9_commute_23 (v := -1) (by decide) ?_
      refine x_iret C hrt9 S ?_ rfl dX9_commute_24
      constructor <;> simp [bI, c4, c20]

theorem app4_o (S : tf_M) (a o q k : Nat) (v : Int32) (h : a ≠ o) : app4 S a o q k v o q = nI (k + 4) := by
  unfold app4 app1
  rw [s2_eq]
def feedS (S : tf_M) (t o q k : Nat) (a b c d e : Int32) : tf_M := app4 (app4 (app4 (app4 (app4 S t o q k a) t o q (k + 4) b) t o q (k + 8) c) t o q (k + 12) d) t o q (k + 16) e
set_option maxHeartbeats 4000000 in
set_option maxRecDepth 100000 in
theorem k_X9_feed (l : Launch) (G : tf_G) (nR : Nat) (LL : List Nat) (ad : Nat → Nat) (hF : ∀ j ∈ tf_fix, j ∈ LL) (S : tf_M) (v1 v2 v3 v4 v5 : Int32) (k : Nat) (hk : S 10 1 = nI k) (hk4 : k ≤ 400) : Ci l yX9_feed wsX9_feed ({ frames := 1, cells := 0, slots := 0, locals := 22 } : Room) G LL ad (pw G nR ad) (pw G nR ad S) [.ref (ad 0), .int v1, .int v2, .int v3, .int v4, .int v5] (fun x u => x = (if k + 20 ≤ 400 then nI (k + 20) else -1) ∧ u = if k + 20 ≤ 400 then feedS S 11 10 1 k v1 v2 v3 v4 v5 else S) := by
  have hin9 : ∀ w ∈ u_ws RX9 TX9 9, w ∈ wsX9_feed := by decide +kernel
  have lk37 : Cond.fieldLink RX9 37 "TributeFleet" "tape" "LTributeFleet$Tape;" ∈ wsX9_feed := by decide +kernel
  have hin8 : ∀ w ∈ u_ws RX8 TX8 2, w ∈ wsX9_feed := by decide +kernel
  have lk139 : Cond.fieldLink RX9 139 "TributeFleet$Tape" "size" "I" ∈ wsX9_feed := by decide +kernel
  refine ci_of (cc := cX9_feed) (maxL := 6) (ret := (some .int)) (by decide +kernel) rfl (Nat.le_of_ble_eq_true rfl) ?_
  intro pv ev sv mv args below meth cv A C hrt9 hnm9
  have C : Cx pv sv mv args meth cv cX9_feed 6 RX9 wsX9_feed G A LL ad := C
  show XJ pv l ev _ sv mv args below meth cv G A LL ad _ 6 0 0 _ 0 [(0, .ref (ad 0)), (1, .int v1), (2, .int v2), (3, .int v3), (4, .int v4), (5, .int v5)] []
  refine x_aload_n C 0 dX9_feed_0 rfl rfl ?_
  refine x_get C (T := TX9) (N := 9) (v := .ref (ad 10)) 0 2 hin9 (hF 0 (by decide)) (pf_0 G nR ad _) rfl (by decide) lk37 rfl rfl dX9_feed_1 ?_
  refine x_Vi 10 C (k_X8_hasRoom l G nR LL ad hF S  ) gX9_feed_X8_hasRoom rfl (by decide +kernel) ⟨(Nat.le_of_ble_eq_true rfl), (Nat.le_of_ble_eq_true rfl)⟩ ⟨(Nat.le_of_ble_eq_true rfl), (Nat.le_of_ble_eq_true rfl)⟩ (hF 10 (by decide)) (pf_10 G nR ad _) (T := TX8) (N := 2) rfl (n := 0) rfl (st := []) (Nat.le_of_ble_eq_true rfl) rfl dX9_feed_4 (fun _ _ hr9 => ?_)
  subst hr9
  refine x_if_ne C (tgt := 12) dX9_feed_7 (by decide) (fun c7 => ?_) (fun c7 => ?_)
  · replace c7 := bI_nz c7
    have hc : k + 20 ≤ 400 := by
      rw [hk] at c7
      have h9 : nI k + nI 20 ≤ nI 400 := of_decide_eq_true c7
      rw [← nI_ad] at h9
      exact nI_ge' h9 (by omega)
    refine x_aload_n C 0 dX9_feed_12 rfl rfl ?_
    refine x_get C (T := TX9) (N := 9) (v := .ref (ad 10)) 0 2 hin9 (hF 0 (by decide)) (pf_0 G nR ad _) rfl (by decide) lk37 rfl rfl dX9_feed_13 ?_
    refine x_iload_n C 1 dX9_feed_16 rfl rfl ?_
    refine x_Vv 10 C (k_X8_append l G nR LL ad hF S v1 k (hk) (by omega)) gX9_feed_X8_append rfl (by decide +kernel) ⟨(Nat.le_of_ble_eq_true rfl), (Nat.le_of_ble_eq_true rfl)⟩ ⟨(Nat.le_of_ble_eq_true rfl), (Nat.le_of_ble_eq_true rfl)⟩ (hF 10 (by decide)) (pf_10 G nR ad _) (T := TX8) (N := 2) rfl (n := 1) rfl (st := []) (Nat.le_of_ble_eq_true rfl) rfl dX9_feed_17 (fun _ hr9 => ?_)
    subst hr9
    refine x_aload_n C 0 dX9_feed_20 rfl rfl ?_
    refine x_get C (T := TX9) (N := 9) (v := .ref (ad 10)) 0 2 hin9 (hF 0 (by decide)) (pf_0 G nR ad _) rfl (by decide) lk37 rfl rfl dX9_feed_21 ?_
    refine x_iload_n C 2 dX9_feed_24 rfl rfl ?_
    refine x_Vv 10 C (k_X8_append l G nR LL ad hF (app4 S 11 10 1 k v1) v2 (k + 4) (app4_o _ _ _ _ _ _ (by decide)) (by omega)) gX9_feed_X8_append rfl (by decide +kernel) ⟨(Nat.le_of_ble_eq_true rfl), (Nat.le_of_ble_eq_true rfl)⟩ ⟨(Nat.le_of_ble_eq_true rfl), (Nat.le_of_ble_eq_true rfl)⟩ (hF 10 (by decide)) (pf_10 G nR ad _) (T := TX8) (N := 2) rfl (n := 1) rfl (st := []) (Nat.le_of_ble_eq_true rfl) rfl dX9_feed_25 (fun _ hr9 => ?_)
    subst hr9
    refine x_aload_n C 0 dX9_feed_28 rfl rfl ?_
    refine x_get C (T := TX9) (N := 9) (v := .ref (ad 10)) 0 2 hin9 (hF 0 (by decide)) (pf_0 G nR ad _) rfl (by decide) lk37 rfl rfl dX9_feed_29 ?_
    refine x_iload_n C 3 dX9_feed_32 rfl rfl ?_
    refine x_Vv 10 C (k_X8_append l G nR LL ad hF (app4 (app4 S 11 10 1 k v1) 11 10 1 (k + 4) v2) v3 (k + 8) (app4_o _ _ _ _ _ _ (by decide)) (by omega)) gX9_feed_X8_append rfl (by decide +kernel) ⟨(Nat.le_of_ble_eq_true rfl), (Nat.le_of_ble_eq_true rfl)⟩ ⟨(Nat.le_of_ble_eq_true rfl), (Nat.le_of_ble_eq_true rfl)⟩ (hF 10 (by decide)) (pf_10 G nR ad _) (T := TX8) (N := 2) rfl (n := 1) rfl (st := []) (Nat.le_of_ble_eq_true rfl) rfl dX9_feed_33 (fun _ hr9 => ?_)
    subst hr9
    refine x_aload_n C 0 dX9_feed_36 rfl rfl ?_
    refine x_get C (T := TX9) (N := 9) (v := .ref (ad 10)) 0 2 hin9 (hF 0 (by decide)) (pf_0 G nR ad _) rfl (by decide) lk37 rfl rfl dX9_feed_37 ?_
    refine x_iload C 4 dX9_feed_40 rfl ?_
    refine x_Vv 10 C (k_X8_append l G nR LL ad hF (app4 (app4 (app4 S 11 10 1 k v1) 11 10 1 (k + 4) v2) 11 10 1 (k + 8) v3) v4 (k + 12) (app4_o _ _ _ _ _ _ (by decide)) (by omega)) gX9_feed_X8_append rfl (by decide +kernel) ⟨(Nat.le_of_ble_eq_true rfl), (Nat.le_of_ble_eq_true rfl)⟩ ⟨(Nat.le_of_ble_eq_true rfl), (Nat.le_of_ble_eq_true rfl)⟩ (hF 10 (by decide)) (pf_10 G nR ad _) (T := TX8) (N := 2) rfl (n := 1) rfl (st := []) (Nat.le_of_ble_eq_true rfl) rfl dX9_feed_42 (fun _ hr9 => ?_)
    subst hr9
    refine x_aload_n C 0 dX9_feed_45 rfl rfl ?_
    refine x_get C (T := TX9) (N := 9) (v := .ref (ad 10)) 0 2 hin9 (hF 0 (by decide)) (pf_0 G nR ad _) rfl (by decide) lk37 rfl rfl dX9_feed_46 ?_
    refine x_iload C 5 dX9_feed_49 rfl ?_
    refine x_Vv 10 C (k_X8_append l G nR LL ad hF (app4 (app4 (app4 (app4 S 11 10 1 k v1) 11 10 1 (k + 4) v2) 11 10 1 (k + 8) v3) 11 10 1 (k + 12) v4) v5 (k + 16) (app4_o _ _ _ _ _ _ (by decide)) (by omega)) gX9_feed_X8_append rfl (by decide +kernel) ⟨(Nat.le_of_ble_eq_true rfl), (Nat.le_of_ble_eq_true rfl)⟩ ⟨(Nat.le_of_ble_eq_true rfl), (Nat.le_of_ble_eq_true rfl)⟩ (hF 10 (by decide)) (pf_10 G nR ad _) (T := TX8) (N := 2) rfl (n := 1) rfl (st := []) (Nat.le_of_ble_eq_true rfl) rfl dX9_feed_51 (fun _ hr9 => ?_)
    subst hr9
    refine x_aload_n C 0 dX9_feed_54 rfl rfl ?_
    refine x_get C (T := TX9) (N := 9) (v := .ref (ad 10)) 0 2 hin9 (hF 0 (by decide)) (pf_0 G nR ad _) rfl (by decide) lk37 rfl rfl dX9_feed_55 ?_
    refine x_get C (T := TX8) (N := 2) (v := .int ((app4 (app4 (app4 (app4 (app4 S 11 10 1 k v1) 11 10 1 (k + 4) v2) 11 10 1 (k + 8) v3) 11 10 1 (k + 12) v4) 11 10 1 (k + 16) v5) 10 1)) 10 1 hin8 (hF 10 (by decide)) (pf_10 G nR ad _) rfl (by decide) lk139 rfl rfl dX9_feed_58 ?_
    refine x_iret C hrt9 (app4 (app4 (app4 (app4 (app4 S 11 10 1 k v1) 11 10 1 (k + 4) v2) 11 10 1 (k + 8) v3) 11 10 1 (k + 12) v4) 11 10 1 (k + 16) v5) ?_ rfl dX9_feed_61
    rw [if_pos hc, if_pos hc]
    exact ⟨app4_o _ _ _ _ _ _ (by decide), rfl⟩
  · replace c7 := bI_z c7
    refine x_iconst C dX9_feed_10 (v := -1) (by decide) ?_
    refine x_iret C hrt9 S ?_ rfl dX9_feed_11
    have hc : ¬ k + 20 ≤ 400 := fun h => by
      rw [hk] at c7
      exact absurd (show nI k + 20 ≤ 400 from by have := nI_le (a := k + 20) (b := 400) h (by decide); rw [nI_ad] at this; exact this) (by simpa using c7)
    rw [if_neg hc, if_neg hc]
    exact ⟨rfl, rfl⟩

