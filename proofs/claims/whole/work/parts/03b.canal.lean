theorem nI_lt' {a b : Nat} (h : ¬ nI b ≤ nI a) (ha : a < 2 ^ 31) : a < b := Nat.lt_of_not_le fun q => h (nI_le q ha)
theorem nI_ge' {a b : Nat} (h : nI b ≤ nI a) (hb : b < 2 ^ 31) : b ≤ a := Nat.le_of_not_lt fun q => nI_ge q hb h
theorem nI_lt2 {a b : Nat} (h : nI a < nI b) (ha : a < 2 ^ 31) : a < b := Nat.lt_of_not_le fun q => nI_nlt q ha h
theorem nI_ge2 {a b : Nat} (h : ¬ nI a < nI b) (hb : b < 2 ^ 31) : b ≤ a := Nat.le_of_not_lt fun q => h (nI_lt q hb)
theorem nI_inj {a b : Nat} (h : nI a = nI b) (ha : a < 2 ^ 31) (hb : b < 2 ^ 31) : a = b := by rw [← nI_clamp ha, ← nI_clamp hb, h]
theorem nI_12 {n : Nat} (h : n ≤ 12) : n < 2 ^ 31 := by omega
/-- a place that the guard let through -/
theorem vp_ok {v : Int32} {n N : Nat} (h : isP v (nI n) = true) (hn : n ≤ N) (hN : N < 2 ^ 31) : vp_in v N := by
  obtain ⟨h0, h1⟩ := isP_t h
  have h2 : v.toInt < n := by
    have := Int32.lt_iff_toInt_lt.mp h1
    rwa [nI_toInt (by omega)] at this
  have h3 : 0 ≤ v.toInt := by simpa using Int32.le_iff_toInt_le.mp h0
  intro q
  rcases q with q | q
  · exact absurd q (Int32.not_lt.mpr h0)
  · have : v.toNatClampNeg = v.toInt.toNat := rfl
    omega
theorem isP_nat {v : Int32} {n : Nat} (h : isP v (nI n) = true) (hn : n < 2 ^ 31) : v.toNatClampNeg < n ∧ v = nI v.toNatClampNeg := by
  obtain ⟨h0, h1⟩ := isP_t h
  have h2 : v.toInt < n := by
    have := Int32.lt_iff_toInt_lt.mp h1
    rwa [nI_toInt hn] at this
  have h3 : 0 ≤ v.toInt := by simpa using Int32.le_iff_toInt_le.mp h0
  have h4 : v.toNatClampNeg = v.toInt.toNat := rfl
  refine ⟨by omega, Int32.toInt_inj.mp ?_⟩
  rw [nI_toInt (by omega)]
  omega

set_option maxHeartbeats 4000000 in
set_option maxRecDepth 100000 in
theorem k_X0_hasReach (l : Launch) (G : tf_G) (nR : Nat) (LL : List Nat) (ad : Nat → Nat) (hF : ∀ j ∈ tf_fix, j ∈ LL) (S : tf_M) (r : Int32) : Ci l yX0_hasReach wsX0_hasReach ({ frames := 1, cells := 0, slots := 0, locals := 21 } : Room) G LL ad (fun (_ : Unit) => pw G nR ad S) (pw G nR ad S) [.ref (ad 1), .int r] (fun x _ => x = bI (isP r (S 1 0))) := by
  have hin0 : ∀ w ∈ u_ws RX0 TX0 9, w ∈ wsX0_hasReach := by decide +kernel
  have lk9 : Cond.fieldLink RX0 9 "TributeFleet$Canal" "reaches" "I" ∈ wsX0_hasReach := by decide +kernel
  have ini9 : Cond.initialized RX9 ∈ wsX0_hasReach := by decide +kernel
  have sttX9_isPlace : Cond.static yX9_isPlace ∈ wsX0_hasReach := by decide +kernel
  refine ci_of (cc := cX0_hasReach) (maxL := 2) (ret := (some .boolean)) (by decide +kernel) rfl (Nat.le_of_ble_eq_true rfl) ?_
  intro pv ev sv mv args below meth cv A C hrt9 hnm9
  have C : Cx pv sv mv args meth cv cX0_hasReach 2 RX0 wsX0_hasReach G A LL ad := C
  show XJ pv l ev _ sv mv args below meth cv G A LL ad _ 2 0 0 _ 0 [(0, .ref (ad 1)), (1, .int r)] []
  refine x_iload_n C 1 dX0_hasReach_0 rfl rfl ?_
  refine x_aload_n C 0 dX0_hasReach_1 rfl rfl ?_
  refine x_get C (T := TX0) (N := 9) (v := .int (S 1 0)) 1 0 hin0 (hF 1 (by decide)) (pf_1 G nR ad _) rfl (by decide) lk9 rfl rfl dX0_hasReach_2 ?_
  refine x_Ni C (k_X9_isPlace l G LL ad _ r (S 1 0)) gX0_hasReach_X9_isPlace_n40 rfl (by decide +kernel) C.2.2.1.2.1.1 ini9 sttX9_isPlace ⟨(Nat.le_of_ble_eq_true rfl), (Nat.le_of_ble_eq_true rfl)⟩ ⟨(Nat.le_of_ble_eq_true rfl), (Nat.le_of_ble_eq_true rfl)⟩ (n := 2) rfl (st := []) (Nat.le_of_ble_eq_true rfl) rfl dX0_hasReach_5 (fun _ _ hr9 => ?_)
  subst hr9
  refine x_zret C hrt9 (bI_01 _) () ?_ rfl dX0_hasReach_8
  rfl

set_option maxHeartbeats 4000000 in
set_option maxRecDepth 100000 in
theorem k_X0_hasLock (l : Launch) (G : tf_G) (nR : Nat) (LL : List Nat) (ad : Nat → Nat) (hF : ∀ j ∈ tf_fix, j ∈ LL) (S : tf_M) (r : Int32) : Ci l yX0_hasLock wsX0_hasLock ({ frames := 1, cells := 0, slots := 0, locals := 21 } : Room) G LL ad (fun (_ : Unit) => pw G nR ad S) (pw G nR ad S) [.ref (ad 1), .int r] (fun x _ => x = bI (isP r (S 1 0 - 1))) := by
  have hin0 : ∀ w ∈ u_ws RX0 TX0 9, w ∈ wsX0_hasLock := by decide +kernel
  have lk9 : Cond.fieldLink RX0 9 "TributeFleet$Canal" "reaches" "I" ∈ wsX0_hasLock := by decide +kernel
  have ini9 : Cond.initialized RX9 ∈ wsX0_hasLock := by decide +kernel
  have sttX9_isPlace : Cond.static yX9_isPlace ∈ wsX0_hasLock := by decide +kernel
  refine ci_of (cc := cX0_hasLock) (maxL := 2) (ret := (some .boolean)) (by decide +kernel) rfl (Nat.le_of_ble_eq_true rfl) ?_
  intro pv ev sv mv args below meth cv A C hrt9 hnm9
  have C : Cx pv sv mv args meth cv cX0_hasLock 2 RX0 wsX0_hasLock G A LL ad := C
  show XJ pv l ev _ sv mv args below meth cv G A LL ad _ 2 0 0 _ 0 [(0, .ref (ad 1)), (1, .int r)] []
  refine x_iload_n C 1 dX0_hasLock_0 rfl rfl ?_
  refine x_aload_n C 0 dX0_hasLock_1 rfl rfl ?_
  refine x_get C (T := TX0) (N := 9) (v := .int (S 1 0)) 1 0 hin0 (hF 1 (by decide)) (pf_1 G nR ad _) rfl (by decide) lk9 rfl rfl dX0_hasLock_2 ?_
  refine x_iconst C dX0_hasLock_5 (v := 1) (by decide) ?_
  refine x_isub C dX0_hasLock_6 ?_
  refine x_Ni C (k_X9_isPlace l G LL ad _ r ((S 1 0) - 1)) gX0_hasLock_X9_isPlace_n40 rfl (by decide +kernel) C.2.2.1.2.1.1 ini9 sttX9_isPlace ⟨(Nat.le_of_ble_eq_true rfl), (Nat.le_of_ble_eq_true rfl)⟩ ⟨(Nat.le_of_ble_eq_true rfl), (Nat.le_of_ble_eq_true rfl)⟩ (n := 2) rfl (st := []) (Nat.le_of_ble_eq_true rfl) rfl dX0_hasLock_7 (fun _ _ hr9 => ?_)
  subst hr9
  refine x_zret C hrt9 (bI_01 _) () ?_ rfl dX0_hasLock_10
  rfl

set_option maxHeartbeats 4000000 in
set_option maxRecDepth 100000 in
theorem k_X0_hasLake (l : Launch) (G : tf_G) (nR : Nat) (LL : List Nat) (ad : Nat → Nat) (hF : ∀ j ∈ tf_fix, j ∈ LL) (S : tf_M) (r : Int32) : Ci l yX0_hasLake wsX0_hasLake ({ frames := 1, cells := 0, slots := 0, locals := 21 } : Room) G LL ad (fun (_ : Unit) => pw G nR ad S) (pw G nR ad S) [.ref (ad 1), .int r] (fun x _ => x = bI (isP r (S 1 6))) := by
  have hin0 : ∀ w ∈ u_ws RX0 TX0 9, w ∈ wsX0_hasLake := by decide +kernel
  have lk31 : Cond.fieldLink RX0 31 "TributeFleet$Canal" "lakes" "I" ∈ wsX0_hasLake := by decide +kernel
  have ini9 : Cond.initialized RX9 ∈ wsX0_hasLake := by decide +kernel
  have sttX9_isPlace : Cond.static yX9_isPlace ∈ wsX0_hasLake := by decide +kernel
  refine ci_of (cc := cX0_hasLake) (maxL := 2) (ret := (some .boolean)) (by decide +kernel) rfl (Nat.le_of_ble_eq_true rfl) ?_
  intro pv ev sv mv args below meth cv A C hrt9 hnm9
  have C : Cx pv sv mv args meth cv cX0_hasLake 2 RX0 wsX0_hasLake G A LL ad := C
  show XJ pv l ev _ sv mv args below meth cv G A LL ad _ 2 0 0 _ 0 [(0, .ref (ad 1)), (1, .int r)] []
  refine x_iload_n C 1 dX0_hasLake_0 rfl rfl ?_
  refine x_aload_n C 0 dX0_hasLake_1 rfl rfl ?_
  refine x_get C (T := TX0) (N := 9) (v := .int (S 1 6)) 1 6 hin0 (hF 1 (by decide)) (pf_1 G nR ad _) rfl (by decide) lk31 rfl rfl dX0_hasLake_2 ?_
  refine x_Ni C (k_X9_isPlace l G LL ad _ r (S 1 6)) gX0_hasLake_X9_isPlace_n40 rfl (by decide +kernel) C.2.2.1.2.1.1 ini9 sttX9_isPlace ⟨(Nat.le_of_ble_eq_true rfl), (Nat.le_of_ble_eq_true rfl)⟩ ⟨(Nat.le_of_ble_eq_true rfl), (Nat.le_of_ble_eq_true rfl)⟩ (n := 2) rfl (st := []) (Nat.le_of_ble_eq_true rfl) rfl dX0_hasLake_5 (fun _ _ hr9 => ?_)
  subst hr9
  refine x_zret C hrt9 (bI_01 _) () ?_ rfl dX0_hasLake_8
  rfl

def icy (a b reach day : Int32) : Bool := decide (a ≤ day) && decide (b ≤ reach)
set_option maxHeartbeats 4000000 in
set_option maxRecDepth 100000 in
theorem k_X0_isIcy (l : Launch) (G : tf_G) (nR : Nat) (LL : List Nat) (ad : Nat → Nat) (hF : ∀ j ∈ tf_fix, j ∈ LL) (S : tf_M) (r d : Int32) : Ci l yX0_isIcy wsX0_isIcy ({ frames := 0, cells := 0, slots := 0, locals := 0 } : Room) G LL ad (fun (_ : Unit) => pw G nR ad S) (pw G nR ad S) [.ref (ad 1), .int r, .int d] (fun x _ => x = bI (icy (S 1 7) (S 1 8) r d)) := by
  have hin0 : ∀ w ∈ u_ws RX0 TX0 9, w ∈ wsX0_isIcy := by decide +kernel
  have lk34 : Cond.fieldLink RX0 34 "TributeFleet$Canal" "iceDay" "I" ∈ wsX0_isIcy := by decide +kernel
  have lk37 : Cond.fieldLink RX0 37 "TributeFleet$Canal" "iceReach" "I" ∈ wsX0_isIcy := by decide +kernel
  refine ci_of (cc := cX0_isIcy) (maxL := 3) (ret := (some .boolean)) (by decide +kernel) rfl (Nat.le_of_ble_eq_true rfl) ?_
  intro pv ev sv mv args below meth cv A C hrt9 hnm9
  have C : Cx pv sv mv args meth cv cX0_isIcy 3 RX0 wsX0_isIcy G A LL ad := C
  show XJ pv l ev _ sv mv args below meth cv G A LL ad _ 3 0 0 _ 0 [(0, .ref (ad 1)), (1, .int r), (2, .int d)] []
  refine x_iload_n C 2 dX0_isIcy_0 rfl rfl ?_
  refine x_aload_n C 0 dX0_isIcy_1 rfl rfl ?_
  refine x_get C (T := TX0) (N := 9) (v := .int (S 1 7)) 1 7 hin0 (hF 1 (by decide)) (pf_1 G nR ad _) rfl (by decide) lk34 rfl rfl dX0_isIcy_2 ?_
  refine x_icmp_lt C (tgt := 20) dX0_isIcy_5 (by decide) (fun c5 => ?_) (fun c5 => ?_)
  · skip
    refine x_iconst C dX0_isIcy_20 (v := 0) (by decide) ?_
    refine x_zret C hrt9 (Or.inl rfl) () ?_ rfl dX0_isIcy_21
    show _ = _
    simp [icy, bI, ← Int32.not_le]; simp_all [← Int32.not_le]
  · skip
    refine x_iload_n C 1 dX0_isIcy_8 rfl rfl ?_
    refine x_aload_n C 0 dX0_isIcy_9 rfl rfl ?_
    refine x_get C (T := TX0) (N := 9) (v := .int (S 1 8)) 1 8 hin0 (hF 1 (by decide)) (pf_1 G nR ad _) rfl (by decide) lk37 rfl rfl dX0_isIcy_10 ?_
    refine x_icmp_lt C (tgt := 20) dX0_isIcy_13 (by decide) (fun c13 => ?_) (fun c13 => ?_)
    · skip
      refine x_iconst C dX0_isIcy_20 (v := 0) (by decide) ?_
      refine x_zret C hrt9 (Or.inl rfl) () ?_ rfl dX0_isIcy_21
      show _ = _
      simp [icy, bI, ← Int32.not_le]; simp_all [← Int32.not_le]
    · skip
      refine x_iconst C dX0_isIcy_16 (v := 1) (by decide) ?_
      refine x_goto C (tgt := 21) dX0_isIcy_17 (by decide) ?_
      refine x_zret C hrt9 (Or.inr rfl) () ?_ rfl dX0_isIcy_21
      show _ = _
      simp [icy, bI, ← Int32.not_le]; simp_all [← Int32.not_le]

set_option maxHeartbeats 4000000 in
set_option maxRecDepth 100000 in
theorem k_X0_addLake (l : Launch) (G : tf_G) (nR : Nat) (LL : List Nat) (ad : Nat → Nat) (hF : ∀ j ∈ tf_fix, j ∈ LL) (S : tf_M) (a b : Int32) (nk : Nat) (hk : S 1 6 = nI nk) (hk4 : nk ≤ 4) : Ci l yX0_addLake wsX0_addLake ({ frames := 0, cells := 0, slots := 0, locals := 0 } : Room) G LL ad (pw G nR ad) (pw G nR ad S) [.ref (ad 1), .int a, .int b] (fun x u => x = (if nk < 4 then nI nk else -1) ∧ u = (if nk < 4 then s2 (s2 (s2 S 4 nk a) 5 nk b) 1 6 (nI (nk + 1)) else S)) := by
  have hin0 : ∀ w ∈ u_ws RX0 TX0 9, w ∈ wsX0_addLake := by decide +kernel
  have lk31 : Cond.fieldLink RX0 31 "TributeFleet$Canal" "lakes" "I" ∈ wsX0_addLake := by decide +kernel
  have lk22 : Cond.fieldLink RX0 22 "TributeFleet$Canal" "lakeReach" "[I" ∈ wsX0_addLake := by decide +kernel
  have lk25 : Cond.fieldLink RX0 25 "TributeFleet$Canal" "lakeStore" "[I" ∈ wsX0_addLake := by decide +kernel
  refine ci_of (cc := cX0_addLake) (maxL := 3) (ret := (some .int)) (by decide +kernel) rfl (Nat.le_of_ble_eq_true rfl) ?_
  intro pv ev sv mv args below meth cv A C hrt9 hnm9
  have C : Cx pv sv mv args meth cv cX0_addLake 3 RX0 wsX0_addLake G A LL ad := C
  show XJ pv l ev _ sv mv args below meth cv G A LL ad _ 3 0 0 _ 0 [(0, .ref (ad 1)), (1, .int a), (2, .int b)] []
  refine x_aload_n C 0 dX0_addLake_0 rfl rfl ?_
  refine x_get C (T := TX0) (N := 9) (v := .int (S 1 6)) 1 6 hin0 (hF 1 (by decide)) (pf_1 G nR ad _) rfl (by decide) lk31 rfl rfl dX0_addLake_1 ?_
  refine x_iconst C dX0_addLake_4 (v := 4) (by decide) ?_
  refine x_icmp_lt C (tgt := 10) dX0_addLake_5 (by decide) (fun c5 => ?_) (fun c5 => ?_)
  · skip
    have hlt : nk < 4 := by rw [hk] at c5; exact nI_lt2 (b := 4) c5 (by omega)
    refine x_aload_n C 0 dX0_addLake_10 rfl rfl ?_
    refine x_get C (T := TX0) (N := 9) (v := .ref (ad 4)) 1 3 hin0 (hF 1 (by decide)) (pf_1 G nR ad _) rfl (by decide) lk22 rfl rfl dX0_addLake_11 ?_
    refine x_aload_n C 0 dX0_addLake_14 rfl rfl ?_
    refine x_get C (T := TX0) (N := 9) (v := .int (S 1 6)) 1 6 hin0 (hF 1 (by decide)) (pf_1 G nR ad _) rfl (by decide) lk31 rfl rfl dX0_addLake_15 ?_
    refine x_iload_n C 1 dX0_addLake_18 rfl rfl ?_
    refine y_iast C 4 (hF 4 (by decide)) (fun f => (pf_4 G nR ad f)) (by rw [hk]; exact nI_in hlt (by decide)) (kk := nk) (by rw [hk]; exact nI_clamp (by omega)) dX0_addLake_19 ?_
    refine x_aload_n C 0 dX0_addLake_20 rfl rfl ?_
    refine x_get C (T := TX0) (N := 9) (v := .ref (ad 5)) 1 4 hin0 (hF 1 (by decide)) (pf_1 G nR ad _) rfl (by decide) lk25 rfl rfl dX0_addLake_21 ?_
    refine x_aload_n C 0 dX0_addLake_24 rfl rfl ?_
    refine x_get C (T := TX0) (N := 9) (v := .int (S 1 6)) 1 6 hin0 (hF 1 (by decide)) (pf_1 G nR ad _) rfl (by decide) lk31 rfl rfl dX0_addLake_25 ?_
    refine x_iload_n C 2 dX0_addLake_28 rfl rfl ?_
    refine y_iast C 5 (hF 5 (by decide)) (fun f => (pf_5 G nR ad f)) (by show vp_in (S 1 6) 4; rw [hk]; exact nI_in hlt (by decide)) (kk := nk) (by show (S 1 6).toNatClampNeg = nk; rw [hk]; exact nI_clamp (by omega)) dX0_addLake_29 ?_
    refine x_aload_n C 0 dX0_addLake_30 rfl rfl ?_
    refine x_dup C dX0_addLake_31 rfl ?_
    refine x_get C (T := TX0) (N := 9) (v := .int (S 1 6)) 1 6 hin0 (hF 1 (by decide)) (pf_1 G nR ad _) rfl (by decide) lk31 rfl rfl dX0_addLake_32 ?_
    refine x_iconst C dX0_addLake_35 (v := 1) (by decide) ?_
    refine x_iadd C dX0_addLake_36 ?_
    refine y_put C (T := TX0) (N := 9) (ty := .int) 1 6 hin0 tyX0 tyX0_ok nmX0 (hF 1 (by decide)) (pf_1 G nR ad _) (pf_1 G nR ad _) rfl (by decide) lk31 rfl rfl (by decide +kernel) rfl rfl (Nat.le_of_ble_eq_true rfl) dX0_addLake_37 ?_
    refine x_aload_n C 0 dX0_addLake_40 rfl rfl ?_
    refine x_get C (T := TX0) (N := 9) (v := .int ((S 1 6) + 1)) 1 6 hin0 (hF 1 (by decide)) (pf_1 G nR ad _) rfl (by decide) lk31 rfl rfl dX0_addLake_41 ?_
    refine x_iconst C dX0_addLake_44 (v := 1) (by decide) ?_
    refine x_isub C dX0_addLake_45 ?_
    refine x_iret C hrt9 (s2 (s2 (s2 S 4 nk a) 5 nk b) 1 6 ((S 1 6) + 1)) ?_ rfl dX0_addLake_46
    rw [if_pos hlt, if_pos hlt, hk]
    exact ⟨by rw [← nI_succ, nI_pred], by rw [nI_succ]⟩
  · skip
    have hge : ¬ nk < 4 := fun q => c5 (by rw [hk]; exact nI_lt q (by decide))
    refine x_iconst C dX0_addLake_8 (v := -1) (by decide) ?_
    refine x_iret C hrt9 S ?_ rfl dX0_addLake_9
    rw [if_neg hge, if_neg hge]
    exact ⟨rfl, rfl⟩

def tooLow (S : tf_M) (r b : Int32) : Bool := !(isP r (S 1 0)) || decide (S 2 r.toNatClampNeg < 20 + b)
set_option maxHeartbeats 4000000 in
set_option maxRecDepth 100000 in
theorem k_X0_isTooLow (l : Launch) (G : tf_G) (nR : Nat) (LL : List Nat) (ad : Nat → Nat) (hF : ∀ j ∈ tf_fix, j ∈ LL) (S : tf_M) (r b : Int32) (hn : S 1 0 = nI nR) (hR : nR ≤ 12) : Ci l yX0_isTooLow wsX0_isTooLow ({ frames := 2, cells := 0, slots := 0, locals := 42 } : Room) G LL ad (fun (_ : Unit) => pw G nR ad S) (pw G nR ad S) [.ref (ad 1), .int r, .int b] (fun x _ => x = bI (tooLow S r b)) := by
  have hin0 : ∀ w ∈ u_ws RX0 TX0 9, w ∈ wsX0_isTooLow := by decide +kernel
  have lk15 : Cond.fieldLink RX0 15 "TributeFleet$Canal" "water" "[I" ∈ wsX0_isTooLow := by decide +kernel
  refine ci_of (cc := cX0_isTooLow) (maxL := 3) (ret := (some .boolean)) (by decide +kernel) rfl (Nat.le_of_ble_eq_true rfl) ?_
  intro pv ev sv mv args below meth cv A C hrt9 hnm9
  have C : Cx pv sv mv args meth cv cX0_isTooLow 3 RX0 wsX0_isTooLow G A LL ad := C
  show XJ pv l ev _ sv mv args below meth cv G A LL ad _ 3 0 0 _ 0 [(0, .ref (ad 1)), (1, .int r), (2, .int b)] []
  refine x_aload_n C 0 dX0_isTooLow_0 rfl rfl ?_
  refine x_iload_n C 1 dX0_isTooLow_1 rfl rfl ?_
  refine x_Vi 1 C (k_X0_hasReach l G nR LL ad hF S r ) gX0_isTooLow_X0_hasReach rfl (by decide +kernel) ⟨(Nat.le_of_ble_eq_true rfl), (Nat.le_of_ble_eq_true rfl)⟩ ⟨(Nat.le_of_ble_eq_true rfl), (Nat.le_of_ble_eq_true rfl)⟩ (hF 1 (by decide)) (pf_1 G nR ad _) (T := TX0) (N := 9) rfl (n := 1) rfl (st := []) (Nat.le_of_ble_eq_true rfl) rfl dX0_isTooLow_2 (fun _ _ hr9 => ?_)
  subst hr9
  refine x_if_eq C (tgt := 21) dX0_isTooLow_5 (by decide) (fun c5 => ?_) (fun c5 => ?_)
  · replace c5 := bI_z c5
    refine x_iconst C dX0_isTooLow_21 (v := 1) (by decide) ?_
    refine x_goto C (tgt := 26) dX0_isTooLow_22 (by decide) ?_
    refine x_zret C hrt9 (Or.inr rfl) () ?_ rfl dX0_isTooLow_26
    show _ = _
    simp [tooLow, bI]; simp_all [← Int32.not_le]
  · replace c5 := bI_nz c5
    refine x_aload_n C 0 dX0_isTooLow_8 rfl rfl ?_
    refine x_get C (T := TX0) (N := 9) (v := .ref (ad 2)) 1 1 hin0 (hF 1 (by decide)) (pf_1 G nR ad _) rfl (by decide) lk15 rfl rfl dX0_isTooLow_9 ?_
    refine x_iload_n C 1 dX0_isTooLow_12 rfl rfl ?_
    refine x_iald C 2 (hF 2 (by decide)) (pf_2 G nR ad _) (vp_ok (by rw [← hn]; assumption) hR (by decide)) (kk := r.toNatClampNeg) rfl dX0_isTooLow_13 ?_
    refine x_bipush C dX0_isTooLow_14 (v := 20) (by decide) ?_
    refine x_iload_n C 2 dX0_isTooLow_16 rfl rfl ?_
    refine x_iadd C dX0_isTooLow_17 ?_
    refine x_icmp_ge C (tgt := 25) dX0_isTooLow_18 (by decide) (fun c18 => ?_) (fun c18 => ?_)
    · skip
      refine x_iconst C dX0_isTooLow_25 (v := 0) (by decide) ?_
      refine x_zret C hrt9 (Or.inl rfl) () ?_ rfl dX0_isTooLow_26
      show _ = _
      simp [tooLow, bI]; simp_all [← Int32.not_le]
    · skip
      refine x_iconst C dX0_isTooLow_21 (v := 1) (by decide) ?_
      refine x_goto C (tgt := 26) dX0_isTooLow_22 (by decide) ?_
      refine x_zret C hrt9 (Or.inr rfl) () ?_ rfl dX0_isTooLow_26
      show _ = _
      simp [tooLow, bI]; simp_all [← Int32.not_le]

def boatsOfL (S : tf_M) (r : Int32) : Int32 := if isP r (S 1 0 - 1) = true then S 3 r.toNatClampNeg else 0
set_option maxHeartbeats 4000000 in
set_option maxRecDepth 100000 in
theorem k_X0_boatsOf (l : Launch) (G : tf_G) (nR : Nat) (LL : List Nat) (ad : Nat → Nat) (hF : ∀ j ∈ tf_fix, j ∈ LL) (S : tf_M) (r : Int32) (hn : S 1 0 = nI nR) (hR : nR ≤ 12) (hR1 : 1 ≤ nR) : Ci l yX0_boatsOf wsX0_boatsOf ({ frames := 2, cells := 0, slots := 0, locals := 42 } : Room) G LL ad (fun (_ : Unit) => pw G nR ad S) (pw G nR ad S) [.ref (ad 1), .int r] (fun x _ => x = boatsOfL S r) := by
  have hin0 : ∀ w ∈ u_ws RX0 TX0 9, w ∈ wsX0_boatsOf := by decide +kernel
  have lk19 : Cond.fieldLink RX0 19 "TributeFleet$Canal" "lockBoats" "[I" ∈ wsX0_boatsOf := by decide +kernel
  refine ci_of (cc := cX0_boatsOf) (maxL := 2) (ret := (some .int)) (by decide +kernel) rfl (Nat.le_of_ble_eq_true rfl) ?_
  intro pv ev sv mv args below meth cv A C hrt9 hnm9
  have C : Cx pv sv mv args meth cv cX0_boatsOf 2 RX0 wsX0_boatsOf G A LL ad := C
  show XJ pv l ev _ sv mv args below meth cv G A LL ad _ 2 0 0 _ 0 [(0, .ref (ad 1)), (1, .int r)] []
  refine x_aload_n C 0 dX0_boatsOf_0 rfl rfl ?_
  refine x_iload_n C 1 dX0_boatsOf_1 rfl rfl ?_
  refine x_Vi 1 C (k_X0_hasLock l G nR LL ad hF S r ) gX0_boatsOf_X0_hasLock rfl (by decide +kernel) ⟨(Nat.le_of_ble_eq_true rfl), (Nat.le_of_ble_eq_true rfl)⟩ ⟨(Nat.le_of_ble_eq_true rfl), (Nat.le_of_ble_eq_true rfl)⟩ (hF 1 (by decide)) (pf_1 G nR ad _) (T := TX0) (N := 9) rfl (n := 1) rfl (st := []) (Nat.le_of_ble_eq_true rfl) rfl dX0_boatsOf_2 (fun _ _ hr9 => ?_)
  subst hr9
  refine x_if_eq C (tgt := 17) dX0_boatsOf_5 (by decide) (fun c5 => ?_) (fun c5 => ?_)
  · replace c5 := bI_z c5
    refine x_iconst C dX0_boatsOf_17 (v := 0) (by decide) ?_
    refine x_iret C hrt9 () ?_ rfl dX0_boatsOf_18
    show _ = _
    simp [boatsOfL]; simp_all
  · replace c5 := bI_nz c5
    refine x_aload_n C 0 dX0_boatsOf_8 rfl rfl ?_
    refine x_get C (T := TX0) (N := 9) (v := .ref (ad 3)) 1 2 hin0 (hF 1 (by decide)) (pf_1 G nR ad _) rfl (by decide) lk19 rfl rfl dX0_boatsOf_9 ?_
    refine x_iload_n C 1 dX0_boatsOf_12 rfl rfl ?_
    refine x_iald C 3 (hF 3 (by decide)) (pf_3 G nR ad _) (vp_ok (n := nR - 1) (by rw [hn] at *; rw [show nI (nR - 1) = nI nR - 1 by rw [← nI_pred]; congr 1; congr 1; omega]; assumption) (by omega) (by decide)) (kk := r.toNatClampNeg) rfl dX0_boatsOf_13 ?_
    refine x_goto C (tgt := 18) dX0_boatsOf_14 (by decide) ?_
    refine x_iret C hrt9 () ?_ rfl dX0_boatsOf_18
    show _ = _
    simp [boatsOfL]; simp_all

def imin (x y : Int32) : Int32 := if y < x then y else x
def imax (x y : Int32) : Int32 := if x < y then y else x
/-- a lake gives its reach: rows a water, b stores, c what they give, d their reaches -/
def lkGiven (S : tf_M) (a b c d k : Nat) : Int32 := imin (imin (S c k) (S b k)) (1000 - S a (S d k).toNatClampNeg)
def lkStep (S : tf_M) (a b c d k : Nat) : tf_M := s2 (s2 S b k (S b k - lkGiven S a b c d k)) a (S d k).toNatClampNeg (S a (S d k).toNatClampNeg + lkGiven S a b c d k)
def lkAll (S : tf_M) (a b c d : Nat) : Nat → tf_M
  | 0 => S
  | k + 1 => lkStep (lkAll S a b c d k) a b c d k
set_option maxHeartbeats 4000000 in
set_option maxRecDepth 100000 in
theorem k_X0_takeFromLakes (l : Launch) (G : tf_G) (nR : Nat) (LL : List Nat) (ad : Nat → Nat) (hF : ∀ j ∈ tf_fix, j ∈ LL) (S : tf_M) (nk : Nat) (hk : S 1 6 = nI nk) (hk4 : nk ≤ 4) (hn : S 1 0 = nI nR) (hR : nR ≤ 12) (hr : ∀ k, k < nk → isP (S 4 k) (S 1 0) = true) : Cv l yX0_takeFromLakes wsX0_takeFromLakes ({ frames := 2, cells := 0, slots := 0, locals := 42 } : Room) G LL ad (pw G nR ad) (pw G nR ad S) [.ref (ad 1)] (fun u => u = lkAll S 2 5 6 4 nk) := by
  have hin0 : ∀ w ∈ u_ws RX0 TX0 9, w ∈ wsX0_takeFromLakes := by decide +kernel
  have lk31 : Cond.fieldLink RX0 31 "TributeFleet$Canal" "lakes" "I" ∈ wsX0_takeFromLakes := by decide +kernel
  have lk22 : Cond.fieldLink RX0 22 "TributeFleet$Canal" "lakeReach" "[I" ∈ wsX0_takeFromLakes := by decide +kernel
  have lk28 : Cond.fieldLink RX0 28 "TributeFleet$Canal" "lakeGives" "[I" ∈ wsX0_takeFromLakes := by decide +kernel
  have lk25 : Cond.fieldLink RX0 25 "TributeFleet$Canal" "lakeStore" "[I" ∈ wsX0_takeFromLakes := by decide +kernel
  have hm1min : Cond.methodLink RX0 51 Lib.Math.min.name ∈ wsX0_takeFromLakes := by decide +kernel
  have hm2min : Cond.static Lib.Math.min.name ∈ wsX0_takeFromLakes := by decide +kernel
  have hm3 : Cond.initialized "java/lang/Math" ∈ wsX0_takeFromLakes := by decide +kernel
  have hm4min : Cond.code Lib.Math.min.name Lib.Math.min.code 2 (some .int) ∈ wsX0_takeFromLakes := by decide +kernel
  have lk15 : Cond.fieldLink RX0 15 "TributeFleet$Canal" "water" "[I" ∈ wsX0_takeFromLakes := by decide +kernel
  refine cv_of (cc := cX0_takeFromLakes) (maxL := 4) (ret := none) (by decide +kernel) rfl (Nat.le_of_ble_eq_true rfl) ?_
  intro pv ev sv mv args below meth cv A C hrt9 hnm9
  have C : Cx pv sv mv args meth cv cX0_takeFromLakes 4 RX0 wsX0_takeFromLakes G A LL ad := C
  show XJ pv l ev _ sv mv args below meth cv G A LL ad _ 4 0 0 _ 0 [(0, .ref (ad 1))] []
  refine x_iconst C dX0_takeFromLakes_0 (v := 0) (by decide) ?_
  refine x_istore_n C (L1 := [(1, .int 0), (0, .ref (ad 1))]) dX0_takeFromLakes_1 rfl (by decide) rfl ?_
  have lp2 : ∀ (d9 : Nat) (k : Nat) (S1 : tf_M), (k ≤ nk) → (S1 = lkAll S 2 5 6 4 k) → (S1 1 = S 1) → (S1 4 = S 4) → nk - k < d9 → XJ pv l ev ({ frames := 2, cells := 0, slots := 0, locals := 42 } : Room) sv mv args below meth cv G A LL ad (MQ below (va_Qv (fun u => u = lkAll S 2 5 6 4 nk) (tf_B G LL ad (pw G nR ad)) A) args sv 0 0 A) 4 0 0 (pw G nR ad S1) 2 [(0, .ref (ad 1)), (1, .int (nI k))] [] := by
    intro d9
    induction d9 with
    | zero => intro k S1 hkn e0 e1 e4 hd9; omega
    | succ d9 ih2 =>
      intro k S1 hkn e0 e1 e4 hd9
      have ih := ih2
      refine x_iload_n C 1 dX0_takeFromLakes_2 rfl rfl ?_
      refine x_aload_n C 0 dX0_takeFromLakes_3 rfl rfl ?_
      refine x_get C (T := TX0) (N := 9) (v := .int (S1 1 6)) 1 6 hin0 (hF 1 (by decide)) (pf_1 G nR ad _) rfl (by decide) lk31 rfl rfl dX0_takeFromLakes_4 ?_
      refine x_icmp_ge C (tgt := 82) dX0_takeFromLakes_7 (by decide) (fun c7 => ?_) (fun c7 => ?_)
      · skip
        have hge : nk ≤ k := nI_ge' (by rw [← hk, ← e1]; exact c7) (by omega)
        refine x_vret C hrt9 S1 ?_ rfl dX0_takeFromLakes_82
        show _ = _
        rw [e0, show k = nk by omega]
      · skip
        have hlt : k < nk := nI_lt' (by rw [← hk, ← e1]; exact c7) (by omega)
        refine x_aload_n C 0 dX0_takeFromLakes_10 rfl rfl ?_
        refine x_get C (T := TX0) (N := 9) (v := .ref (ad 4)) 1 3 hin0 (hF 1 (by decide)) (pf_1 G nR ad _) rfl (by decide) lk22 rfl rfl dX0_takeFromLakes_11 ?_
        refine x_iload_n C 1 dX0_takeFromLakes_14 rfl rfl ?_
        refine x_iald C 4 (hF 4 (by decide)) (pf_4 G nR ad _) (nI_in (N := 4) (show k < 4 by omega) (by omega)) (kk := k) (nI_clamp (by omega)) dX0_takeFromLakes_15 ?_
        refine x_istore_n C (L1 := [(2, .int (S1 4 (k))), (0, .ref (ad 1)), (1, .int (nI k))]) dX0_takeFromLakes_16 rfl (by decide) rfl ?_
        refine x_aload_n C 1 dX0_takeFromLakes_17 rfl rfl ?_
        refine x_iload_n C 0 dX0_takeFromLakes_18 rfl rfl ?_
        refine x_Vi 1 C (k_X0_hasReach l G nR LL ad hF S1 (S1 4 (k)) ) gX0_takeFromLakes_X0_hasReach rfl (by decide +kernel) ⟨(Nat.le_of_ble_eq_true rfl), (Nat.le_of_ble_eq_true rfl)⟩ ⟨(Nat.le_of_ble_eq_true rfl), (Nat.le_of_ble_eq_true rfl)⟩ (hF 1 (by decide)) (pf_1 G nR ad _) (T := TX0) (N := 9) rfl (n := 1) rfl (st := []) (Nat.le_of_ble_eq_true rfl) rfl dX0_takeFromLakes_19 (fun _ _ hr9 => ?_)
        subst hr9
        refine x_if_eq C (tgt := 76) dX0_takeFromLakes_22 (by decide) (fun c22 => ?_) (fun c22 => ?_)
        · replace c22 := bI_z c22
          rw [e1, e4, hr k hlt] at c22; cases c22
        · replace c22 := bI_nz c22
          refine x_aload_n C 1 dX0_takeFromLakes_25 rfl rfl ?_
          refine x_get C (T := TX0) (N := 9) (v := .ref (ad 6)) 1 5 hin0 (hF 1 (by decide)) (pf_1 G nR ad _) rfl (by decide) lk28 rfl rfl dX0_takeFromLakes_26 ?_
          refine x_iload_n C 2 dX0_takeFromLakes_29 rfl rfl ?_
          refine x_iald C 6 (hF 6 (by decide)) (pf_6 G nR ad _) (nI_in (N := 4) (show k < 4 by omega) (by omega)) (kk := k) (nI_clamp (by omega)) dX0_takeFromLakes_30 ?_
          refine x_aload_n C 1 dX0_takeFromLakes_31 rfl rfl ?_
          refine x_get C (T := TX0) (N := 9) (v := .ref (ad 5)) 1 4 hin0 (hF 1 (by decide)) (pf_1 G nR ad _) rfl (by decide) lk25 rfl rfl dX0_takeFromLakes_32 ?_
          refine x_iload_n C 2 dX0_takeFromLakes_35 rfl rfl ?_
          refine x_iald C 5 (hF 5 (by decide)) (pf_5 G nR ad _) (nI_in (N := 4) (show k < 4 by omega) (by omega)) (kk := k) (nI_clamp (by omega)) dX0_takeFromLakes_36 ?_
          refine x_mmin C hm1min hm2min hm3 hm4min (Nat.le_of_ble_eq_true rfl) (Nat.le_of_ble_eq_true rfl) (Nat.le_of_ble_eq_true rfl) (Nat.le_of_ble_eq_true rfl) dX0_takeFromLakes_37 ?_
          refine x_istore_n C (L1 := [(3, .int (if S1 5 (k) < S1 6 (k) then S1 5 (k) else S1 6 (k))), (2, .int (S1 4 (k))), (0, .ref (ad 1)), (1, .int (nI k))]) dX0_takeFromLakes_40 rfl (by decide) rfl ?_
          refine x_iload_n C 0 dX0_takeFromLakes_41 rfl rfl ?_
          refine x_sipush C dX0_takeFromLakes_42 (v := 1000) (by decide) ?_
          refine x_aload_n C 2 dX0_takeFromLakes_45 rfl rfl ?_
          refine x_get C (T := TX0) (N := 9) (v := .ref (ad 2)) 1 1 hin0 (hF 1 (by decide)) (pf_1 G nR ad _) rfl (by decide) lk15 rfl rfl dX0_takeFromLakes_46 ?_
          refine x_iload_n C 1 dX0_takeFromLakes_49 rfl rfl ?_
          refine x_iald C 2 (hF 2 (by decide)) (pf_2 G nR ad _) (vp_ok (by rw [← hn, ← e1]; assumption) hR (by decide)) (kk := (S1 4 (k)).toNatClampNeg) rfl dX0_takeFromLakes_50 ?_
          refine x_isub C dX0_takeFromLakes_51 ?_
          refine x_mmin C hm1min hm2min hm3 hm4min (Nat.le_of_ble_eq_true rfl) (Nat.le_of_ble_eq_true rfl) (Nat.le_of_ble_eq_true rfl) (Nat.le_of_ble_eq_true rfl) dX0_takeFromLakes_52 ?_
          refine x_istore_n C (L1 := [(3, .int (if 1000 - (S1 2 ((S1 4 (k)).toNatClampNeg)) < if S1 5 (k) < S1 6 (k) then S1 5 (k) else S1 6 (k) then 1000 - (S1 2 ((S1 4 (k)).toNatClampNeg)) else if S1 5 (k) < S1 6 (k) then S1 5 (k) else S1 6 (k))), (2, .int (S1 4 (k))), (0, .ref (ad 1)), (1, .int (nI k))]) dX0_takeFromLakes_55 rfl (by decide) rfl ?_
          refine x_aload_n C 2 dX0_takeFromLakes_56 rfl rfl ?_
          refine x_get C (T := TX0) (N := 9) (v := .ref (ad 5)) 1 4 hin0 (hF 1 (by decide)) (pf_1 G nR ad _) rfl (by decide) lk25 rfl rfl dX0_takeFromLakes_57 ?_
          refine x_iload_n C 3 dX0_takeFromLakes_60 rfl rfl ?_
          refine x_dup2 C dX0_takeFromLakes_61 rfl rfl ?_
          refine x_iald C 5 (hF 5 (by decide)) (pf_5 G nR ad _) (nI_in (N := 4) (show k < 4 by omega) (by omega)) (kk := k) (nI_clamp (by omega)) dX0_takeFromLakes_62 ?_
          refine x_iload_n C 0 dX0_takeFromLakes_63 rfl rfl ?_
          refine x_isub C dX0_takeFromLakes_64 ?_
          refine y_iast C 5 (hF 5 (by decide)) (fun f => (pf_5 G nR ad f)) (nI_in (N := 4) (show k < 4 by omega) (by omega)) (kk := k) (nI_clamp (by omega)) dX0_takeFromLakes_65 ?_
          refine x_aload_n C 2 dX0_takeFromLakes_66 rfl rfl ?_
          refine x_get C (T := TX0) (N := 9) (v := .ref (ad 2)) 1 1 hin0 (hF 1 (by decide)) (pf_1 G nR ad _) rfl (by decide) lk15 rfl rfl dX0_takeFromLakes_67 ?_
          refine x_iload_n C 1 dX0_takeFromLakes_70 rfl rfl ?_
          refine x_dup2 C dX0_takeFromLakes_71 rfl rfl ?_
          refine x_iald C 2 (hF 2 (by decide)) (pf_2 G nR ad _) (vp_ok (by rw [← hn, ← e1]; assumption) hR (by decide)) (kk := (S1 4 (k)).toNatClampNeg) rfl dX0_takeFromLakes_72 ?_
          refine x_iload_n C 0 dX0_takeFromLakes_73 rfl rfl ?_
          refine x_iadd C dX0_takeFromLakes_74 ?_
          refine y_iast C 2 (hF 2 (by decide)) (fun f => (pf_2 G nR ad f)) (vp_ok (by rw [← hn, ← e1]; assumption) hR (by decide)) (kk := (S1 4 (k)).toNatClampNeg) rfl dX0_takeFromLakes_75 ?_
          refine x_iinc C (L1 := [(1, .int ((nI k) + 1)), (3, .int (if 1000 - (S1 2 ((S1 4 (k)).toNatClampNeg)) < if S1 5 (k) < S1 6 (k) then S1 5 (k) else S1 6 (k) then 1000 - (S1 2 ((S1 4 (k)).toNatClampNeg)) else if S1 5 (k) < S1 6 (k) then S1 5 (k) else S1 6 (k))), (2, .int (S1 4 (k))), (0, .ref (ad 1))]) 3 dX0_takeFromLakes_76 rfl rfl (by decide) rfl ?_
          refine x_goto C (tgt := 2) dX0_takeFromLakes_79 (by decide) ?_
          refine x_sub [3, 0] (L1 := [(0, .ref (ad 1)), (1, .int ((nI k) + 1))]) rfl ?_
          rw [← nI_succ]
          exact ih (k + 1) _ (by omega) (by rw [e0]; rfl) (by simp [s2, tf_u, e1]) (by simp [s2, tf_u, e4]) (by omega)
  refine x_sub [1, 0] (L1 := [(0, .ref (ad 1)), (1, .int 0)]) rfl ?_
  exact lp2 (nk + 1) 0 S (Nat.zero_le _) rfl rfl rfl (by omega)

/-- squadrons' boats go through lock a: water a row w -/
def lkThru (S : tf_M) (w : Nat) (a : Int32) (b : Int32) : tf_M := s2 (s2 S w (a + 1).toNatClampNeg (S w (a + 1).toNatClampNeg - b)) w a.toNatClampNeg (imin 1000 (s2 S w (a + 1).toNatClampNeg (S w (a + 1).toNatClampNeg - b) w a.toNatClampNeg + b))
theorem isP_succ {a : Int32} {n N : Nat} (h : isP a (nI n - 1) = true) (h1 : 1 ≤ n) (hn : n < 2 ^ 31) : isP (a + 1) (nI n) = true ∧ isP a (nI n) = true ∧ (a + 1).toNatClampNeg = a.toNatClampNeg + 1 ∧ a.toNatClampNeg + 1 < n := by
  obtain ⟨k, rfl⟩ : ∃ k, n = k + 1 := ⟨n - 1, by omega⟩
  rw [nI_pred] at h
  obtain ⟨h1, h2⟩ := isP_nat h (by omega)
  generalize a.toNatClampNeg = x at h1 h2 ⊢
  subst h2
  rw [← nI_succ]
  refine ⟨?_, ?_, ?_, ?_⟩
  · simp only [isP, Bool.and_eq_true, decide_eq_true_eq]
    exact ⟨nI_pos' (by omega), nI_lt (by omega) (by omega)⟩
  · simp only [isP, Bool.and_eq_true, decide_eq_true_eq]
    exact ⟨nI_pos' (by omega), nI_lt (by omega) (by omega)⟩
  · rw [nI_clamp (by omega)]
  · omega
set_option maxHeartbeats 4000000 in
set_option maxRecDepth 100000 in
theorem k_X0_letThrough (l : Launch) (G : tf_G) (nR : Nat) (LL : List Nat) (ad : Nat → Nat) (hF : ∀ j ∈ tf_fix, j ∈ LL) (S : tf_M) (a b : Int32) (hn : S 1 0 = nI nR) (hR : nR ≤ 12) (hR1 : 1 ≤ nR) : Cv l yX0_letThrough wsX0_letThrough ({ frames := 2, cells := 0, slots := 0, locals := 42 } : Room) G LL ad (pw G nR ad) (pw G nR ad S) [.ref (ad 1), .int a, .int b] (fun u => u = if isP a (S 1 0 - 1) = true then lkThru S 2 a b else S) := by
  have hin0 : ∀ w ∈ u_ws RX0 TX0 9, w ∈ wsX0_letThrough := by decide +kernel
  have lk15 : Cond.fieldLink RX0 15 "TributeFleet$Canal" "water" "[I" ∈ wsX0_letThrough := by decide +kernel
  have hm1min : Cond.methodLink RX0 51 Lib.Math.min.name ∈ wsX0_letThrough := by decide +kernel
  have hm2min : Cond.static Lib.Math.min.name ∈ wsX0_letThrough := by decide +kernel
  have hm3 : Cond.initialized "java/lang/Math" ∈ wsX0_letThrough := by decide +kernel
  have hm4min : Cond.code Lib.Math.min.name Lib.Math.min.code 2 (some .int) ∈ wsX0_letThrough := by decide +kernel
  refine cv_of (cc := cX0_letThrough) (maxL := 3) (ret := none) (by decide +kernel) rfl (Nat.le_of_ble_eq_true rfl) ?_
  intro pv ev sv mv args below meth cv A C hrt9 hnm9
  have C : Cx pv sv mv args meth cv cX0_letThrough 3 RX0 wsX0_letThrough G A LL ad := C
  show XJ pv l ev _ sv mv args below meth cv G A LL ad _ 3 0 0 _ 0 [(0, .ref (ad 1)), (1, .int a), (2, .int b)] []
  refine x_aload_n C 0 dX0_letThrough_0 rfl rfl ?_
  refine x_iload_n C 1 dX0_letThrough_1 rfl rfl ?_
  refine x_Vi 1 C (k_X0_hasLock l G nR LL ad hF S a ) gX0_letThrough_X0_hasLock rfl (by decide +kernel) ⟨(Nat.le_of_ble_eq_true rfl), (Nat.le_of_ble_eq_true rfl)⟩ ⟨(Nat.le_of_ble_eq_true rfl), (Nat.le_of_ble_eq_true rfl)⟩ (hF 1 (by decide)) (pf_1 G nR ad _) (T := TX0) (N := 9) rfl (n := 1) rfl (st := []) (Nat.le_of_ble_eq_true rfl) rfl dX0_letThrough_2 (fun _ _ hr9 => ?_)
  subst hr9
  refine x_if_eq C (tgt := 40) dX0_letThrough_5 (by decide) (fun c5 => ?_) (fun c5 => ?_)
  · replace c5 := bI_z c5
    refine x_vret C hrt9 S ?_ rfl dX0_letThrough_40
    show _ = _
    rw [if_neg (by rw [c5]; decide)]
  · replace c5 := bI_nz c5
    rw [hn] at c5
    obtain ⟨g1, g2, -, -⟩ := isP_succ (N := 0) c5 hR1 (by omega)
    refine x_aload_n C 0 dX0_letThrough_8 rfl rfl ?_
    refine x_get C (T := TX0) (N := 9) (v := .ref (ad 2)) 1 1 hin0 (hF 1 (by decide)) (pf_1 G nR ad _) rfl (by decide) lk15 rfl rfl dX0_letThrough_9 ?_
    refine x_iload_n C 1 dX0_letThrough_12 rfl rfl ?_
    refine x_iconst C dX0_letThrough_13 (v := 1) (by decide) ?_
    refine x_iadd C dX0_letThrough_14 ?_
    refine x_dup2 C dX0_letThrough_15 rfl rfl ?_
    refine x_iald C 2 (hF 2 (by decide)) (pf_2 G nR ad _) (vp_ok g1 hR (by decide)) (kk := (a + 1).toNatClampNeg) rfl dX0_letThrough_16 ?_
    refine x_iload_n C 2 dX0_letThrough_17 rfl rfl ?_
    refine x_isub C dX0_letThrough_18 ?_
    refine y_iast C 2 (hF 2 (by decide)) (fun f => (pf_2 G nR ad f)) (vp_ok g1 hR (by decide)) (kk := (a + 1).toNatClampNeg) rfl dX0_letThrough_19 ?_
    refine x_aload_n C 0 dX0_letThrough_20 rfl rfl ?_
    refine x_get C (T := TX0) (N := 9) (v := .ref (ad 2)) 1 1 hin0 (hF 1 (by decide)) (pf_1 G nR ad _) rfl (by decide) lk15 rfl rfl dX0_letThrough_21 ?_
    refine x_iload_n C 1 dX0_letThrough_24 rfl rfl ?_
    refine x_sipush C dX0_letThrough_25 (v := 1000) (by decide) ?_
    refine x_aload_n C 0 dX0_letThrough_28 rfl rfl ?_
    refine x_get C (T := TX0) (N := 9) (v := .ref (ad 2)) 1 1 hin0 (hF 1 (by decide)) (pf_1 G nR ad _) rfl (by decide) lk15 rfl rfl dX0_letThrough_29 ?_
    refine x_iload_n C 1 dX0_letThrough_32 rfl rfl ?_
    refine x_iald C 2 (hF 2 (by decide)) (pf_2 G nR ad _) (vp_ok g2 hR (by decide)) (kk := a.toNatClampNeg) rfl dX0_letThrough_33 ?_
    refine x_iload_n C 2 dX0_letThrough_34 rfl rfl ?_
    refine x_iadd C dX0_letThrough_35 ?_
    refine x_mmin C hm1min hm2min hm3 hm4min (Nat.le_of_ble_eq_true rfl) (Nat.le_of_ble_eq_true rfl) (Nat.le_of_ble_eq_true rfl) (Nat.le_of_ble_eq_true rfl) dX0_letThrough_36 ?_
    refine y_iast C 2 (hF 2 (by decide)) (fun f => (pf_2 G nR ad f)) (vp_ok g2 hR (by decide)) (kk := a.toNatClampNeg) rfl dX0_letThrough_39 ?_
    refine x_vret C hrt9 (s2 (s2 S 2 ((a + 1).toNatClampNeg) ((S 2 ((a + 1).toNatClampNeg)) - b)) 2 a.toNatClampNeg (if ((s2 S 2 ((a + 1).toNatClampNeg) ((S 2 ((a + 1).toNatClampNeg)) - b)) 2 (a.toNatClampNeg)) + b < 1000 then ((s2 S 2 ((a + 1).toNatClampNeg) ((S 2 ((a + 1).toNatClampNeg)) - b)) 2 (a.toNatClampNeg)) + b else 1000)) ?_ rfl dX0_letThrough_40
    show _ = _
    rw [hn, if_pos c5]
    rfl

