/-! the reference -/
theorem nI_pm (n : Nat) (h : n < 2 ^ 31) : (nI n - 1).toInt = (n : Int) - 1 := by
  cases n with
  | zero => rfl
  | succ k => rw [nI_pred, nI_toInt (by omega)]; omega
theorem isW_P (v : Int32) (n : Nat) (h : n < 2 ^ 31) : isW v 0 (nI n - 1) = isP v (nI n) := by
  unfold isW isP
  congr 1
  have h1 := nI_pm n h
  have h2 := nI_toInt h
  rw [decide_eq_decide, Int32.le_iff_toInt_le, Int32.lt_iff_toInt_lt, h1, h2]
  omega
theorem isW_P2 (v : Int32) (n : Nat) (h : n < 2 ^ 31) (h1 : 1 ≤ n) : isW v 0 (nI n - 2) = isP v (nI (n - 1)) := by
  have e : nI n - 2 = nI (n - 1) - 1 := by
    rcases (show n = 1 ∨ 2 ≤ n by omega) with rfl | h2
    · decide
    · rw [show (2 : Int32) = nI 2 from rfl, nI_sub h2, nI_sub1 (by omega)]; congr 1
  rw [e, isW_P v (n - 1) (by omega)]
set_option maxHeartbeats 4000000 in
set_option maxRecDepth 100000 in
theorem k_X10_isIn (l : Launch) (G : tf_G) (LL : List Nat) (ad : Nat → Nat) (P : Nat → va_E) (v a b : Int32) : Ci l yX10_isIn wsX10_isIn ({ frames := 0, cells := 0, slots := 0, locals := 0 } : Room) G LL ad (fun (_ : Unit) => P) P [.int v, .int a, .int b] (fun r _ => r = bI (isW v a b)) := by
  refine ci_of (cc := cX10_isIn) (maxL := 3) (ret := (some .boolean)) (by decide +kernel) rfl (Nat.le_of_ble_eq_true rfl) ?_
  intro pv ev sv mv args below meth cv A C hrt9 hnm9
  have C : Cx pv sv mv args meth cv cX10_isIn 3 RX10 wsX10_isIn G A LL ad := C
  show XJ pv l ev _ sv mv args below meth cv G A LL ad _ 3 0 0 _ 0 [(0, .int v), (1, .int a), (2, .int b)] []
  refine x_iload_n C 0 dX10_isIn_0 rfl rfl ?_
  refine x_iload_n C 1 dX10_isIn_1 rfl rfl ?_
  refine x_icmp_lt C (tgt := 14) dX10_isIn_2 (by decide) (fun c2 => ?_) (fun c2 => ?_)
  · skip
    refine x_iconst C dX10_isIn_14 (v := 0) (by decide) ?_
    refine x_zret C hrt9 (Or.inl rfl) () ?_ rfl dX10_isIn_15
    show _ = _
    simp [isW, bI, ← Int32.not_le]; simp_all [← Int32.not_le]
  · skip
    refine x_iload_n C 0 dX10_isIn_5 rfl rfl ?_
    refine x_iload_n C 2 dX10_isIn_6 rfl rfl ?_
    refine x_icmp_gt C (tgt := 14) dX10_isIn_7 (by decide) (fun c7 => ?_) (fun c7 => ?_)
    · skip
      refine x_iconst C dX10_isIn_14 (v := 0) (by decide) ?_
      refine x_zret C hrt9 (Or.inl rfl) () ?_ rfl dX10_isIn_15
      show _ = _
      simp [isW, bI, ← Int32.not_le]; simp_all [← Int32.not_le]
    · skip
      refine x_iconst C dX10_isIn_10 (v := 1) (by decide) ?_
      refine x_goto C (tgt := 15) dX10_isIn_11 (by decide) ?_
      refine x_zret C hrt9 (Or.inr rfl) () ?_ rfl dX10_isIn_15
      show _ = _
      simp [isW, bI, ← Int32.not_le]; simp_all [← Int32.not_le]

set_option maxHeartbeats 4000000 in
set_option maxRecDepth 100000 in
theorem k_X10_isCounty (l : Launch) (G : tf_G) (LL : List Nat) (ad : Nat → Nat) (P : Nat → va_E) (v : Int32) : Ci l yX10_isCounty wsX10_isCounty ({ frames := 1, cells := 0, slots := 0, locals := 22 } : Room) G LL ad (fun (_ : Unit) => P) P [.int v] (fun r _ => r = bI (isW v 0 5)) := by
  refine ci_of (cc := cX10_isCounty) (maxL := 1) (ret := (some .boolean)) (by decide +kernel) rfl (Nat.le_of_ble_eq_true rfl) ?_
  intro pv ev sv mv args below meth cv A C hrt9 hnm9
  have C : Cx pv sv mv args meth cv cX10_isCounty 1 RX10 wsX10_isCounty G A LL ad := C
  show XJ pv l ev _ sv mv args below meth cv G A LL ad _ 1 0 0 _ 0 [(0, .int v)] []
  refine x_iload_n C 0 dX10_isCounty_0 rfl rfl ?_
  refine x_iconst C dX10_isCounty_1 (v := 0) (by decide) ?_
  refine x_iconst C dX10_isCounty_2 (v := 5) (by decide) ?_
  refine x_Si C (k_X10_isIn l G LL ad P v 0 5) gX10_isCounty_X10_isIn rfl (by decide +kernel) ⟨(Nat.le_of_ble_eq_true rfl), (Nat.le_of_ble_eq_true rfl)⟩ ⟨(Nat.le_of_ble_eq_true rfl), (Nat.le_of_ble_eq_true rfl)⟩ (n := 3) rfl (st := []) (Nat.le_of_ble_eq_true rfl) rfl dX10_isCounty_3 (fun _ _ hr9 => ?_)
  subst hr9
  refine x_zret C hrt9 (bI_01 _) () ?_ rfl dX10_isCounty_6
  rfl

set_option maxHeartbeats 4000000 in
set_option maxRecDepth 100000 in
theorem k_X10_one (l : Launch) (G : tf_G) (LL : List Nat) (ad : Nat → Nat) (P : Nat → va_E) (v : Int32) : Ci l yX10_one wsX10_one ({ frames := 0, cells := 0, slots := 0, locals := 0 } : Room) G LL ad (fun (_ : Unit) => P) P [.int v] (fun r _ => r = if v = 0 then 0 else 1) := by
  refine ci_of (cc := cX10_one) (maxL := 1) (ret := (some .int)) (by decide +kernel) rfl (Nat.le_of_ble_eq_true rfl) ?_
  intro pv ev sv mv args below meth cv A C hrt9 hnm9
  have C : Cx pv sv mv args meth cv cX10_one 1 RX10 wsX10_one G A LL ad := C
  show XJ pv l ev _ sv mv args below meth cv G A LL ad _ 1 0 0 _ 0 [(0, .int v)] []
  refine x_iload_n C 0 dX10_one_0 rfl rfl ?_
  refine x_if_eq C (tgt := 8) dX10_one_1 (by decide) (fun c1 => ?_) (fun c1 => ?_)
  · skip
    refine x_iconst C dX10_one_8 (v := 0) (by decide) ?_
    refine x_iret C hrt9 () ?_ rfl dX10_one_9
    show _ = _
    simp [c1]
  · skip
    refine x_iconst C dX10_one_4 (v := 1) (by decide) ?_
    refine x_goto C (tgt := 9) dX10_one_5 (by decide) ?_
    refine x_iret C hrt9 () ?_ rfl dX10_one_9
    show _ = _
    simp [c1]

set_option maxHeartbeats 4000000 in
set_option maxRecDepth 100000 in
theorem k_X10_isReach (l : Launch) (G : tf_G) (nR : Nat) (LL : List Nat) (ad : Nat → Nat) (hF : ∀ j ∈ tf_fix, j ∈ LL) (S : tf_M) (r : Int32) (hn : S 30 0 = nI nR) (hR : nR ≤ 12) : Ci l yX10_isReach wsX10_isReach ({ frames := 1, cells := 0, slots := 0, locals := 22 } : Room) G LL ad (fun (_ : Unit) => pw G nR ad S) (pw G nR ad S) [.ref (ad 30), .int r] (fun x _ => x = bI (isP r (nI nR))) := by
  have hin10 : ∀ w ∈ u_ws RX10 TX10 45, w ∈ wsX10_isReach := by decide +kernel
  have lk121 : Cond.fieldLink RX10 121 "TributeFleetModel" "reaches" "I" ∈ wsX10_isReach := by decide +kernel
  refine ci_of (cc := cX10_isReach) (maxL := 2) (ret := (some .boolean)) (by decide +kernel) rfl (Nat.le_of_ble_eq_true rfl) ?_
  intro pv ev sv mv args below meth cv A C hrt9 hnm9
  have C : Cx pv sv mv args meth cv cX10_isReach 2 RX10 wsX10_isReach G A LL ad := C
  show XJ pv l ev _ sv mv args below meth cv G A LL ad _ 2 0 0 _ 0 [(0, .ref (ad 30)), (1, .int r)] []
  refine x_iload_n C 1 dX10_isReach_0 rfl rfl ?_
  refine x_iconst C dX10_isReach_1 (v := 0) (by decide) ?_
  refine x_aload_n C 0 dX10_isReach_2 rfl rfl ?_
  refine x_get C (T := TX10) (N := 45) (v := .int (S 30 0)) 30 0 hin10 (hF 30 (by decide)) (pf_30 G nR ad _) rfl (by decide) lk121 rfl rfl dX10_isReach_3 ?_
  refine x_iconst C dX10_isReach_6 (v := 1) (by decide) ?_
  refine x_isub C dX10_isReach_7 ?_
  refine x_Si C (k_X10_isIn l G LL ad _ r 0 ((S 30 0) - 1)) gX10_isReach_X10_isIn rfl (by decide +kernel) ⟨(Nat.le_of_ble_eq_true rfl), (Nat.le_of_ble_eq_true rfl)⟩ ⟨(Nat.le_of_ble_eq_true rfl), (Nat.le_of_ble_eq_true rfl)⟩ (n := 3) rfl (st := []) (Nat.le_of_ble_eq_true rfl) rfl dX10_isReach_8 (fun _ _ hr9 => ?_)
  subst hr9
  refine x_zret C hrt9 (bI_01 _) () ?_ rfl dX10_isReach_11
  show _ = _
  rw [hn, isW_P _ _ (by omega)]

set_option maxHeartbeats 4000000 in
set_option maxRecDepth 100000 in
theorem k_X10_isLock (l : Launch) (G : tf_G) (nR : Nat) (LL : List Nat) (ad : Nat → Nat) (hF : ∀ j ∈ tf_fix, j ∈ LL) (S : tf_M) (r : Int32) (hn : S 30 0 = nI nR) (hR : nR ≤ 12) (hR3 : 3 ≤ nR) : Ci l yX10_isLock wsX10_isLock ({ frames := 1, cells := 0, slots := 0, locals := 22 } : Room) G LL ad (fun (_ : Unit) => pw G nR ad S) (pw G nR ad S) [.ref (ad 30), .int r] (fun x _ => x = bI (isP r (nI (nR - 1)))) := by
  have hin10 : ∀ w ∈ u_ws RX10 TX10 45, w ∈ wsX10_isLock := by decide +kernel
  have lk121 : Cond.fieldLink RX10 121 "TributeFleetModel" "reaches" "I" ∈ wsX10_isLock := by decide +kernel
  refine ci_of (cc := cX10_isLock) (maxL := 2) (ret := (some .boolean)) (by decide +kernel) rfl (Nat.le_of_ble_eq_true rfl) ?_
  intro pv ev sv mv args below meth cv A C hrt9 hnm9
  have C : Cx pv sv mv args meth cv cX10_isLock 2 RX10 wsX10_isLock G A LL ad := C
  show XJ pv l ev _ sv mv args below meth cv G A LL ad _ 2 0 0 _ 0 [(0, .ref (ad 30)), (1, .int r)] []
  refine x_iload_n C 1 dX10_isLock_0 rfl rfl ?_
  refine x_iconst C dX10_isLock_1 (v := 0) (by decide) ?_
  refine x_aload_n C 0 dX10_isLock_2 rfl rfl ?_
  refine x_get C (T := TX10) (N := 45) (v := .int (S 30 0)) 30 0 hin10 (hF 30 (by decide)) (pf_30 G nR ad _) rfl (by decide) lk121 rfl rfl dX10_isLock_3 ?_
  refine x_iconst C dX10_isLock_6 (v := 2) (by decide) ?_
  refine x_isub C dX10_isLock_7 ?_
  refine x_Si C (k_X10_isIn l G LL ad _ r 0 ((S 30 0) - 2)) gX10_isLock_X10_isIn rfl (by decide +kernel) ⟨(Nat.le_of_ble_eq_true rfl), (Nat.le_of_ble_eq_true rfl)⟩ ⟨(Nat.le_of_ble_eq_true rfl), (Nat.le_of_ble_eq_true rfl)⟩ (n := 3) rfl (st := []) (Nat.le_of_ble_eq_true rfl) rfl dX10_isLock_8 (fun _ _ hr9 => ?_)
  subst hr9
  refine x_zret C hrt9 (bI_01 _) () ?_ rfl dX10_isLock_11
  show _ = _
  rw [hn, isW_P2 _ _ (by omega) (by omega)]

set_option maxHeartbeats 4000000 in
set_option maxRecDepth 100000 in
theorem k_X10_isSquadron (l : Launch) (G : tf_G) (nR : Nat) (LL : List Nat) (ad : Nat → Nat) (hF : ∀ j ∈ tf_fix, j ∈ LL) (S : tf_M) (q : Int32) (n : Nat) (hz : S 30 5 = nI n) (h12 : n ≤ 12) : Ci l yX10_isSquadron wsX10_isSquadron ({ frames := 1, cells := 0, slots := 0, locals := 22 } : Room) G LL ad (fun (_ : Unit) => pw G nR ad S) (pw G nR ad S) [.ref (ad 30), .int q] (fun x _ => x = bI (isP q (nI n))) := by
  have hin10 : ∀ w ∈ u_ws RX10 TX10 45, w ∈ wsX10_isSquadron := by decide +kernel
  have lk128 : Cond.fieldLink RX10 128 "TributeFleetModel" "squadrons" "I" ∈ wsX10_isSquadron := by decide +kernel
  refine ci_of (cc := cX10_isSquadron) (maxL := 2) (ret := (some .boolean)) (by decide +kernel) rfl (Nat.le_of_ble_eq_true rfl) ?_
  intro pv ev sv mv args below meth cv A C hrt9 hnm9
  have C : Cx pv sv mv args meth cv cX10_isSquadron 2 RX10 wsX10_isSquadron G A LL ad := C
  show XJ pv l ev _ sv mv args below meth cv G A LL ad _ 2 0 0 _ 0 [(0, .ref (ad 30)), (1, .int q)] []
  refine x_iload_n C 1 dX10_isSquadron_0 rfl rfl ?_
  refine x_iconst C dX10_isSquadron_1 (v := 0) (by decide) ?_
  refine x_aload_n C 0 dX10_isSquadron_2 rfl rfl ?_
  refine x_get C (T := TX10) (N := 45) (v := .int (S 30 5)) 30 5 hin10 (hF 30 (by decide)) (pf_30 G nR ad _) rfl (by decide) lk128 rfl rfl dX10_isSquadron_3 ?_
  refine x_iconst C dX10_isSquadron_6 (v := 1) (by decide) ?_
  refine x_isub C dX10_isSquadron_7 ?_
  refine x_Si C (k_X10_isIn l G LL ad _ q 0 ((S 30 5) - 1)) gX10_isSquadron_X10_isIn rfl (by decide +kernel) ⟨(Nat.le_of_ble_eq_true rfl), (Nat.le_of_ble_eq_true rfl)⟩ ⟨(Nat.le_of_ble_eq_true rfl), (Nat.le_of_ble_eq_true rfl)⟩ (n := 3) rfl (st := []) (Nat.le_of_ble_eq_true rfl) rfl dX10_isSquadron_8 (fun _ _ hr9 => ?_)
  subst hr9
  refine x_zret C hrt9 (bI_01 _) () ?_ rfl dX10_isSquadron_11
  show _ = _
  rw [hz, isW_P _ _ (by omega)]

set_option maxHeartbeats 4000000 in
set_option maxRecDepth 100000 in
theorem k_X10_hasIce (l : Launch) (G : tf_G) (nR : Nat) (LL : List Nat) (ad : Nat → Nat) (hF : ∀ j ∈ tf_fix, j ∈ LL) (S : tf_M) (r : Int32) : Ci l yX10_hasIce wsX10_hasIce ({ frames := 0, cells := 0, slots := 0, locals := 0 } : Room) G LL ad (fun (_ : Unit) => pw G nR ad S) (pw G nR ad S) [.ref (ad 30), .int r] (fun x _ => x = bI (icy (S 30 6) (S 30 7) r (S 30 3))) := by
  have hin10 : ∀ w ∈ u_ws RX10 TX10 45, w ∈ wsX10_hasIce := by decide +kernel
  have lk144 : Cond.fieldLink RX10 144 "TributeFleetModel" "today" "I" ∈ wsX10_hasIce := by decide +kernel
  have lk16 : Cond.fieldLink RX10 16 "TributeFleetModel" "iceDay" "I" ∈ wsX10_hasIce := by decide +kernel
  have lk141 : Cond.fieldLink RX10 141 "TributeFleetModel" "iceReach" "I" ∈ wsX10_hasIce := by decide +kernel
  refine ci_of (cc := cX10_hasIce) (maxL := 2) (ret := (some .boolean)) (by decide +kernel) rfl (Nat.le_of_ble_eq_true rfl) ?_
  intro pv ev sv mv args below meth cv A C hrt9 hnm9
  have C : Cx pv sv mv args meth cv cX10_hasIce 2 RX10 wsX10_hasIce G A LL ad := C
  show XJ pv l ev _ sv mv args below meth cv G A LL ad _ 2 0 0 _ 0 [(0, .ref (ad 30)), (1, .int r)] []
  refine x_aload_n C 0 dX10_hasIce_0 rfl rfl ?_
  refine x_get C (T := TX10) (N := 45) (v := .int (S 30 3)) 30 3 hin10 (hF 30 (by decide)) (pf_30 G nR ad _) rfl (by decide) lk144 rfl rfl dX10_hasIce_1 ?_
  refine x_aload_n C 0 dX10_hasIce_4 rfl rfl ?_
  refine x_get C (T := TX10) (N := 45) (v := .int (S 30 6)) 30 6 hin10 (hF 30 (by decide)) (pf_30 G nR ad _) rfl (by decide) lk16 rfl rfl dX10_hasIce_5 ?_
  refine x_icmp_lt C (tgt := 23) dX10_hasIce_8 (by decide) (fun c8 => ?_) (fun c8 => ?_)
  · skip
    refine x_iconst C dX10_hasIce_23 (v := 0) (by decide) ?_
    refine x_zret C hrt9 (Or.inl rfl) () ?_ rfl dX10_hasIce_24
    show _ = _
    simp [icy, bI, ← Int32.not_le]; simp_all [← Int32.not_le]
  · skip
    refine x_iload_n C 1 dX10_hasIce_11 rfl rfl ?_
    refine x_aload_n C 0 dX10_hasIce_12 rfl rfl ?_
    refine x_get C (T := TX10) (N := 45) (v := .int (S 30 7)) 30 7 hin10 (hF 30 (by decide)) (pf_30 G nR ad _) rfl (by decide) lk141 rfl rfl dX10_hasIce_13 ?_
    refine x_icmp_lt C (tgt := 23) dX10_hasIce_16 (by decide) (fun c16 => ?_) (fun c16 => ?_)
    · skip
      refine x_iconst C dX10_hasIce_23 (v := 0) (by decide) ?_
      refine x_zret C hrt9 (Or.inl rfl) () ?_ rfl dX10_hasIce_24
      show _ = _
      simp [icy, bI, ← Int32.not_le]; simp_all [← Int32.not_le]
    · skip
      refine x_iconst C dX10_hasIce_19 (v := 1) (by decide) ?_
      refine x_goto C (tgt := 24) dX10_hasIce_20 (by decide) ?_
      refine x_zret C hrt9 (Or.inr rfl) () ?_ rfl dX10_hasIce_24
      show _ = _
      simp [icy, bI, ← Int32.not_le]; simp_all [← Int32.not_le]

set_option maxHeartbeats 4000000 in
set_option maxRecDepth 100000 in
theorem k_X10_water (l : Launch) (G : tf_G) (nR : Nat) (LL : List Nat) (ad : Nat → Nat) (hF : ∀ j ∈ tf_fix, j ∈ LL) (S : tf_M) (a b : Int32) (hn : S 30 0 = nI nR) (hR : nR ≤ 12) : Ci l yX10_water wsX10_water ({ frames := 2, cells := 0, slots := 0, locals := 43 } : Room) G LL ad (pw G nR ad) (pw G nR ad S) [.ref (ad 30), .int a, .int b] (fun x u => x = bI (isP a (nI nR) && isW b 0 1000) ∧ u = if (isP a (nI nR) && isW b 0 1000) = true then s2 S 31 a.toNatClampNeg b else S) := by
  have hin10 : ∀ w ∈ u_ws RX10 TX10 45, w ∈ wsX10_water := by decide +kernel
  have lk7 : Cond.fieldLink RX10 7 "TributeFleetModel" "water" "[I" ∈ wsX10_water := by decide +kernel
  refine ci_of (cc := cX10_water) (maxL := 3) (ret := (some .boolean)) (by decide +kernel) rfl (Nat.le_of_ble_eq_true rfl) ?_
  intro pv ev sv mv args below meth cv A C hrt9 hnm9
  have C : Cx pv sv mv args meth cv cX10_water 3 RX10 wsX10_water G A LL ad := C
  show XJ pv l ev _ sv mv args below meth cv G A LL ad _ 3 0 0 _ 0 [(0, .ref (ad 30)), (1, .int a), (2, .int b)] []
  refine x_aload_n C 0 dX10_water_0 rfl rfl ?_
  refine x_iload_n C 1 dX10_water_1 rfl rfl ?_
  refine x_Vi 30 C (k_X10_isReach l G nR LL ad hF S a hn hR) gX10_water_X10_isReach rfl (by decide +kernel) ⟨(Nat.le_of_ble_eq_true rfl), (Nat.le_of_ble_eq_true rfl)⟩ ⟨(Nat.le_of_ble_eq_true rfl), (Nat.le_of_ble_eq_true rfl)⟩ (hF 30 (by decide)) (pf_30 G nR ad _) (T := TX10) (N := 45) rfl (n := 1) rfl (st := []) (Nat.le_of_ble_eq_true rfl) rfl dX10_water_2 (fun _ _ hr9 => ?_)
  subst hr9
  refine x_if_eq C (tgt := 19) dX10_water_5 (by decide) (fun c5 => ?_) (fun c5 => ?_)
  · replace c5 := bI_z c5
    refine x_iconst C dX10_water_19 (v := 0) (by decide) ?_
    refine x_zret C hrt9 (Or.inl rfl) S ?_ rfl dX10_water_20
    constructor <;> simp [bI, c5]
  · replace c5 := bI_nz c5
    refine x_iload_n C 2 dX10_water_8 rfl rfl ?_
    refine x_iconst C dX10_water_9 (v := 0) (by decide) ?_
    refine x_sipush C dX10_water_10 (v := 1000) (by decide) ?_
    refine x_Si C (k_X10_isIn l G LL ad _ b 0 1000) gX10_water_X10_isIn rfl (by decide +kernel) ⟨(Nat.le_of_ble_eq_true rfl), (Nat.le_of_ble_eq_true rfl)⟩ ⟨(Nat.le_of_ble_eq_true rfl), (Nat.le_of_ble_eq_true rfl)⟩ (n := 3) rfl (st := []) (Nat.le_of_ble_eq_true rfl) rfl dX10_water_13 (fun _ _ hr9 => ?_)
    subst hr9
    refine x_if_ne C (tgt := 21) dX10_water_16 (by decide) (fun c16 => ?_) (fun c16 => ?_)
    · replace c16 := bI_nz c16
      refine x_aload_n C 0 dX10_water_21 rfl rfl ?_
      refine x_get C (T := TX10) (N := 45) (v := .ref (ad 31)) 30 1 hin10 (hF 30 (by decide)) (pf_30 G nR ad _) rfl (by decide) lk7 rfl rfl dX10_water_22 ?_
      refine x_iload_n C 1 dX10_water_25 rfl rfl ?_
      refine x_iload_n C 2 dX10_water_26 rfl rfl ?_
      refine y_iast C 31 (hF 31 (by decide)) (fun f => (pf_31 G nR ad f)) (vp_ok c5 hR (by decide)) (kk := a.toNatClampNeg) rfl dX10_water_27 ?_
      refine x_iconst C dX10_water_28 (v := 1) (by decide) ?_
      refine x_zret C hrt9 (Or.inr rfl) (s2 S 31 a.toNatClampNeg b) ?_ rfl dX10_water_29
      constructor <;> simp [bI, c5, c16]
    · replace c16 := bI_z c16
      refine x_iconst C dX10_water_19 (v := 0) (by decide) ?_
      refine x_zret C hrt9 (Or.inl rfl) S ?_ rfl dX10_water_20
      constructor <;> simp [bI, c5, c16]

set_option maxHeartbeats 4000000 in
set_option maxRecDepth 100000 in
theorem k_X10_lock (l : Launch) (G : tf_G) (nR : Nat) (LL : List Nat) (ad : Nat → Nat) (hF : ∀ j ∈ tf_fix, j ∈ LL) (S : tf_M) (a b : Int32) (hn : S 30 0 = nI nR) (hR : nR ≤ 12) (hR3 : 3 ≤ nR) : Ci l yX10_lock wsX10_lock ({ frames := 2, cells := 0, slots := 0, locals := 43 } : Room) G LL ad (pw G nR ad) (pw G nR ad S) [.ref (ad 30), .int a, .int b] (fun x u => x = bI (isP a (nI (nR - 1)) && isW b 1 60) ∧ u = if (isP a (nI (nR - 1)) && isW b 1 60) = true then s2 S 32 a.toNatClampNeg b else S) := by
  have hin10 : ∀ w ∈ u_ws RX10 TX10 45, w ∈ wsX10_lock := by decide +kernel
  have lk13 : Cond.fieldLink RX10 13 "TributeFleetModel" "boatsADay" "[I" ∈ wsX10_lock := by decide +kernel
  refine ci_of (cc := cX10_lock) (maxL := 3) (ret := (some .boolean)) (by decide +kernel) rfl (Nat.le_of_ble_eq_true rfl) ?_
  intro pv ev sv mv args below meth cv A C hrt9 hnm9
  have C : Cx pv sv mv args meth cv cX10_lock 3 RX10 wsX10_lock G A LL ad := C
  show XJ pv l ev _ sv mv args below meth cv G A LL ad _ 3 0 0 _ 0 [(0, .ref (ad 30)), (1, .int a), (2, .int b)] []
  refine x_aload_n C 0 dX10_lock_0 rfl rfl ?_
  refine x_iload_n C 1 dX10_lock_1 rfl rfl ?_
  refine x_Vi 30 C (k_X10_isLock l G nR LL ad hF S a hn hR hR3) gX10_lock_X10_isLock rfl (by decide +kernel) ⟨(Nat.le_of_ble_eq_true rfl), (Nat.le_of_ble_eq_true rfl)⟩ ⟨(Nat.le_of_ble_eq_true rfl), (Nat.le_of_ble_eq_true rfl)⟩ (hF 30 (by decide)) (pf_30 G nR ad _) (T := TX10) (N := 45) rfl (n := 1) rfl (st := []) (Nat.le_of_ble_eq_true rfl) rfl dX10_lock_2 (fun _ _ hr9 => ?_)
  subst hr9
  refine x_if_eq C (tgt := 18) dX10_lock_5 (by decide) (fun c5 => ?_) (fun c5 => ?_)
  · replace c5 := bI_z c5
    refine x_iconst C dX10_lock_18 (v := 0) (by decide) ?_
    refine x_zret C hrt9 (Or.inl rfl) S ?_ rfl dX10_lock_19
    constructor <;> simp [bI, c5]
  · replace c5 := bI_nz c5
    refine x_iload_n C 2 dX10_lock_8 rfl rfl ?_
    refine x_iconst C dX10_lock_9 (v := 1) (by decide) ?_
    refine x_bipush C dX10_lock_10 (v := 60) (by decide) ?_
    refine x_Si C (k_X10_isIn l G LL ad _ b 1 60) gX10_lock_X10_isIn rfl (by decide +kernel) ⟨(Nat.le_of_ble_eq_true rfl), (Nat.le_of_ble_eq_true rfl)⟩ ⟨(Nat.le_of_ble_eq_true rfl), (Nat.le_of_ble_eq_true rfl)⟩ (n := 3) rfl (st := []) (Nat.le_of_ble_eq_true rfl) rfl dX10_lock_12 (fun _ _ hr9 => ?_)
    subst hr9
    refine x_if_ne C (tgt := 20) dX10_lock_15 (by decide) (fun c15 => ?_) (fun c15 => ?_)
    · replace c15 := bI_nz c15
      refine x_aload_n C 0 dX10_lock_20 rfl rfl ?_
      refine x_get C (T := TX10) (N := 45) (v := .ref (ad 32)) 30 2 hin10 (hF 30 (by decide)) (pf_30 G nR ad _) rfl (by decide) lk13 rfl rfl dX10_lock_21 ?_
      refine x_iload_n C 1 dX10_lock_24 rfl rfl ?_
      refine x_iload_n C 2 dX10_lock_25 rfl rfl ?_
      refine y_iast C 32 (hF 32 (by decide)) (fun f => (pf_32 G nR ad f)) (vp_ok c5 (show nR - 1 ≤ 11 by omega) (by decide)) (kk := a.toNatClampNeg) rfl dX10_lock_26 ?_
      refine x_iconst C dX10_lock_27 (v := 1) (by decide) ?_
      refine x_zret C hrt9 (Or.inr rfl) (s2 S 32 a.toNatClampNeg b) ?_ rfl dX10_lock_28
      constructor <;> simp [bI, c5, c15]
    · replace c15 := bI_z c15
      refine x_iconst C dX10_lock_18 (v := 0) (by decide) ?_
      refine x_zret C hrt9 (Or.inl rfl) S ?_ rfl dX10_lock_19
      constructor <;> simp [bI, c5, c15]

set_option maxHeartbeats 4000000 in
set_option maxRecDepth 100000 in
theorem k_X10_lake (l : Launch) (G : tf_G) (nR : Nat) (LL : List Nat) (ad : Nat → Nat) (hF : ∀ j ∈ tf_fix, j ∈ LL) (S : tf_M) (a b : Int32) (hn : S 30 0 = nI nR) (hR : nR ≤ 12) (nk : Nat) (hk : S 30 4 = nI nk) (hk4 : nk ≤ 4) : Ci l yX10_lake wsX10_lake ({ frames := 2, cells := 0, slots := 0, locals := 43 } : Room) G LL ad (pw G nR ad) (pw G nR ad S) [.ref (ad 30), .int a, .int b] (fun x u => x = (if (isP a (nI nR) && isW b 0 5000) = true ∧ nk < 4 then nI nk else -1) ∧ u = if (isP a (nI nR) && isW b 0 5000) = true ∧ nk < 4 then s2 (s2 (s2 S 39 nk a) 40 nk b) 30 4 (nI (nk + 1)) else S) := by
  have hin10 : ∀ w ∈ u_ws RX10 TX10 45, w ∈ wsX10_lake := by decide +kernel
  have lk138 : Cond.fieldLink RX10 138 "TributeFleetModel" "lakes" "I" ∈ wsX10_lake := by decide +kernel
  have lk20 : Cond.fieldLink RX10 20 "TributeFleetModel" "lakeReach" "[I" ∈ wsX10_lake := by decide +kernel
  have lk23 : Cond.fieldLink RX10 23 "TributeFleetModel" "store" "[I" ∈ wsX10_lake := by decide +kernel
  refine ci_of (cc := cX10_lake) (maxL := 3) (ret := (some .int)) (by decide +kernel) rfl (Nat.le_of_ble_eq_true rfl) ?_
  intro pv ev sv mv args below meth cv A C hrt9 hnm9
  have C : Cx pv sv mv args meth cv cX10_lake 3 RX10 wsX10_lake G A LL ad := C
  show XJ pv l ev _ sv mv args below meth cv G A LL ad _ 3 0 0 _ 0 [(0, .ref (ad 30)), (1, .int a), (2, .int b)] []
  refine x_aload_n C 0 dX10_lake_0 rfl rfl ?_
  refine x_iload_n C 1 dX10_lake_1 rfl rfl ?_
  refine x_Vi 30 C (k_X10_isReach l G nR LL ad hF S a hn hR) gX10_lake_X10_isReach rfl (by decide +kernel) ⟨(Nat.le_of_ble_eq_true rfl), (Nat.le_of_ble_eq_true rfl)⟩ ⟨(Nat.le_of_ble_eq_true rfl), (Nat.le_of_ble_eq_true rfl)⟩ (hF 30 (by decide)) (pf_30 G nR ad _) (T := TX10) (N := 45) rfl (n := 1) rfl (st := []) (Nat.le_of_ble_eq_true rfl) rfl dX10_lake_2 (fun _ _ hr9 => ?_)
  subst hr9
  refine x_if_eq C (tgt := 27) dX10_lake_5 (by decide) (fun c5 => ?_) (fun c5 => ?_)
  · replace c5 := bI_z c5
    refine x_iconst C dX10_lake_27 (v := -1) (by decide) ?_
    refine x_iret C hrt9 S ?_ rfl dX10_lake_28
    constructor <;> simp [c5]
  · replace c5 := bI_nz c5
    refine x_iload_n C 2 dX10_lake_8 rfl rfl ?_
    refine x_iconst C dX10_lake_9 (v := 0) (by decide) ?_
    refine x_sipush C dX10_lake_10 (v := 5000) (by decide) ?_
    refine x_Si C (k_X10_isIn l G LL ad _ b 0 5000) gX10_lake_X10_isIn rfl (by decide +kernel) ⟨(Nat.le_of_ble_eq_true rfl), (Nat.le_of_ble_eq_true rfl)⟩ ⟨(Nat.le_of_ble_eq_true rfl), (Nat.le_of_ble_eq_true rfl)⟩ (n := 3) rfl (st := []) (Nat.le_of_ble_eq_true rfl) rfl dX10_lake_13 (fun _ _ hr9 => ?_)
    subst hr9
    refine x_if_eq C (tgt := 27) dX10_lake_16 (by decide) (fun c16 => ?_) (fun c16 => ?_)
    · replace c16 := bI_z c16
      refine x_iconst C dX10_lake_27 (v := -1) (by decide) ?_
      refine x_iret C hrt9 S ?_ rfl dX10_lake_28
      constructor <;> simp [c5, c16]
    · replace c16 := bI_nz c16
      refine x_aload_n C 0 dX10_lake_19 rfl rfl ?_
      refine x_get C (T := TX10) (N := 45) (v := .int (S 30 4)) 30 4 hin10 (hF 30 (by decide)) (pf_30 G nR ad _) rfl (by decide) lk138 rfl rfl dX10_lake_20 ?_
      refine x_iconst C dX10_lake_23 (v := 4) (by decide) ?_
      refine x_icmp_ne C (tgt := 29) dX10_lake_24 (by decide) (fun c24 => ?_) (fun c24 => ?_)
      · skip
        have hlt : nk < 4 := by
          rcases Nat.lt_or_ge nk 4 with q | q
          · exact q
          · exact absurd (by rw [hk, show nk = 4 by omega]; rfl) c24
        refine x_aload_n C 0 dX10_lake_29 rfl rfl ?_
        refine x_get C (T := TX10) (N := 45) (v := .ref (ad 39)) 30 9 hin10 (hF 30 (by decide)) (pf_30 G nR ad _) rfl (by decide) lk20 rfl rfl dX10_lake_30 ?_
        refine x_aload_n C 0 dX10_lake_33 rfl rfl ?_
        refine x_get C (T := TX10) (N := 45) (v := .int (S 30 4)) 30 4 hin10 (hF 30 (by decide)) (pf_30 G nR ad _) rfl (by decide) lk138 rfl rfl dX10_lake_34 ?_
        refine x_iload_n C 1 dX10_lake_37 rfl rfl ?_
        refine y_iast C 39 (hF 39 (by decide)) (fun f => (pf_39 G nR ad f)) (by show vp_in (S 30 4) 4; rw [hk]; exact nI_in hlt (by decide)) (kk := nk) (by show (S 30 4).toNatClampNeg = nk; rw [hk]; exact nI_clamp (by omega)) dX10_lake_38 ?_
        refine x_aload_n C 0 dX10_lake_39 rfl rfl ?_
        refine x_get C (T := TX10) (N := 45) (v := .ref (ad 40)) 30 10 hin10 (hF 30 (by decide)) (pf_30 G nR ad _) rfl (by decide) lk23 rfl rfl dX10_lake_40 ?_
        refine x_aload_n C 0 dX10_lake_43 rfl rfl ?_
        refine x_get C (T := TX10) (N := 45) (v := .int (S 30 4)) 30 4 hin10 (hF 30 (by decide)) (pf_30 G nR ad _) rfl (by decide) lk138 rfl rfl dX10_lake_44 ?_
        refine x_iload_n C 2 dX10_lake_47 rfl rfl ?_
        refine y_iast C 40 (hF 40 (by decide)) (fun f => (pf_40 G nR ad f)) (by show vp_in (S 30 4) 4; rw [hk]; exact nI_in hlt (by decide)) (kk := nk) (by show (S 30 4).toNatClampNeg = nk; rw [hk]; exact nI_clamp (by omega)) dX10_lake_48 ?_
        refine x_aload_n C 0 dX10_lake_49 rfl rfl ?_
        refine x_dup C dX10_lake_50 rfl ?_
        refine x_get C (T := TX10) (N := 45) (v := .int (S 30 4)) 30 4 hin10 (hF 30 (by decide)) (pf_30 G nR ad _) rfl (by decide) lk138 rfl rfl dX10_lake_51 ?_
        refine x_iconst C dX10_lake_54 (v := 1) (by decide) ?_
        refine x_iadd C dX10_lake_55 ?_
        refine y_put C (T := TX10) (N := 45) (ty := .int) 30 4 hin10 tyX10 tyX10_ok nmX10 (hF 30 (by decide)) (pf_30 G nR ad _) (pf_30 G nR ad _) rfl (by decide) lk138 rfl rfl (by decide +kernel) rfl rfl (Nat.le_of_ble_eq_true rfl) dX10_lake_56 ?_
        refine x_aload_n C 0 dX10_lake_59 rfl rfl ?_
        refine x_get C (T := TX10) (N := 45) (v := .int ((S 30 4) + 1)) 30 4 hin10 (hF 30 (by decide)) (pf_30 G nR ad _) rfl (by decide) lk138 rfl rfl dX10_lake_60 ?_
        refine x_iconst C dX10_lake_63 (v := 1) (by decide) ?_
        refine x_isub C dX10_lake_64 ?_
        refine x_iret C hrt9 (s2 (s2 (s2 S 39 nk a) 40 nk b) 30 4 ((S 30 4) + 1)) ?_ rfl dX10_lake_65
        have hg : (isP a (nI nR) && isW b 0 5000) = true ∧ nk < 4 := ⟨by rw [c5, c16]; rfl, hlt⟩
        rw [if_pos hg, if_pos hg, hk]
        exact ⟨by rw [← nI_succ, nI_pred], by rw [nI_succ]⟩
      · skip
        have hge : ¬ nk < 4 := fun q => by
          rw [hk] at c24
          exact absurd (nI_inj (b := 4) c24 (by omega) (by decide)) (by omega)
        refine x_iconst C dX10_lake_27 (v := -1) (by decide) ?_
        refine x_iret C hrt9 S ?_ rfl dX10_lake_28
        rw [if_neg (fun h => hge h.2), if_neg (fun h => hge h.2)]
        exact ⟨rfl, rfl⟩

set_option maxHeartbeats 4000000 in
set_option maxRecDepth 100000 in
theorem k_X10_give (l : Launch) (G : tf_G) (nR : Nat) (LL : List Nat) (ad : Nat → Nat) (hF : ∀ j ∈ tf_fix, j ∈ LL) (S : tf_M) (a b : Int32) (nk : Nat) (hk : S 30 4 = nI nk) (hk4 : nk ≤ 4) : Ci l yX10_give wsX10_give ({ frames := 1, cells := 0, slots := 0, locals := 22 } : Room) G LL ad (pw G nR ad) (pw G nR ad S) [.ref (ad 30), .int a, .int b] (fun x u => x = bI (isP a (nI nk) && isW b 0 100) ∧ u = if (isP a (nI nk) && isW b 0 100) = true then s2 S 41 a.toNatClampNeg b else S) := by
  have hin10 : ∀ w ∈ u_ws RX10 TX10 45, w ∈ wsX10_give := by decide +kernel
  have lk138 : Cond.fieldLink RX10 138 "TributeFleetModel" "lakes" "I" ∈ wsX10_give := by decide +kernel
  have lk26 : Cond.fieldLink RX10 26 "TributeFleetModel" "gives" "[I" ∈ wsX10_give := by decide +kernel
  refine ci_of (cc := cX10_give) (maxL := 3) (ret := (some .boolean)) (by decide +kernel) rfl (Nat.le_of_ble_eq_true rfl) ?_
  intro pv ev sv mv args below meth cv A C hrt9 hnm9
  have C : Cx pv sv mv args meth cv cX10_give 3 RX10 wsX10_give G A LL ad := C
  show XJ pv l ev _ sv mv args below meth cv G A LL ad _ 3 0 0 _ 0 [(0, .ref (ad 30)), (1, .int a), (2, .int b)] []
  refine x_iload_n C 1 dX10_give_0 rfl rfl ?_
  refine x_iconst C dX10_give_1 (v := 0) (by decide) ?_
  refine x_aload_n C 0 dX10_give_2 rfl rfl ?_
  refine x_get C (T := TX10) (N := 45) (v := .int (S 30 4)) 30 4 hin10 (hF 30 (by decide)) (pf_30 G nR ad _) rfl (by decide) lk138 rfl rfl dX10_give_3 ?_
  refine x_iconst C dX10_give_6 (v := 1) (by decide) ?_
  refine x_isub C dX10_give_7 ?_
  refine x_Si C (k_X10_isIn l G LL ad _ a 0 (S 30 4 - 1)) gX10_give_X10_isIn rfl (by decide +kernel) ⟨(Nat.le_of_ble_eq_true rfl), (Nat.le_of_ble_eq_true rfl)⟩ ⟨(Nat.le_of_ble_eq_true rfl), (Nat.le_of_ble_eq_true rfl)⟩ (n := 3) rfl (st := []) (Nat.le_of_ble_eq_true rfl) rfl dX10_give_8 (fun r9 _ hr9 => ?_)
  obtain rfl : r9 = bI (isP a (nI nk)) := by rw [hr9, hk, isW_P _ _ (by omega)]
  refine x_if_eq C (tgt := 24) dX10_give_11 (by decide) (fun c11 => ?_) (fun c11 => ?_)
  · replace c11 := bI_z c11
    refine x_iconst C dX10_give_24 (v := 0) (by decide) ?_
    refine x_zret C hrt9 (Or.inl rfl) S ?_ rfl dX10_give_25
    constructor <;> simp [bI, c11]
  · replace c11 := bI_nz c11
    refine x_iload_n C 2 dX10_give_14 rfl rfl ?_
    refine x_iconst C dX10_give_15 (v := 0) (by decide) ?_
    refine x_bipush C dX10_give_16 (v := 100) (by decide) ?_
    refine x_Si C (k_X10_isIn l G LL ad _ b 0 100) gX10_give_X10_isIn rfl (by decide +kernel) ⟨(Nat.le_of_ble_eq_true rfl), (Nat.le_of_ble_eq_true rfl)⟩ ⟨(Nat.le_of_ble_eq_true rfl), (Nat.le_of_ble_eq_true rfl)⟩ (n := 3) rfl (st := []) (Nat.le_of_ble_eq_true rfl) rfl dX10_give_18 (fun _ _ hr9 => ?_)
    subst hr9
    refine x_if_ne C (tgt := 26) dX10_give_21 (by decide) (fun c21 => ?_) (fun c21 => ?_)
    · replace c21 := bI_nz c21
      refine x_aload_n C 0 dX10_give_26 rfl rfl ?_
      refine x_get C (T := TX10) (N := 45) (v := .ref (ad 41)) 30 11 hin10 (hF 30 (by decide)) (pf_30 G nR ad _) rfl (by decide) lk26 rfl rfl dX10_give_27 ?_
      refine x_iload_n C 1 dX10_give_30 rfl rfl ?_
      refine x_iload_n C 2 dX10_give_31 rfl rfl ?_
      refine y_iast C 41 (hF 41 (by decide)) (fun f => (pf_41 G nR ad f)) (vp_ok c11 hk4 (by decide)) (kk := a.toNatClampNeg) rfl dX10_give_32 ?_
      refine x_iconst C dX10_give_33 (v := 1) (by decide) ?_
      refine x_zret C hrt9 (Or.inr rfl) (s2 S 41 a.toNatClampNeg b) ?_ rfl dX10_give_34
      constructor <;> simp [bI, c11, c21]
    · replace c21 := bI_z c21
      refine x_iconst C dX10_give_24 (v := 0) (by decide) ?_
      refine x_zret C hrt9 (Or.inl rfl) S ?_ rfl dX10_give_25
      constructor <;> simp [bI, c11, c21]

set_option maxHeartbeats 4000000 in
set_option maxRecDepth 100000 in
theorem k_X10_ice (l : Launch) (G : tf_G) (nR : Nat) (LL : List Nat) (ad : Nat → Nat) (hF : ∀ j ∈ tf_fix, j ∈ LL) (S : tf_M) (a b : Int32) (hn : S 30 0 = nI nR) (hR : nR ≤ 12) : Ci l yX10_ice wsX10_ice ({ frames := 2, cells := 0, slots := 0, locals := 43 } : Room) G LL ad (pw G nR ad) (pw G nR ad S) [.ref (ad 30), .int a, .int b] (fun x u => x = bI (isW a 0 400 && isP b (nI nR)) ∧ u = if (isW a 0 400 && isP b (nI nR)) = true then s2 (s2 S 30 6 a) 30 7 b else S) := by
  have hin10 : ∀ w ∈ u_ws RX10 TX10 45, w ∈ wsX10_ice := by decide +kernel
  have lk16 : Cond.fieldLink RX10 16 "TributeFleetModel" "iceDay" "I" ∈ wsX10_ice := by decide +kernel
  have lk141 : Cond.fieldLink RX10 141 "TributeFleetModel" "iceReach" "I" ∈ wsX10_ice := by decide +kernel
  refine ci_of (cc := cX10_ice) (maxL := 3) (ret := (some .boolean)) (by decide +kernel) rfl (Nat.le_of_ble_eq_true rfl) ?_
  intro pv ev sv mv args below meth cv A C hrt9 hnm9
  have C : Cx pv sv mv args meth cv cX10_ice 3 RX10 wsX10_ice G A LL ad := C
  show XJ pv l ev _ sv mv args below meth cv G A LL ad _ 3 0 0 _ 0 [(0, .ref (ad 30)), (1, .int a), (2, .int b)] []
  refine x_iload_n C 1 dX10_ice_0 rfl rfl ?_
  refine x_iconst C dX10_ice_1 (v := 0) (by decide) ?_
  refine x_sipush C dX10_ice_2 (v := 400) (by decide) ?_
  refine x_Si C (k_X10_isIn l G LL ad _ a 0 400) gX10_ice_X10_isIn rfl (by decide +kernel) ⟨(Nat.le_of_ble_eq_true rfl), (Nat.le_of_ble_eq_true rfl)⟩ ⟨(Nat.le_of_ble_eq_true rfl), (Nat.le_of_ble_eq_true rfl)⟩ (n := 3) rfl (st := []) (Nat.le_of_ble_eq_true rfl) rfl dX10_ice_5 (fun _ _ hr9 => ?_)
  subst hr9
  refine x_if_eq C (tgt := 19) dX10_ice_8 (by decide) (fun c8 => ?_) (fun c8 => ?_)
  · replace c8 := bI_z c8
    refine x_iconst C dX10_ice_19 (v := 0) (by decide) ?_
    refine x_zret C hrt9 (Or.inl rfl) S ?_ rfl dX10_ice_20
    constructor <;> simp [bI, c8]
  · replace c8 := bI_nz c8
    refine x_aload_n C 0 dX10_ice_11 rfl rfl ?_
    refine x_iload_n C 2 dX10_ice_12 rfl rfl ?_
    refine x_Vi 30 C (k_X10_isReach l G nR LL ad hF S b hn hR) gX10_ice_X10_isReach rfl (by decide +kernel) ⟨(Nat.le_of_ble_eq_true rfl), (Nat.le_of_ble_eq_true rfl)⟩ ⟨(Nat.le_of_ble_eq_true rfl), (Nat.le_of_ble_eq_true rfl)⟩ (hF 30 (by decide)) (pf_30 G nR ad _) (T := TX10) (N := 45) rfl (n := 1) rfl (st := []) (Nat.le_of_ble_eq_true rfl) rfl dX10_ice_13 (fun _ _ hr9 => ?_)
    subst hr9
    refine x_if_ne C (tgt := 21) dX10_ice_16 (by decide) (fun c16 => ?_) (fun c16 => ?_)
    · replace c16 := bI_nz c16
      refine x_aload_n C 0 dX10_ice_21 rfl rfl ?_
      refine x_iload_n C 1 dX10_ice_22 rfl rfl ?_
      refine y_put C (T := TX10) (N := 45) (ty := .int) 30 6 hin10 tyX10 tyX10_ok nmX10 (hF 30 (by decide)) (pf_30 G nR ad _) (pf_30 G nR ad _) rfl (by decide) lk16 rfl rfl (by decide +kernel) rfl rfl (Nat.le_of_ble_eq_true rfl) dX10_ice_23 ?_
      refine x_aload_n C 0 dX10_ice_26 rfl rfl ?_
      refine x_iload_n C 2 dX10_ice_27 rfl rfl ?_
      refine y_put C (T := TX10) (N := 45) (ty := .int) 30 7 hin10 tyX10 tyX10_ok nmX10 (hF 30 (by decide)) (pf_30 G nR ad _) (pf_30 G nR ad _) rfl (by decide) lk141 rfl rfl (by decide +kernel) rfl rfl (Nat.le_of_ble_eq_true rfl) dX10_ice_28 ?_
      refine x_iconst C dX10_ice_31 (v := 1) (by decide) ?_
      refine x_zret C hrt9 (Or.inr rfl) (s2 (s2 S 30 6 a) 30 7 b) ?_ rfl dX10_ice_32
      constructor <;> simp [bI, c8, c16]
    · replace c16 := bI_z c16
      refine x_iconst C dX10_ice_19 (v := 0) (by decide) ?_
      refine x_zret C hrt9 (Or.inl rfl) S ?_ rfl dX10_ice_20
      constructor <;> simp [bI, c8, c16]

set_option maxHeartbeats 4000000 in
set_option maxRecDepth 100000 in
theorem k_X10_fault (l : Launch) (G : tf_G) (nR : Nat) (LL : List Nat) (ad : Nat → Nat) (hF : ∀ j ∈ tf_fix, j ∈ LL) (S : tf_M)  : Ci l yX10_fault wsX10_fault ({ frames := 0, cells := 0, slots := 0, locals := 0 } : Room) G LL ad (fun (_ : Unit) => pw G nR ad S) (pw G nR ad S) [.ref (ad 30)] (fun x _ => x = S 30 32) := by
  have hin10 : ∀ w ∈ u_ws RX10 TX10 45, w ∈ wsX10_fault := by decide +kernel
  have lk82 : Cond.fieldLink RX10 82 "TributeFleetModel" "fault" "I" ∈ wsX10_fault := by decide +kernel
  refine ci_of (cc := cX10_fault) (maxL := 1) (ret := (some .int)) (by decide +kernel) rfl (Nat.le_of_ble_eq_true rfl) ?_
  intro pv ev sv mv args below meth cv A C hrt9 hnm9
  have C : Cx pv sv mv args meth cv cX10_fault 1 RX10 wsX10_fault G A LL ad := C
  show XJ pv l ev _ sv mv args below meth cv G A LL ad _ 1 0 0 _ 0 [(0, .ref (ad 30))] []
  refine x_aload_n C 0 dX10_fault_0 rfl rfl ?_
  refine x_get C (T := TX10) (N := 45) (v := .int (S 30 32)) 30 32 hin10 (hF 30 (by decide)) (pf_30 G nR ad _) rfl (by decide) lk82 rfl rfl dX10_fault_1 ?_
  refine x_iret C hrt9 () ?_ rfl dX10_fault_4
  rfl

set_option maxHeartbeats 4000000 in
set_option maxRecDepth 100000 in
theorem k_X10_store (l : Launch) (G : tf_G) (nR : Nat) (LL : List Nat) (ad : Nat → Nat) (hF : ∀ j ∈ tf_fix, j ∈ LL) (S : tf_M) (a : Int32) (nk : Nat) (hk : S 30 4 = nI nk) (hk4 : nk ≤ 4) : Ci l yX10_store wsX10_store ({ frames := 1, cells := 0, slots := 0, locals := 22 } : Room) G LL ad (fun (_ : Unit) => pw G nR ad S) (pw G nR ad S) [.ref (ad 30), .int a] (fun x _ => x = if isP a (nI nk) = true then S 40 a.toNatClampNeg else -1) := by
  have hin10 : ∀ w ∈ u_ws RX10 TX10 45, w ∈ wsX10_store := by decide +kernel
  have lk138 : Cond.fieldLink RX10 138 "TributeFleetModel" "lakes" "I" ∈ wsX10_store := by decide +kernel
  have lk23 : Cond.fieldLink RX10 23 "TributeFleetModel" "store" "[I" ∈ wsX10_store := by decide +kernel
  refine ci_of (cc := cX10_store) (maxL := 2) (ret := (some .int)) (by decide +kernel) rfl (Nat.le_of_ble_eq_true rfl) ?_
  intro pv ev sv mv args below meth cv A C hrt9 hnm9
  have C : Cx pv sv mv args meth cv cX10_store 2 RX10 wsX10_store G A LL ad := C
  show XJ pv l ev _ sv mv args below meth cv G A LL ad _ 2 0 0 _ 0 [(0, .ref (ad 30)), (1, .int a)] []
  refine x_iload_n C 1 dX10_store_0 rfl rfl ?_
  refine x_iconst C dX10_store_1 (v := 0) (by decide) ?_
  refine x_aload_n C 0 dX10_store_2 rfl rfl ?_
  refine x_get C (T := TX10) (N := 45) (v := .int (S 30 4)) 30 4 hin10 (hF 30 (by decide)) (pf_30 G nR ad _) rfl (by decide) lk138 rfl rfl dX10_store_3 ?_
  refine x_iconst C dX10_store_6 (v := 1) (by decide) ?_
  refine x_isub C dX10_store_7 ?_
  refine x_Si C (k_X10_isIn l G LL ad _ a 0 (S 30 4 - 1)) gX10_store_X10_isIn rfl (by decide +kernel) ⟨(Nat.le_of_ble_eq_true rfl), (Nat.le_of_ble_eq_true rfl)⟩ ⟨(Nat.le_of_ble_eq_true rfl), (Nat.le_of_ble_eq_true rfl)⟩ (n := 3) rfl (st := []) (Nat.le_of_ble_eq_true rfl) rfl dX10_store_8 (fun r9 _ hr9 => ?_)
  obtain rfl : r9 = bI (isP a (nI nk)) := by rw [hr9, hk, isW_P _ _ (by omega)]
  refine x_if_eq C (tgt := 23) dX10_store_11 (by decide) (fun c11 => ?_) (fun c11 => ?_)
  · replace c11 := bI_z c11
    refine x_iconst C dX10_store_23 (v := -1) (by decide) ?_
    refine x_iret C hrt9 () ?_ rfl dX10_store_24
    show _ = _
    simp [c11]
  · replace c11 := bI_nz c11
    refine x_aload_n C 0 dX10_store_14 rfl rfl ?_
    refine x_get C (T := TX10) (N := 45) (v := .ref (ad 40)) 30 10 hin10 (hF 30 (by decide)) (pf_30 G nR ad _) rfl (by decide) lk23 rfl rfl dX10_store_15 ?_
    refine x_iload_n C 1 dX10_store_18 rfl rfl ?_
    refine x_iald C 40 (hF 40 (by decide)) (pf_40 G nR ad _) (vp_ok c11 hk4 (by decide)) (kk := a.toNatClampNeg) rfl dX10_store_19 ?_
    refine x_goto C (tgt := 24) dX10_store_20 (by decide) ?_
    refine x_iret C hrt9 () ?_ rfl dX10_store_24
    show _ = _
    simp [c11]

set_option maxHeartbeats 4000000 in
set_option maxRecDepth 100000 in
theorem k_X10_allot (l : Launch) (G : tf_G) (nR : Nat) (LL : List Nat) (ad : Nat → Nat) (hF : ∀ j ∈ tf_fix, j ∈ LL) (S : tf_M) (a b : Int32)  : Ci l yX10_allot wsX10_allot ({ frames := 2, cells := 0, slots := 0, locals := 42 } : Room) G LL ad (pw G nR ad) (pw G nR ad S) [.ref (ad 30), .int a, .int b] (fun x u => x = bI (isW a 0 5 && isW b 0 10000) ∧ u = if (isW a 0 5 && isW b 0 10000) = true then s2 S 54 a.toNatClampNeg b else S) := by
  have hin10 : ∀ w ∈ u_ws RX10 TX10 45, w ∈ wsX10_allot := by decide +kernel
  have lk66 : Cond.fieldLink RX10 66 "TributeFleetModel" "allotment" "[I" ∈ wsX10_allot := by decide +kernel
  refine ci_of (cc := cX10_allot) (maxL := 3) (ret := (some .boolean)) (by decide +kernel) rfl (Nat.le_of_ble_eq_true rfl) ?_
  intro pv ev sv mv args below meth cv A C hrt9 hnm9
  have C : Cx pv sv mv args meth cv cX10_allot 3 RX10 wsX10_allot G A LL ad := C
  show XJ pv l ev _ sv mv args below meth cv G A LL ad _ 3 0 0 _ 0 [(0, .ref (ad 30)), (1, .int a), (2, .int b)] []
  refine x_iload_n C 1 dX10_allot_0 rfl rfl ?_
  refine x_Si C (k_X10_isCounty l G LL ad _ a) gX10_allot_X10_isCounty rfl (by decide +kernel) ⟨(Nat.le_of_ble_eq_true rfl), (Nat.le_of_ble_eq_true rfl)⟩ ⟨(Nat.le_of_ble_eq_true rfl), (Nat.le_of_ble_eq_true rfl)⟩ (n := 1) rfl (st := []) (Nat.le_of_ble_eq_true rfl) rfl dX10_allot_1 (fun _ _ hr9 => ?_)
  subst hr9
  refine x_if_eq C (tgt := 18) dX10_allot_4 (by decide) (fun c4 => ?_) (fun c4 => ?_)
  · replace c4 := bI_z c4
    refine x_iconst C dX10_allot_18 (v := 0) (by decide) ?_
    refine x_zret C hrt9 (Or.inl rfl) S ?_ rfl dX10_allot_19
    constructor <;> simp [bI, c4]
  · replace c4 := bI_nz c4
    refine x_iload_n C 2 dX10_allot_7 rfl rfl ?_
    refine x_iconst C dX10_allot_8 (v := 0) (by decide) ?_
    refine x_sipush C dX10_allot_9 (v := 10000) (by decide) ?_
    refine x_Si C (k_X10_isIn l G LL ad _ b 0 10000) gX10_allot_X10_isIn rfl (by decide +kernel) ⟨(Nat.le_of_ble_eq_true rfl), (Nat.le_of_ble_eq_true rfl)⟩ ⟨(Nat.le_of_ble_eq_true rfl), (Nat.le_of_ble_eq_true rfl)⟩ (n := 3) rfl (st := []) (Nat.le_of_ble_eq_true rfl) rfl dX10_allot_12 (fun _ _ hr9 => ?_)
    subst hr9
    refine x_if_ne C (tgt := 20) dX10_allot_15 (by decide) (fun c15 => ?_) (fun c15 => ?_)
    · replace c15 := bI_nz c15
      refine x_aload_n C 0 dX10_allot_20 rfl rfl ?_
      refine x_get C (T := TX10) (N := 45) (v := .ref (ad 54)) 30 24 hin10 (hF 30 (by decide)) (pf_30 G nR ad _) rfl (by decide) lk66 rfl rfl dX10_allot_21 ?_
      refine x_iload_n C 1 dX10_allot_24 rfl rfl ?_
      refine x_iload_n C 2 dX10_allot_25 rfl rfl ?_
      refine y_iast C 54 (hF 54 (by decide)) (fun f => (pf_54 G nR ad f)) (vp_ok5 c4) (kk := a.toNatClampNeg) rfl dX10_allot_26 ?_
      refine x_iconst C dX10_allot_27 (v := 1) (by decide) ?_
      refine x_zret C hrt9 (Or.inr rfl) (s2 S 54 a.toNatClampNeg b) ?_ rfl dX10_allot_28
      constructor <;> simp [bI, c4, c15]
    · replace c15 := bI_z c15
      refine x_iconst C dX10_allot_18 (v := 0) (by decide) ?_
      refine x_zret C hrt9 (Or.inl rfl) S ?_ rfl dX10_allot_19
      constructor <;> simp [bI, c4, c15]

set_option maxHeartbeats 4000000 in
set_option maxRecDepth 100000 in
theorem k_X10_rate (l : Launch) (G : tf_G) (nR : Nat) (LL : List Nat) (ad : Nat → Nat) (hF : ∀ j ∈ tf_fix, j ∈ LL) (S : tf_M) (a : Int32) : Ci l yX10_rate wsX10_rate ({ frames := 1, cells := 0, slots := 0, locals := 22 } : Room) G LL ad (pw G nR ad) (pw G nR ad S) [.ref (ad 30), .int a] (fun x u => x = bI (isW a 0 100) ∧ u = if (isW a 0 100) = true then s2 S 30 8 a else S) := by
  have hin10 : ∀ w ∈ u_ws RX10 TX10 45, w ∈ wsX10_rate := by decide +kernel
  have lk241 : Cond.fieldLink RX10 241 "TributeFleetModel" "rate" "I" ∈ wsX10_rate := by decide +kernel
  refine ci_of (cc := cX10_rate) (maxL := 2) (ret := (some .boolean)) (by decide +kernel) rfl (Nat.le_of_ble_eq_true rfl) ?_
  intro pv ev sv mv args below meth cv A C hrt9 hnm9
  have C : Cx pv sv mv args meth cv cX10_rate 2 RX10 wsX10_rate G A LL ad := C
  show XJ pv l ev _ sv mv args below meth cv G A LL ad _ 2 0 0 _ 0 [(0, .ref (ad 30)), (1, .int a)] []
  refine x_iload_n C 1 dX10_rate_0 rfl rfl ?_
  refine x_iconst C dX10_rate_1 (v := 0) (by decide) ?_
  refine x_bipush C dX10_rate_2 (v := 100) (by decide) ?_
  refine x_Si C (k_X10_isIn l G LL ad _ a 0 100) gX10_rate_X10_isIn rfl (by decide +kernel) ⟨(Nat.le_of_ble_eq_true rfl), (Nat.le_of_ble_eq_true rfl)⟩ ⟨(Nat.le_of_ble_eq_true rfl), (Nat.le_of_ble_eq_true rfl)⟩ (n := 3) rfl (st := []) (Nat.le_of_ble_eq_true rfl) rfl dX10_rate_4 (fun _ _ hr9 => ?_)
  subst hr9
  refine x_if_ne C (tgt := 12) dX10_rate_7 (by decide) (fun c7 => ?_) (fun c7 => ?_)
  · replace c7 := bI_nz c7
    refine x_aload_n C 0 dX10_rate_12 rfl rfl ?_
    refine x_iload_n C 1 dX10_rate_13 rfl rfl ?_
    refine y_put C (T := TX10) (N := 45) (ty := .int) 30 8 hin10 tyX10 tyX10_ok nmX10 (hF 30 (by decide)) (pf_30 G nR ad _) (pf_30 G nR ad _) rfl (by decide) lk241 rfl rfl (by decide +kernel) rfl rfl (Nat.le_of_ble_eq_true rfl) dX10_rate_14 ?_
    refine x_iconst C dX10_rate_17 (v := 1) (by decide) ?_
    refine x_zret C hrt9 (Or.inr rfl) (s2 S 30 8 a) ?_ rfl dX10_rate_18
    constructor <;> simp [bI, c7]
  · replace c7 := bI_z c7
    refine x_iconst C dX10_rate_10 (v := 0) (by decide) ?_
    refine x_zret C hrt9 (Or.inl rfl) S ?_ rfl dX10_rate_11
    constructor <;> simp [bI, c7]

def mPay (S : tf_M) (a b : Int32) : tf_M := s2 (s2 S 55 a.toNatClampNeg (S 55 a.toNatClampNeg + b)) 56 a.toNatClampNeg (S 56 a.toNatClampNeg + b * S 30 8)
set_option maxHeartbeats 4000000 in
set_option maxRecDepth 100000 in
theorem k_X10_commute (l : Launch) (G : tf_G) (nR : Nat) (LL : List Nat) (ad : Nat → Nat) (hF : ∀ j ∈ tf_fix, j ∈ LL) (S : tf_M) (a b : Int32)  : Ci l yX10_commute wsX10_commute ({ frames := 2, cells := 0, slots := 0, locals := 42 } : Room) G LL ad (pw G nR ad) (pw G nR ad S) [.ref (ad 30), .int a, .int b] (fun x u => x = (if (isW a 0 5 && isW b 1 (S 54 a.toNatClampNeg - S 55 a.toNatClampNeg)) = true then b * S 30 8 else -1) ∧ u = if (isW a 0 5 && isW b 1 (S 54 a.toNatClampNeg - S 55 a.toNatClampNeg)) = true then mPay S a b else S) := by
  have hin10 : ∀ w ∈ u_ws RX10 TX10 45, w ∈ wsX10_commute := by decide +kernel
  have lk66 : Cond.fieldLink RX10 66 "TributeFleetModel" "allotment" "[I" ∈ wsX10_commute := by decide +kernel
  have lk69 : Cond.fieldLink RX10 69 "TributeFleetModel" "commuted" "[I" ∈ wsX10_commute := by decide +kernel
  have lk72 : Cond.fieldLink RX10 72 "TributeFleetModel" "paid" "[I" ∈ wsX10_commute := by decide +kernel
  have lk241 : Cond.fieldLink RX10 241 "TributeFleetModel" "rate" "I" ∈ wsX10_commute := by decide +kernel
  refine ci_of (cc := cX10_commute) (maxL := 3) (ret := (some .int)) (by decide +kernel) rfl (Nat.le_of_ble_eq_true rfl) ?_
  intro pv ev sv mv args below meth cv A C hrt9 hnm9
  have C : Cx pv sv mv args meth cv cX10_commute 3 RX10 wsX10_commute G A LL ad := C
  show XJ pv l ev _ sv mv args below meth cv G A LL ad _ 3 0 0 _ 0 [(0, .ref (ad 30)), (1, .int a), (2, .int b)] []
  refine x_iload_n C 1 dX10_commute_0 rfl rfl ?_
  refine x_Si C (k_X10_isCounty l G LL ad _ a) gX10_commute_X10_isCounty rfl (by decide +kernel) ⟨(Nat.le_of_ble_eq_true rfl), (Nat.le_of_ble_eq_true rfl)⟩ ⟨(Nat.le_of_ble_eq_true rfl), (Nat.le_of_ble_eq_true rfl)⟩ (n := 1) rfl (st := []) (Nat.le_of_ble_eq_true rfl) rfl dX10_commute_1 (fun _ _ hr9 => ?_)
  subst hr9
  refine x_if_eq C (tgt := 28) dX10_commute_4 (by decide) (fun c4 => ?_) (fun c4 => ?_)
  · replace c4 := bI_z c4
    refine x_iconst C dX10_commute_28 (v := -1) (by decide) ?_
    refine x_iret C hrt9 S ?_ rfl dX10_commute_29
    constructor <;> simp [bI, c4, mPay]
  · replace c4 := bI_nz c4
    refine x_iload_n C 2 dX10_commute_7 rfl rfl ?_
    refine x_iconst C dX10_commute_8 (v := 1) (by decide) ?_
    refine x_aload_n C 0 dX10_commute_9 rfl rfl ?_
    refine x_get C (T := TX10) (N := 45) (v := .ref (ad 54)) 30 24 hin10 (hF 30 (by decide)) (pf_30 G nR ad _) rfl (by decide) lk66 rfl rfl dX10_commute_10 ?_
    refine x_iload_n C 1 dX10_commute_13 rfl rfl ?_
    refine x_iald C 54 (hF 54 (by decide)) (pf_54 G nR ad _) (vp_ok5 c4) (kk := a.toNatClampNeg) rfl dX10_commute_14 ?_
    refine x_aload_n C 0 dX10_commute_15 rfl rfl ?_
    refine x_get C (T := TX10) (N := 45) (v := .ref (ad 55)) 30 25 hin10 (hF 30 (by decide)) (pf_30 G nR ad _) rfl (by decide) lk69 rfl rfl dX10_commute_16 ?_
    refine x_iload_n C 1 dX10_commute_19 rfl rfl ?_
    refine x_iald C 55 (hF 55 (by decide)) (pf_55 G nR ad _) (vp_ok5 c4) (kk := a.toNatClampNeg) rfl dX10_commute_20 ?_
    refine x_isub C dX10_commute_21 ?_
    refine x_Si C (k_X10_isIn l G LL ad _ b 1 ((S 54 (a.toNatClampNeg)) - (S 55 (a.toNatClampNeg)))) gX10_commute_X10_isIn rfl (by decide +kernel) ⟨(Nat.le_of_ble_eq_true rfl), (Nat.le_of_ble_eq_true rfl)⟩ ⟨(Nat.le_of_ble_eq_true rfl), (Nat.le_of_ble_eq_true rfl)⟩ (n := 3) rfl (st := []) (Nat.le_of_ble_eq_true rfl) rfl dX10_commute_22 (fun _ _ hr9 => ?_)
    subst hr9
    refine x_if_ne C (tgt := 30) dX10_commute_25 (by decide) (fun c25 => ?_) (fun c25 => ?_)
    · replace c25 := bI_nz c25
      refine x_aload_n C 0 dX10_commute_30 rfl rfl ?_
      refine x_get C (T := TX10) (N := 45) (v := .ref (ad 55)) 30 25 hin10 (hF 30 (by decide)) (pf_30 G nR ad _) rfl (by decide) lk69 rfl rfl dX10_commute_31 ?_
      refine x_iload_n C 1 dX10_commute_34 rfl rfl ?_
      refine x_dup2 C dX10_commute_35 rfl rfl ?_
      refine x_iald C 55 (hF 55 (by decide)) (pf_55 G nR ad _) (vp_ok5 c4) (kk := a.toNatClampNeg) rfl dX10_commute_36 ?_
      refine x_iload_n C 2 dX10_commute_37 rfl rfl ?_
      refine x_iadd C dX10_commute_38 ?_
      refine y_iast C 55 (hF 55 (by decide)) (fun f => (pf_55 G nR ad f)) (vp_ok5 c4) (kk := a.toNatClampNeg) rfl dX10_commute_39 ?_
      refine x_aload_n C 0 dX10_commute_40 rfl rfl ?_
      refine x_get C (T := TX10) (N := 45) (v := .ref (ad 56)) 30 26 hin10 (hF 30 (by decide)) (pf_30 G nR ad _) rfl (by decide) lk72 rfl rfl dX10_commute_41 ?_
      refine x_iload_n C 1 dX10_commute_44 rfl rfl ?_
      refine x_dup2 C dX10_commute_45 rfl rfl ?_
      refine x_iald C 56 (hF 56 (by decide)) (pf_56 G nR ad _) (vp_ok5 c4) (kk := a.toNatClampNeg) rfl dX10_commute_46 ?_
      refine x_iload_n C 2 dX10_commute_47 rfl rfl ?_
      refine x_aload_n C 0 dX10_commute_48 rfl rfl ?_
      refine x_get C (T := TX10) (N := 45) (v := .int (S 30 8)) 30 8 hin10 (hF 30 (by decide)) (pf_30 G nR ad _) rfl (by decide) lk241 rfl rfl dX10_commute_49 ?_
      refine x_imul C dX10_commute_52 ?_
      refine x_iadd C dX10_commute_53 ?_
      refine y_iast C 56 (hF 56 (by decide)) (fun f => (pf_56 G nR ad f)) (vp_ok5 c4) (kk := a.toNatClampNeg) rfl dX10_commute_54 ?_
      refine x_iload_n C 2 dX10_commute_55 rfl rfl ?_
      refine x_aload_n C 0 dX10_commute_56 rfl rfl ?_
      refine x_get C (T := TX10) (N := 45) (v := .int (S 30 8)) 30 8 hin10 (hF 30 (by decide)) (pf_30 G nR ad _) rfl (by decide) lk241 rfl rfl dX10_commute_57 ?_
      refine x_imul C dX10_commute_60 ?_
      refine x_iret C hrt9 (s2 (s2 S 55 a.toNatClampNeg ((S 55 (a.toNatClampNeg)) + b)) 56 a.toNatClampNeg ((S 56 (a.toNatClampNeg)) + (b * (S 30 8)))) ?_ rfl dX10_commute_61
      constructor <;> simp [bI, c4, c25, mPay]
    · replace c25 := bI_z c25
      refine x_iconst C dX10_commute_28 (v := -1) (by decide) ?_
      refine x_iret C hrt9 S ?_ rfl dX10_commute_29
      constructor <;> simp [bI, c4, c25, mPay]

set_option maxHeartbeats 4000000 in
set_option maxRecDepth 100000 in
theorem k_X10_due (l : Launch) (G : tf_G) (nR : Nat) (LL : List Nat) (ad : Nat → Nat) (hF : ∀ j ∈ tf_fix, j ∈ LL) (S : tf_M) (q b : Int32) (n : Nat) (hz : S 30 5 = nI n) (h12 : n ≤ 12) : Ci l yX10_due wsX10_due ({ frames := 2, cells := 0, slots := 0, locals := 43 } : Room) G LL ad (pw G nR ad) (pw G nR ad S) [.ref (ad 30), .int q, .int b] (fun x u => x = bI (isP q (nI n) && isW b 0 400) ∧ u = if (isP q (nI n) && isW b 0 400) = true then s2 S 50 q.toNatClampNeg b else S) := by
  have hin10 : ∀ w ∈ u_ws RX10 TX10 45, w ∈ wsX10_due := by decide +kernel
  have lk53 : Cond.fieldLink RX10 53 "TributeFleetModel" "due" "[I" ∈ wsX10_due := by decide +kernel
  refine ci_of (cc := cX10_due) (maxL := 3) (ret := (some .boolean)) (by decide +kernel) rfl (Nat.le_of_ble_eq_true rfl) ?_
  intro pv ev sv mv args below meth cv A C hrt9 hnm9
  have C : Cx pv sv mv args meth cv cX10_due 3 RX10 wsX10_due G A LL ad := C
  show XJ pv l ev _ sv mv args below meth cv G A LL ad _ 3 0 0 _ 0 [(0, .ref (ad 30)), (1, .int q), (2, .int b)] []
  refine x_aload_n C 0 dX10_due_0 rfl rfl ?_
  refine x_iload_n C 1 dX10_due_1 rfl rfl ?_
  refine x_Vi 30 C (k_X10_isSquadron l G nR LL ad hF S q n hz h12) gX10_due_X10_isSquadron rfl (by decide +kernel) ⟨(Nat.le_of_ble_eq_true rfl), (Nat.le_of_ble_eq_true rfl)⟩ ⟨(Nat.le_of_ble_eq_true rfl), (Nat.le_of_ble_eq_true rfl)⟩ (hF 30 (by decide)) (pf_30 G nR ad _) (T := TX10) (N := 45) rfl (n := 1) rfl (st := []) (Nat.le_of_ble_eq_true rfl) rfl dX10_due_2 (fun _ _ hr9 => ?_)
  subst hr9
  refine x_if_eq C (tgt := 19) dX10_due_5 (by decide) (fun c5 => ?_) (fun c5 => ?_)
  · replace c5 := bI_z c5
    refine x_iconst C dX10_due_19 (v := 0) (by decide) ?_
    refine x_zret C hrt9 (Or.inl rfl) S ?_ rfl dX10_due_20
    constructor <;> simp [bI, c5]
  · replace c5 := bI_nz c5
    refine x_iload_n C 2 dX10_due_8 rfl rfl ?_
    refine x_iconst C dX10_due_9 (v := 0) (by decide) ?_
    refine x_sipush C dX10_due_10 (v := 400) (by decide) ?_
    refine x_Si C (k_X10_isIn l G LL ad _ b 0 400) gX10_due_X10_isIn rfl (by decide +kernel) ⟨(Nat.le_of_ble_eq_true rfl), (Nat.le_of_ble_eq_true rfl)⟩ ⟨(Nat.le_of_ble_eq_true rfl), (Nat.le_of_ble_eq_true rfl)⟩ (n := 3) rfl (st := []) (Nat.le_of_ble_eq_true rfl) rfl dX10_due_13 (fun _ _ hr9 => ?_)
    subst hr9
    refine x_if_ne C (tgt := 21) dX10_due_16 (by decide) (fun c16 => ?_) (fun c16 => ?_)
    · replace c16 := bI_nz c16
      refine x_aload_n C 0 dX10_due_21 rfl rfl ?_
      refine x_get C (T := TX10) (N := 45) (v := .ref (ad 50)) 30 20 hin10 (hF 30 (by decide)) (pf_30 G nR ad _) rfl (by decide) lk53 rfl rfl dX10_due_22 ?_
      refine x_iload_n C 1 dX10_due_25 rfl rfl ?_
      refine x_iload_n C 2 dX10_due_26 rfl rfl ?_
      refine y_iast C 50 (hF 50 (by decide)) (fun f => (pf_50 G nR ad f)) (vp_ok c5 h12 (by decide)) (kk := q.toNatClampNeg) rfl dX10_due_27 ?_
      refine x_iconst C dX10_due_28 (v := 1) (by decide) ?_
      refine x_zret C hrt9 (Or.inr rfl) (s2 S 50 q.toNatClampNeg b) ?_ rfl dX10_due_29
      constructor <;> simp [bI, c5, c16]
    · replace c16 := bI_z c16
      refine x_iconst C dX10_due_19 (v := 0) (by decide) ?_
      refine x_zret C hrt9 (Or.inl rfl) S ?_ rfl dX10_due_20
      constructor <;> simp [bI, c5, c16]

set_option maxHeartbeats 4000000 in
set_option maxRecDepth 100000 in
theorem k_X10_leave (l : Launch) (G : tf_G) (nR : Nat) (LL : List Nat) (ad : Nat → Nat) (hF : ∀ j ∈ tf_fix, j ∈ LL) (S : tf_M) (q b : Int32) (n : Nat) (hz : S 30 5 = nI n) (h12 : n ≤ 12) (hb : b = 0 ∨ b = 1) : Ci l yX10_leave wsX10_leave ({ frames := 2, cells := 0, slots := 0, locals := 43 } : Room) G LL ad (pw G nR ad) (pw G nR ad S) [.ref (ad 30), .int q, .int b] (fun x u => x = bI (isP q (nI n) && !decide (S 51 q.toNatClampNeg = b)) ∧ u = if (isP q (nI n) && !decide (S 51 q.toNatClampNeg = b)) = true then s2 S 51 q.toNatClampNeg b else S) := by
  have hin10 : ∀ w ∈ u_ws RX10 TX10 45, w ∈ wsX10_leave := by decide +kernel
  have lk56 : Cond.fieldLink RX10 56 "TributeFleetModel" "hasLeave" "[Z" ∈ wsX10_leave := by decide +kernel
  refine ci_of (cc := cX10_leave) (maxL := 3) (ret := (some .boolean)) (by decide +kernel) rfl (Nat.le_of_ble_eq_true rfl) ?_
  intro pv ev sv mv args below meth cv A C hrt9 hnm9
  have C : Cx pv sv mv args meth cv cX10_leave 3 RX10 wsX10_leave G A LL ad := C
  show XJ pv l ev _ sv mv args below meth cv G A LL ad _ 3 0 0 _ 0 [(0, .ref (ad 30)), (1, .int q), (2, .int b)] []
  refine x_aload_n C 0 dX10_leave_0 rfl rfl ?_
  refine x_iload_n C 1 dX10_leave_1 rfl rfl ?_
  refine x_Vi 30 C (k_X10_isSquadron l G nR LL ad hF S q n hz h12) gX10_leave_X10_isSquadron rfl (by decide +kernel) ⟨(Nat.le_of_ble_eq_true rfl), (Nat.le_of_ble_eq_true rfl)⟩ ⟨(Nat.le_of_ble_eq_true rfl), (Nat.le_of_ble_eq_true rfl)⟩ (hF 30 (by decide)) (pf_30 G nR ad _) (T := TX10) (N := 45) rfl (n := 1) rfl (st := []) (Nat.le_of_ble_eq_true rfl) rfl dX10_leave_2 (fun _ _ hr9 => ?_)
  subst hr9
  refine x_if_eq C (tgt := 18) dX10_leave_5 (by decide) (fun c5 => ?_) (fun c5 => ?_)
  · replace c5 := bI_z c5
    refine x_iconst C dX10_leave_18 (v := 0) (by decide) ?_
    refine x_zret C hrt9 (Or.inl rfl) S ?_ rfl dX10_leave_19
    constructor <;> simp [bI, c5]
  · replace c5 := bI_nz c5
    refine x_aload_n C 0 dX10_leave_8 rfl rfl ?_
    refine x_get C (T := TX10) (N := 45) (v := .ref (ad 51)) 30 21 hin10 (hF 30 (by decide)) (pf_30 G nR ad _) rfl (by decide) lk56 rfl rfl dX10_leave_9 ?_
    refine x_iload_n C 1 dX10_leave_12 rfl rfl ?_
    refine x_zald C 51 (hF 51 (by decide)) (pf_51 G nR ad _) (vp_ok c5 h12 (by decide)) (kk := q.toNatClampNeg) rfl dX10_leave_13 ?_
    refine x_iload_n C 2 dX10_leave_14 rfl rfl ?_
    refine x_icmp_ne C (tgt := 20) dX10_leave_15 (by decide) (fun c15 => ?_) (fun c15 => ?_)
    · skip
      refine x_aload_n C 0 dX10_leave_20 rfl rfl ?_
      refine x_get C (T := TX10) (N := 45) (v := .ref (ad 51)) 30 21 hin10 (hF 30 (by decide)) (pf_30 G nR ad _) rfl (by decide) lk56 rfl rfl dX10_leave_21 ?_
      refine x_iload_n C 1 dX10_leave_24 rfl rfl ?_
      refine x_iload_n C 2 dX10_leave_25 rfl rfl ?_
      refine y_zast C 51 (hF 51 (by decide)) (fun f => (pf_51 G nR ad f)) (vp_ok c5 h12 (by decide)) (kk := q.toNatClampNeg) rfl dX10_leave_26 ?_
      refine x_iconst C dX10_leave_27 (v := 1) (by decide) ?_
      refine x_zret C hrt9 (Or.inr rfl) (s2 S 51 q.toNatClampNeg (vp_nar .boolean b)) ?_ rfl dX10_leave_28
      have hv : vp_nar .boolean b = b := by rcases hb with rfl | rfl <;> rfl
      rw [hv]
      constructor <;> simp [bI, c5, c15]
    · skip
      refine x_iconst C dX10_leave_18 (v := 0) (by decide) ?_
      refine x_zret C hrt9 (Or.inl rfl) S ?_ rfl dX10_leave_19
      constructor <;> simp [bI, c5, c15]

set_option maxHeartbeats 4000000 in
set_option maxRecDepth 100000 in
theorem k_X10_lose (l : Launch) (G : tf_G) (nR : Nat) (LL : List Nat) (ad : Nat → Nat) (hF : ∀ j ∈ tf_fix, j ∈ LL) (S : tf_M) (q b : Int32) (n : Nat) (hz : S 30 5 = nI n) (h12 : n ≤ 12) : Ci l yX10_lose wsX10_lose ({ frames := 2, cells := 0, slots := 0, locals := 43 } : Room) G LL ad (pw G nR ad) (pw G nR ad S) [.ref (ad 30), .int q, .int b] (fun x u => x = (if (isP q (nI n) && decide (S 48 q.toNatClampNeg = -1) && isW b 1 (S 44 q.toNatClampNeg - S 45 q.toNatClampNeg)) = true then S 44 q.toNatClampNeg - (S 45 q.toNatClampNeg + b) else -1) ∧ u = if (isP q (nI n) && decide (S 48 q.toNatClampNeg = -1) && isW b 1 (S 44 q.toNatClampNeg - S 45 q.toNatClampNeg)) = true then s2 S 45 q.toNatClampNeg (S 45 q.toNatClampNeg + b) else S) := by
  have hin10 : ∀ w ∈ u_ws RX10 TX10 45, w ∈ wsX10_lose := by decide +kernel
  have lk47 : Cond.fieldLink RX10 47 "TributeFleetModel" "came" "[I" ∈ wsX10_lose := by decide +kernel
  have lk35 : Cond.fieldLink RX10 35 "TributeFleetModel" "loaded" "[I" ∈ wsX10_lose := by decide +kernel
  have lk38 : Cond.fieldLink RX10 38 "TributeFleetModel" "lost" "[I" ∈ wsX10_lose := by decide +kernel
  refine ci_of (cc := cX10_lose) (maxL := 3) (ret := (some .int)) (by decide +kernel) rfl (Nat.le_of_ble_eq_true rfl) ?_
  intro pv ev sv mv args below meth cv A C hrt9 hnm9
  have C : Cx pv sv mv args meth cv cX10_lose 3 RX10 wsX10_lose G A LL ad := C
  show XJ pv l ev _ sv mv args below meth cv G A LL ad _ 3 0 0 _ 0 [(0, .ref (ad 30)), (1, .int q), (2, .int b)] []
  refine x_aload_n C 0 dX10_lose_0 rfl rfl ?_
  refine x_iload_n C 1 dX10_lose_1 rfl rfl ?_
  refine x_Vi 30 C (k_X10_isSquadron l G nR LL ad hF S q n hz h12) gX10_lose_X10_isSquadron rfl (by decide +kernel) ⟨(Nat.le_of_ble_eq_true rfl), (Nat.le_of_ble_eq_true rfl)⟩ ⟨(Nat.le_of_ble_eq_true rfl), (Nat.le_of_ble_eq_true rfl)⟩ (hF 30 (by decide)) (pf_30 G nR ad _) (T := TX10) (N := 45) rfl (n := 1) rfl (st := []) (Nat.le_of_ble_eq_true rfl) rfl dX10_lose_2 (fun _ _ hr9 => ?_)
  subst hr9
  refine x_if_eq C (tgt := 39) dX10_lose_5 (by decide) (fun c5 => ?_) (fun c5 => ?_)
  · replace c5 := bI_z c5
    refine x_iconst C dX10_lose_39 (v := -1) (by decide) ?_
    refine x_iret C hrt9 S ?_ rfl dX10_lose_40
    constructor <;> simp [bI, c5, s2_eq, s2_ne (show (44 : Nat) ≠ 45 by decide)]
  · replace c5 := bI_nz c5
    refine x_aload_n C 0 dX10_lose_8 rfl rfl ?_
    refine x_get C (T := TX10) (N := 45) (v := .ref (ad 48)) 30 18 hin10 (hF 30 (by decide)) (pf_30 G nR ad _) rfl (by decide) lk47 rfl rfl dX10_lose_9 ?_
    refine x_iload_n C 1 dX10_lose_12 rfl rfl ?_
    refine x_iald C 48 (hF 48 (by decide)) (pf_48 G nR ad _) (vp_ok c5 h12 (by decide)) (kk := q.toNatClampNeg) rfl dX10_lose_13 ?_
    refine x_iconst C dX10_lose_14 (v := -1) (by decide) ?_
    refine x_icmp_ne C (tgt := 39) dX10_lose_15 (by decide) (fun c15 => ?_) (fun c15 => ?_)
    · skip
      refine x_iconst C dX10_lose_39 (v := -1) (by decide) ?_
      refine x_iret C hrt9 S ?_ rfl dX10_lose_40
      constructor <;> simp [bI, c5, c15, s2_eq, s2_ne (show (44 : Nat) ≠ 45 by decide)]
    · skip
      refine x_iload_n C 2 dX10_lose_18 rfl rfl ?_
      refine x_iconst C dX10_lose_19 (v := 1) (by decide) ?_
      refine x_aload_n C 0 dX10_lose_20 rfl rfl ?_
      refine x_get C (T := TX10) (N := 45) (v := .ref (ad 44)) 30 14 hin10 (hF 30 (by decide)) (pf_30 G nR ad _) rfl (by decide) lk35 rfl rfl dX10_lose_21 ?_
      refine x_iload_n C 1 dX10_lose_24 rfl rfl ?_
      refine x_iald C 44 (hF 44 (by decide)) (pf_44 G nR ad _) (vp_ok c5 h12 (by decide)) (kk := q.toNatClampNeg) rfl dX10_lose_25 ?_
      refine x_aload_n C 0 dX10_lose_26 rfl rfl ?_
      refine x_get C (T := TX10) (N := 45) (v := .ref (ad 45)) 30 15 hin10 (hF 30 (by decide)) (pf_30 G nR ad _) rfl (by decide) lk38 rfl rfl dX10_lose_27 ?_
      refine x_iload_n C 1 dX10_lose_30 rfl rfl ?_
      refine x_iald C 45 (hF 45 (by decide)) (pf_45 G nR ad _) (vp_ok c5 h12 (by decide)) (kk := q.toNatClampNeg) rfl dX10_lose_31 ?_
      refine x_isub C dX10_lose_32 ?_
      refine x_Si C (k_X10_isIn l G LL ad _ b 1 ((S 44 (q.toNatClampNeg)) - (S 45 (q.toNatClampNeg)))) gX10_lose_X10_isIn rfl (by decide +kernel) ⟨(Nat.le_of_ble_eq_true rfl), (Nat.le_of_ble_eq_true rfl)⟩ ⟨(Nat.le_of_ble_eq_true rfl), (Nat.le_of_ble_eq_true rfl)⟩ (n := 3) rfl (st := []) (Nat.le_of_ble_eq_true rfl) rfl dX10_lose_33 (fun _ _ hr9 => ?_)
      subst hr9
      refine x_if_ne C (tgt := 41) dX10_lose_36 (by decide) (fun c36 => ?_) (fun c36 => ?_)
      · replace c36 := bI_nz c36
        refine x_aload_n C 0 dX10_lose_41 rfl rfl ?_
        refine x_get C (T := TX10) (N := 45) (v := .ref (ad 45)) 30 15 hin10 (hF 30 (by decide)) (pf_30 G nR ad _) rfl (by decide) lk38 rfl rfl dX10_lose_42 ?_
        refine x_iload_n C 1 dX10_lose_45 rfl rfl ?_
        refine x_dup2 C dX10_lose_46 rfl rfl ?_
        refine x_iald C 45 (hF 45 (by decide)) (pf_45 G nR ad _) (vp_ok c5 h12 (by decide)) (kk := q.toNatClampNeg) rfl dX10_lose_47 ?_
        refine x_iload_n C 2 dX10_lose_48 rfl rfl ?_
        refine x_iadd C dX10_lose_49 ?_
        refine y_iast C 45 (hF 45 (by decide)) (fun f => (pf_45 G nR ad f)) (vp_ok c5 h12 (by decide)) (kk := q.toNatClampNeg) rfl dX10_lose_50 ?_
        refine x_aload_n C 0 dX10_lose_51 rfl rfl ?_
        refine x_get C (T := TX10) (N := 45) (v := .ref (ad 44)) 30 14 hin10 (hF 30 (by decide)) (pf_30 G nR ad _) rfl (by decide) lk35 rfl rfl dX10_lose_52 ?_
        refine x_iload_n C 1 dX10_lose_55 rfl rfl ?_
        refine x_iald C 44 (hF 44 (by decide)) (pf_44 G nR ad _) (vp_ok c5 h12 (by decide)) (kk := q.toNatClampNeg) rfl dX10_lose_56 ?_
        refine x_aload_n C 0 dX10_lose_57 rfl rfl ?_
        refine x_get C (T := TX10) (N := 45) (v := .ref (ad 45)) 30 15 hin10 (hF 30 (by decide)) (pf_30 G nR ad _) rfl (by decide) lk38 rfl rfl dX10_lose_58 ?_
        refine x_iload_n C 1 dX10_lose_61 rfl rfl ?_
        refine x_iald C 45 (hF 45 (by decide)) (pf_45 G nR ad _) (vp_ok c5 h12 (by decide)) (kk := q.toNatClampNeg) rfl dX10_lose_62 ?_
        refine x_isub C dX10_lose_63 ?_
        refine x_iret C hrt9 (s2 S 45 q.toNatClampNeg ((S 45 (q.toNatClampNeg)) + b)) ?_ rfl dX10_lose_64
        constructor <;> simp [bI, c5, c15, c36, s2_eq, s2_ne (show (44 : Nat) ≠ 45 by decide)]
      · replace c36 := bI_z c36
        refine x_iconst C dX10_lose_39 (v := -1) (by decide) ?_
        refine x_iret C hrt9 S ?_ rfl dX10_lose_40
        constructor <;> simp [bI, c5, c15, c36, s2_eq, s2_ne (show (44 : Nat) ≠ 45 by decide)]

set_option maxHeartbeats 4000000 in
set_option maxRecDepth 100000 in
theorem k_X10_squadron (l : Launch) (G : tf_G) (nR : Nat) (LL : List Nat) (ad : Nat → Nat) (hF : ∀ j ∈ tf_fix, j ∈ LL) (S : tf_M) (a b c d : Int32) (n : Nat) (hz : S 30 5 = nI n) (h12 : n ≤ 12) : Ci l yX10_squadron wsX10_squadron ({ frames := 2, cells := 0, slots := 0, locals := 42 } : Room) G LL ad (pw G nR ad) (pw G nR ad S) [.ref (ad 30), .int a, .int b, .int c, .int d] (fun x u => x = (if (isW a 0 5 && isW b 1 50 && isW c 0 5000 && isW d 0 2000) = true ∧ n < 12 then nI n else -1) ∧ u = if (isW a 0 5 && isW b 1 50 && isW c 0 5000 && isW d 0 2000) = true ∧ n < 12 then s2 (s2 (s2 (s2 (s2 (s2 (s2 S 30 5 (nI (n + 1))) 42 n a) 43 n b) 44 n c) 46 n d) 48 n (-1)) 50 n 400 else S) := by
  have hin10 : ∀ w ∈ u_ws RX10 TX10 45, w ∈ wsX10_squadron := by decide +kernel
  have lk128 : Cond.fieldLink RX10 128 "TributeFleetModel" "squadrons" "I" ∈ wsX10_squadron := by decide +kernel
  have lk29 : Cond.fieldLink RX10 29 "TributeFleetModel" "county" "[I" ∈ wsX10_squadron := by decide +kernel
  have lk32 : Cond.fieldLink RX10 32 "TributeFleetModel" "boats" "[I" ∈ wsX10_squadron := by decide +kernel
  have lk35 : Cond.fieldLink RX10 35 "TributeFleetModel" "loaded" "[I" ∈ wsX10_squadron := by decide +kernel
  have lk41 : Cond.fieldLink RX10 41 "TributeFleetModel" "goods" "[I" ∈ wsX10_squadron := by decide +kernel
  have lk47 : Cond.fieldLink RX10 47 "TributeFleetModel" "came" "[I" ∈ wsX10_squadron := by decide +kernel
  have lk53 : Cond.fieldLink RX10 53 "TributeFleetModel" "due" "[I" ∈ wsX10_squadron := by decide +kernel
  refine ci_of (cc := cX10_squadron) (maxL := 6) (ret := (some .int)) (by decide +kernel) rfl (Nat.le_of_ble_eq_true rfl) ?_
  intro pv ev sv mv args below meth cv A C hrt9 hnm9
  have C : Cx pv sv mv args meth cv cX10_squadron 6 RX10 wsX10_squadron G A LL ad := C
  show XJ pv l ev _ sv mv args below meth cv G A LL ad _ 6 0 0 _ 0 [(0, .ref (ad 30)), (1, .int a), (2, .int b), (3, .int c), (4, .int d)] []
  refine x_iload_n C 1 dX10_squadron_0 rfl rfl ?_
  refine x_Si C (k_X10_isCounty l G LL ad _ a) gX10_squadron_X10_isCounty rfl (by decide +kernel) ⟨(Nat.le_of_ble_eq_true rfl), (Nat.le_of_ble_eq_true rfl)⟩ ⟨(Nat.le_of_ble_eq_true rfl), (Nat.le_of_ble_eq_true rfl)⟩ (n := 1) rfl (st := []) (Nat.le_of_ble_eq_true rfl) rfl dX10_squadron_1 (fun _ _ hr9 => ?_)
  subst hr9
  refine x_if_eq C (tgt := 49) dX10_squadron_4 (by decide) (fun c4 => ?_) (fun c4 => ?_)
  · replace c4 := bI_z c4
    refine x_iconst C dX10_squadron_49 (v := -1) (by decide) ?_
    refine x_iret C hrt9 S ?_ rfl dX10_squadron_50
    constructor <;> simp [c4]
  · replace c4 := bI_nz c4
    refine x_iload_n C 2 dX10_squadron_7 rfl rfl ?_
    refine x_iconst C dX10_squadron_8 (v := 1) (by decide) ?_
    refine x_bipush C dX10_squadron_9 (v := 50) (by decide) ?_
    refine x_Si C (k_X10_isIn l G LL ad _ b 1 50) gX10_squadron_X10_isIn rfl (by decide +kernel) ⟨(Nat.le_of_ble_eq_true rfl), (Nat.le_of_ble_eq_true rfl)⟩ ⟨(Nat.le_of_ble_eq_true rfl), (Nat.le_of_ble_eq_true rfl)⟩ (n := 3) rfl (st := []) (Nat.le_of_ble_eq_true rfl) rfl dX10_squadron_11 (fun _ _ hr9 => ?_)
    subst hr9
    refine x_if_eq C (tgt := 49) dX10_squadron_14 (by decide) (fun c14 => ?_) (fun c14 => ?_)
    · replace c14 := bI_z c14
      refine x_iconst C dX10_squadron_49 (v := -1) (by decide) ?_
      refine x_iret C hrt9 S ?_ rfl dX10_squadron_50
      constructor <;> simp [c4, c14]
    · replace c14 := bI_nz c14
      refine x_iload_n C 3 dX10_squadron_17 rfl rfl ?_
      refine x_iconst C dX10_squadron_18 (v := 0) (by decide) ?_
      refine x_sipush C dX10_squadron_19 (v := 5000) (by decide) ?_
      refine x_Si C (k_X10_isIn l G LL ad _ c 0 5000) gX10_squadron_X10_isIn rfl (by decide +kernel) ⟨(Nat.le_of_ble_eq_true rfl), (Nat.le_of_ble_eq_true rfl)⟩ ⟨(Nat.le_of_ble_eq_true rfl), (Nat.le_of_ble_eq_true rfl)⟩ (n := 3) rfl (st := []) (Nat.le_of_ble_eq_true rfl) rfl dX10_squadron_22 (fun _ _ hr9 => ?_)
      subst hr9
      refine x_if_eq C (tgt := 49) dX10_squadron_25 (by decide) (fun c25 => ?_) (fun c25 => ?_)
      · replace c25 := bI_z c25
        refine x_iconst C dX10_squadron_49 (v := -1) (by decide) ?_
        refine x_iret C hrt9 S ?_ rfl dX10_squadron_50
        constructor <;> simp [c4, c14, c25]
      · replace c25 := bI_nz c25
        refine x_iload C 4 dX10_squadron_28 rfl ?_
        refine x_iconst C dX10_squadron_30 (v := 0) (by decide) ?_
        refine x_sipush C dX10_squadron_31 (v := 2000) (by decide) ?_
        refine x_Si C (k_X10_isIn l G LL ad _ d 0 2000) gX10_squadron_X10_isIn rfl (by decide +kernel) ⟨(Nat.le_of_ble_eq_true rfl), (Nat.le_of_ble_eq_true rfl)⟩ ⟨(Nat.le_of_ble_eq_true rfl), (Nat.le_of_ble_eq_true rfl)⟩ (n := 3) rfl (st := []) (Nat.le_of_ble_eq_true rfl) rfl dX10_squadron_34 (fun _ _ hr9 => ?_)
        subst hr9
        refine x_if_eq C (tgt := 49) dX10_squadron_37 (by decide) (fun c37 => ?_) (fun c37 => ?_)
        · replace c37 := bI_z c37
          refine x_iconst C dX10_squadron_49 (v := -1) (by decide) ?_
          refine x_iret C hrt9 S ?_ rfl dX10_squadron_50
          constructor <;> simp [c4, c14, c25, c37]
        · replace c37 := bI_nz c37
          refine x_aload_n C 0 dX10_squadron_40 rfl rfl ?_
          refine x_get C (T := TX10) (N := 45) (v := .int (S 30 5)) 30 5 hin10 (hF 30 (by decide)) (pf_30 G nR ad _) rfl (by decide) lk128 rfl rfl dX10_squadron_41 ?_
          refine x_bipush C dX10_squadron_44 (v := 12) (by decide) ?_
          refine x_icmp_ne C (tgt := 51) dX10_squadron_46 (by decide) (fun c46 => ?_) (fun c46 => ?_)
          · skip
            have hlt : n < 12 := by
              rcases Nat.lt_or_ge n 12 with q | q
              · exact q
              · exact absurd (by rw [hz, show n = 12 by omega]; rfl) c46
            refine x_aload_n C 0 dX10_squadron_51 rfl rfl ?_
            refine x_get C (T := TX10) (N := 45) (v := .int (S 30 5)) 30 5 hin10 (hF 30 (by decide)) (pf_30 G nR ad _) rfl (by decide) lk128 rfl rfl dX10_squadron_52 ?_
            rw [hz]
            refine x_istore C (L1 := [(5, .int (nI n)), (0, .ref (ad 30)), (1, .int a), (2, .int b), (3, .int c), (4, .int d)]) dX10_squadron_55 (by decide) rfl ?_
            refine x_aload_n C 1 dX10_squadron_57 rfl rfl ?_
            refine x_dup C dX10_squadron_58 rfl ?_
            refine x_get C (T := TX10) (N := 45) (v := .int (S 30 5)) 30 5 hin10 (hF 30 (by decide)) (pf_30 G nR ad _) rfl (by decide) lk128 rfl rfl dX10_squadron_59 ?_
            rw [hz]
            refine x_iconst C dX10_squadron_62 (v := 1) (by decide) ?_
            refine x_iadd C dX10_squadron_63 ?_
            rw [← nI_succ]
            refine y_put C (T := TX10) (N := 45) (ty := .int) 30 5 hin10 tyX10 tyX10_ok nmX10 (hF 30 (by decide)) (pf_30 G nR ad _) (pf_30 G nR ad _) rfl (by decide) lk128 rfl rfl (by decide +kernel) rfl rfl (Nat.le_of_ble_eq_true rfl) dX10_squadron_64 ?_
            refine x_aload_n C 1 dX10_squadron_67 rfl rfl ?_
            refine x_get C (T := TX10) (N := 45) (v := .ref (ad 42)) 30 12 hin10 (hF 30 (by decide)) (pf_30 G nR ad _) rfl (by decide) lk29 rfl rfl dX10_squadron_68 ?_
            refine x_iload C 0 dX10_squadron_71 rfl ?_
            refine x_iload_n C 2 dX10_squadron_73 rfl rfl ?_
            refine y_iast C 42 (hF 42 (by decide)) (fun f => (pf_42 G nR ad f)) (nI_in (N := 12) hlt (by decide)) (kk := n) (nI_clamp (by omega)) dX10_squadron_74 ?_
            refine x_aload_n C 1 dX10_squadron_75 rfl rfl ?_
            refine x_get C (T := TX10) (N := 45) (v := .ref (ad 43)) 30 13 hin10 (hF 30 (by decide)) (pf_30 G nR ad _) rfl (by decide) lk32 rfl rfl dX10_squadron_76 ?_
            refine x_iload C 0 dX10_squadron_79 rfl ?_
            refine x_iload_n C 3 dX10_squadron_81 rfl rfl ?_
            refine y_iast C 43 (hF 43 (by decide)) (fun f => (pf_43 G nR ad f)) (nI_in (N := 12) hlt (by decide)) (kk := n) (nI_clamp (by omega)) dX10_squadron_82 ?_
            refine x_aload_n C 1 dX10_squadron_83 rfl rfl ?_
            refine x_get C (T := TX10) (N := 45) (v := .ref (ad 44)) 30 14 hin10 (hF 30 (by decide)) (pf_30 G nR ad _) rfl (by decide) lk35 rfl rfl dX10_squadron_84 ?_
            refine x_iload C 0 dX10_squadron_87 rfl ?_
            refine x_iload_n C 4 dX10_squadron_89 rfl rfl ?_
            refine y_iast C 44 (hF 44 (by decide)) (fun f => (pf_44 G nR ad f)) (nI_in (N := 12) hlt (by decide)) (kk := n) (nI_clamp (by omega)) dX10_squadron_90 ?_
            refine x_aload_n C 1 dX10_squadron_91 rfl rfl ?_
            refine x_get C (T := TX10) (N := 45) (v := .ref (ad 46)) 30 16 hin10 (hF 30 (by decide)) (pf_30 G nR ad _) rfl (by decide) lk41 rfl rfl dX10_squadron_92 ?_
            refine x_iload C 0 dX10_squadron_95 rfl ?_
            refine x_iload C 5 dX10_squadron_97 rfl ?_
            refine y_iast C 46 (hF 46 (by decide)) (fun f => (pf_46 G nR ad f)) (nI_in (N := 12) hlt (by decide)) (kk := n) (nI_clamp (by omega)) dX10_squadron_99 ?_
            refine x_aload_n C 1 dX10_squadron_100 rfl rfl ?_
            refine x_get C (T := TX10) (N := 45) (v := .ref (ad 48)) 30 18 hin10 (hF 30 (by decide)) (pf_30 G nR ad _) rfl (by decide) lk47 rfl rfl dX10_squadron_101 ?_
            refine x_iload C 0 dX10_squadron_104 rfl ?_
            refine x_iconst C dX10_squadron_106 (v := -1) (by decide) ?_
            refine y_iast C 48 (hF 48 (by decide)) (fun f => (pf_48 G nR ad f)) (nI_in (N := 12) hlt (by decide)) (kk := n) (nI_clamp (by omega)) dX10_squadron_107 ?_
            refine x_aload_n C 1 dX10_squadron_108 rfl rfl ?_
            refine x_get C (T := TX10) (N := 45) (v := .ref (ad 50)) 30 20 hin10 (hF 30 (by decide)) (pf_30 G nR ad _) rfl (by decide) lk53 rfl rfl dX10_squadron_109 ?_
            refine x_iload C 0 dX10_squadron_112 rfl ?_
            refine x_sipush C dX10_squadron_114 (v := 400) (by decide) ?_
            refine y_iast C 50 (hF 50 (by decide)) (fun f => (pf_50 G nR ad f)) (nI_in (N := 12) hlt (by decide)) (kk := n) (nI_clamp (by omega)) dX10_squadron_117 ?_
            refine x_iload C 0 dX10_squadron_118 rfl ?_
            refine x_iret C hrt9 (s2 (s2 (s2 (s2 (s2 (s2 (s2 S 30 5 (nI (n + 1))) 42 n a) 43 n b) 44 n c) 46 n d) 48 n (-1)) 50 n 400) ?_ rfl dX10_squadron_120
            have hg : (isW a 0 5 && isW b 1 50 && isW c 0 5000 && isW d 0 2000) = true ∧ n < 12 := ⟨by rw [c4, c14, c25, c37]; rfl, hlt⟩
            rw [if_pos hg, if_pos hg]
            exact ⟨rfl, rfl⟩
          · skip
            have hge : ¬ n < 12 := fun q => by
              rw [hz] at c46
              exact absurd (nI_inj (b := 12) c46 (by omega) (by decide)) (by omega)
            refine x_iconst C dX10_squadron_49 (v := -1) (by decide) ?_
            refine x_iret C hrt9 S ?_ rfl dX10_squadron_50
            rw [if_neg (fun h => hge h.2), if_neg (fun h => hge h.2)]
            exact ⟨rfl, rfl⟩

set_option maxHeartbeats 4000000 in
set_option maxRecDepth 100000 in
theorem k_X10_four (l : Launch) (G : tf_G) (nR : Nat) (LL : List Nat) (ad : Nat → Nat) (hF : ∀ j ∈ tf_fix, j ∈ LL) (S : tf_M) (v : Int32) (k : Nat) (hk : S 30 29 = nI k) (hk4 : k + 4 ≤ 400) : Cv l yX10_four wsX10_four ({ frames := 0, cells := 0, slots := 0, locals := 0 } : Room) G LL ad (pw G nR ad) (pw G nR ad S) [.ref (ad 30), .int v] (fun u => u = app4 S 57 30 29 k v) := by
  have hin10 : ∀ w ∈ u_ws RX10 TX10 45, w ∈ wsX10_four := by decide +kernel
  have lk75 : Cond.fieldLink RX10 75 "TributeFleetModel" "tape" "[B" ∈ wsX10_four := by decide +kernel
  have lk150 : Cond.fieldLink RX10 150 "TributeFleetModel" "taped" "I" ∈ wsX10_four := by decide +kernel
  refine cv_of (cc := cX10_four) (maxL := 3) (ret := none) (by decide +kernel) rfl (Nat.le_of_ble_eq_true rfl) ?_
  intro pv ev sv mv args below meth cv A C hrt9 hnm9
  have C : Cx pv sv mv args meth cv cX10_four 3 RX10 wsX10_four G A LL ad := C
  show XJ pv l ev _ sv mv args below meth cv G A LL ad _ 3 0 0 _ 0 [(0, .ref (ad 30)), (1, .int v)] []
  refine x_bipush C dX10_four_0 (v := 24) (by decide) ?_
  refine x_istore_n C (L1 := [(2, .int 24), (0, .ref (ad 30)), (1, .int v)]) dX10_four_2 rfl (by decide) rfl ?_
  refine x_iload_n C 0 dX10_four_3 rfl rfl ?_
  refine x_if_lt C (tgt := 36) dX10_four_4 (by decide) (fun c4 => ?_) (fun c4 => ?_)
  · exact absurd c4 (by decide)
  refine x_aload_n C 1 dX10_four_7 rfl rfl ?_
  refine x_get C (T := TX10) (N := 45) (v := .ref (ad 57)) 30 27 hin10 (hF 30 (by decide)) (pf_30 G nR ad _) rfl (by decide) lk75 rfl rfl dX10_four_8 ?_
  refine x_aload_n C 1 dX10_four_11 rfl rfl ?_
  refine x_get C (T := TX10) (N := 45) (v := .int (S 30 29)) 30 29 hin10 (hF 30 (by decide)) (pf_30 G nR ad _) rfl (by decide) lk150 rfl rfl dX10_four_12 ?_
  refine x_iload_n C 2 dX10_four_15 rfl rfl ?_
  refine x_iload_n C 0 dX10_four_16 rfl rfl ?_
  refine x_ishr C dX10_four_17 ?_
  refine x_i2b C dX10_four_18 ?_
  refine y_bast C 57 (hF 57 (by decide)) (fun f => (pf_57 G nR ad f)) (by rw [hk]; exact nI_in (by omega) (by decide)) (kk := k) (by rw [hk]; exact nI_clamp (by omega)) dX10_four_19 ?_
  refine x_aload_n C 1 dX10_four_20 rfl rfl ?_
  refine x_dup C dX10_four_21 rfl ?_
  refine x_get C (T := TX10) (N := 45) (v := .int (S 30 29)) 30 29 hin10 (hF 30 (by decide)) (pf_30 G nR ad _) rfl (by decide) lk150 rfl rfl dX10_four_22 ?_
  refine x_iconst C dX10_four_25 (v := 1) (by decide) ?_
  refine x_iadd C dX10_four_26 ?_
  refine y_put C (T := TX10) (N := 45) (ty := .int) 30 29 hin10 tyX10 tyX10_ok nmX10 (hF 30 (by decide)) (pf_30 G nR ad _) (pf_30 G nR ad _) rfl (by decide) lk150 rfl rfl (by decide +kernel) rfl rfl (Nat.le_of_ble_eq_true rfl) dX10_four_27 ?_
  obtain ⟨S1, e1⟩ : ∃ x, x = app1 S 57 30 29 (k) v 24 := ⟨_, rfl⟩
  have hk1 : S1 30 29 = nI (k + 1) := by rw [e1]; rfl
  rw [show (s2 (s2 S 57 k (vp_nar .byte ((v >>> (24 &&& 31)).toInt8.toInt32))) 30 29 ((S 30 29) + 1)) = S1 by rw [e1, hk, ← nI_succ]; rfl]
  refine x_iinc C (L1 := [(2, .int 16), (0, .ref (ad 30)), (1, .int v)]) 0 dX10_four_30 rfl (by decide) (by decide) rfl ?_
  refine x_goto C (tgt := 3) dX10_four_33 (by decide) ?_
  refine x_iload_n C 0 dX10_four_3 rfl rfl ?_
  refine x_if_lt C (tgt := 36) dX10_four_4 (by decide) (fun c4 => ?_) (fun c4 => ?_)
  · exact absurd c4 (by decide)
  refine x_aload_n C 1 dX10_four_7 rfl rfl ?_
  refine x_get C (T := TX10) (N := 45) (v := .ref (ad 57)) 30 27 hin10 (hF 30 (by decide)) (pf_30 G nR ad _) rfl (by decide) lk75 rfl rfl dX10_four_8 ?_
  refine x_aload_n C 1 dX10_four_11 rfl rfl ?_
  refine x_get C (T := TX10) (N := 45) (v := .int (S1 30 29)) 30 29 hin10 (hF 30 (by decide)) (pf_30 G nR ad _) rfl (by decide) lk150 rfl rfl dX10_four_12 ?_
  refine x_iload_n C 2 dX10_four_15 rfl rfl ?_
  refine x_iload_n C 0 dX10_four_16 rfl rfl ?_
  refine x_ishr C dX10_four_17 ?_
  refine x_i2b C dX10_four_18 ?_
  refine y_bast C 57 (hF 57 (by decide)) (fun f => (pf_57 G nR ad f)) (by rw [hk1]; exact nI_in (by omega) (by decide)) (kk := k + 1) (by rw [hk1]; exact nI_clamp (by omega)) dX10_four_19 ?_
  refine x_aload_n C 1 dX10_four_20 rfl rfl ?_
  refine x_dup C dX10_four_21 rfl ?_
  refine x_get C (T := TX10) (N := 45) (v := .int (S1 30 29)) 30 29 hin10 (hF 30 (by decide)) (pf_30 G nR ad _) rfl (by decide) lk150 rfl rfl dX10_four_22 ?_
  refine x_iconst C dX10_four_25 (v := 1) (by decide) ?_
  refine x_iadd C dX10_four_26 ?_
  refine y_put C (T := TX10) (N := 45) (ty := .int) 30 29 hin10 tyX10 tyX10_ok nmX10 (hF 30 (by decide)) (pf_30 G nR ad _) (pf_30 G nR ad _) rfl (by decide) lk150 rfl rfl (by decide +kernel) rfl rfl (Nat.le_of_ble_eq_true rfl) dX10_four_27 ?_
  obtain ⟨S2, e2⟩ : ∃ x, x = app1 S1 57 30 29 (k + 1) v 16 := ⟨_, rfl⟩
  have hk2 : S2 30 29 = nI (k + 2) := by rw [e2]; rfl
  rw [show (s2 (s2 S1 57 (k + 1) (vp_nar .byte ((v >>> (16 &&& 31)).toInt8.toInt32))) 30 29 ((S1 30 29) + 1)) = S2 by rw [e2, hk1, ← nI_succ]; rfl]
  refine x_iinc C (L1 := [(2, .int 8), (0, .ref (ad 30)), (1, .int v)]) 0 dX10_four_30 rfl (by decide) (by decide) rfl ?_
  refine x_goto C (tgt := 3) dX10_four_33 (by decide) ?_
  refine x_iload_n C 0 dX10_four_3 rfl rfl ?_
  refine x_if_lt C (tgt := 36) dX10_four_4 (by decide) (fun c4 => ?_) (fun c4 => ?_)
  · exact absurd c4 (by decide)
  refine x_aload_n C 1 dX10_four_7 rfl rfl ?_
  refine x_get C (T := TX10) (N := 45) (v := .ref (ad 57)) 30 27 hin10 (hF 30 (by decide)) (pf_30 G nR ad _) rfl (by decide) lk75 rfl rfl dX10_four_8 ?_
  refine x_aload_n C 1 dX10_four_11 rfl rfl ?_
  refine x_get C (T := TX10) (N := 45) (v := .int (S2 30 29)) 30 29 hin10 (hF 30 (by decide)) (pf_30 G nR ad _) rfl (by decide) lk150 rfl rfl dX10_four_12 ?_
  refine x_iload_n C 2 dX10_four_15 rfl rfl ?_
  refine x_iload_n C 0 dX10_four_16 rfl rfl ?_
  refine x_ishr C dX10_four_17 ?_
  refine x_i2b C dX10_four_18 ?_
  refine y_bast C 57 (hF 57 (by decide)) (fun f => (pf_57 G nR ad f)) (by rw [hk2]; exact nI_in (by omega) (by decide)) (kk := k + 2) (by rw [hk2]; exact nI_clamp (by omega)) dX10_four_19 ?_
  refine x_aload_n C 1 dX10_four_20 rfl rfl ?_
  refine x_dup C dX10_four_21 rfl ?_
  refine x_get C (T := TX10) (N := 45) (v := .int (S2 30 29)) 30 29 hin10 (hF 30 (by decide)) (pf_30 G nR ad _) rfl (by decide) lk150 rfl rfl dX10_four_22 ?_
  refine x_iconst C dX10_four_25 (v := 1) (by decide) ?_
  refine x_iadd C dX10_four_26 ?_
  refine y_put C (T := TX10) (N := 45) (ty := .int) 30 29 hin10 tyX10 tyX10_ok nmX10 (hF 30 (by decide)) (pf_30 G nR ad _) (pf_30 G nR ad _) rfl (by decide) lk150 rfl rfl (by decide +kernel) rfl rfl (Nat.le_of_ble_eq_true rfl) dX10_four_27 ?_
  obtain ⟨S3, e3⟩ : ∃ x, x = app1 S2 57 30 29 (k + 2) v 8 := ⟨_, rfl⟩
  have hk3 : S3 30 29 = nI (k + 3) := by rw [e3]; rfl
  rw [show (s2 (s2 S2 57 (k + 2) (vp_nar .byte ((v >>> (8 &&& 31)).toInt8.toInt32))) 30 29 ((S2 30 29) + 1)) = S3 by rw [e3, hk2, ← nI_succ]; rfl]
  refine x_iinc C (L1 := [(2, .int 0), (0, .ref (ad 30)), (1, .int v)]) 0 dX10_four_30 rfl (by decide) (by decide) rfl ?_
  refine x_goto C (tgt := 3) dX10_four_33 (by decide) ?_
  refine x_iload_n C 0 dX10_four_3 rfl rfl ?_
  refine x_if_lt C (tgt := 36) dX10_four_4 (by decide) (fun c4 => ?_) (fun c4 => ?_)
  · exact absurd c4 (by decide)
  refine x_aload_n C 1 dX10_four_7 rfl rfl ?_
  refine x_get C (T := TX10) (N := 45) (v := .ref (ad 57)) 30 27 hin10 (hF 30 (by decide)) (pf_30 G nR ad _) rfl (by decide) lk75 rfl rfl dX10_four_8 ?_
  refine x_aload_n C 1 dX10_four_11 rfl rfl ?_
  refine x_get C (T := TX10) (N := 45) (v := .int (S3 30 29)) 30 29 hin10 (hF 30 (by decide)) (pf_30 G nR ad _) rfl (by decide) lk150 rfl rfl dX10_four_12 ?_
  refine x_iload_n C 2 dX10_four_15 rfl rfl ?_
  refine x_iload_n C 0 dX10_four_16 rfl rfl ?_
  refine x_ishr C dX10_four_17 ?_
  refine x_i2b C dX10_four_18 ?_
  refine y_bast C 57 (hF 57 (by decide)) (fun f => (pf_57 G nR ad f)) (by rw [hk3]; exact nI_in (by omega) (by decide)) (kk := k + 3) (by rw [hk3]; exact nI_clamp (by omega)) dX10_four_19 ?_
  refine x_aload_n C 1 dX10_four_20 rfl rfl ?_
  refine x_dup C dX10_four_21 rfl ?_
  refine x_get C (T := TX10) (N := 45) (v := .int (S3 30 29)) 30 29 hin10 (hF 30 (by decide)) (pf_30 G nR ad _) rfl (by decide) lk150 rfl rfl dX10_four_22 ?_
  refine x_iconst C dX10_four_25 (v := 1) (by decide) ?_
  refine x_iadd C dX10_four_26 ?_
  refine y_put C (T := TX10) (N := 45) (ty := .int) 30 29 hin10 tyX10 tyX10_ok nmX10 (hF 30 (by decide)) (pf_30 G nR ad _) (pf_30 G nR ad _) rfl (by decide) lk150 rfl rfl (by decide +kernel) rfl rfl (Nat.le_of_ble_eq_true rfl) dX10_four_27 ?_
  obtain ⟨S4, e4⟩ : ∃ x, x = app1 S3 57 30 29 (k + 3) v 0 := ⟨_, rfl⟩
  have hk4 : S4 30 29 = nI (k + 4) := by rw [e4]; rfl
  rw [show (s2 (s2 S3 57 (k + 3) (vp_nar .byte ((v >>> (0 &&& 31)).toInt8.toInt32))) 30 29 ((S3 30 29) + 1)) = S4 by rw [e4, hk3, ← nI_succ]; rfl]
  refine x_iinc C (L1 := [(2, .int (-8)), (0, .ref (ad 30)), (1, .int v)]) 0 dX10_four_30 rfl (by decide) (by decide) rfl ?_
  refine x_goto C (tgt := 3) dX10_four_33 (by decide) ?_
  refine x_iload_n C 0 dX10_four_3 rfl rfl ?_
  refine x_if_lt C (tgt := 36) dX10_four_4 (by decide) (fun c4 => ?_) (fun c4 => ?_)
  rotate_left
  · exact absurd (by decide) c4
  refine x_vret C hrt9 S4 ?_ rfl dX10_four_36
  show _ = _
  rw [e4, e3, e2, e1]
  rfl

set_option maxHeartbeats 4000000 in
set_option maxRecDepth 100000 in
theorem k_X10_feed (l : Launch) (G : tf_G) (nR : Nat) (LL : List Nat) (ad : Nat → Nat) (hF : ∀ j ∈ tf_fix, j ∈ LL) (S : tf_M) (v1 v2 v3 v4 v5 : Int32) (k : Nat) (hk : S 30 29 = nI k) (hk4 : k ≤ 400) : Ci l yX10_feed wsX10_feed ({ frames := 1, cells := 0, slots := 0, locals := 22 } : Room) G LL ad (pw G nR ad) (pw G nR ad S) [.ref (ad 30), .int v1, .int v2, .int v3, .int v4, .int v5] (fun x u => x = (if k + 20 ≤ 400 then nI (k + 20) else -1) ∧ u = if k + 20 ≤ 400 then feedS S 57 30 29 k v1 v2 v3 v4 v5 else S) := by
  have hin10 : ∀ w ∈ u_ws RX10 TX10 45, w ∈ wsX10_feed := by decide +kernel
  have lk150 : Cond.fieldLink RX10 150 "TributeFleetModel" "taped" "I" ∈ wsX10_feed := by decide +kernel
  refine ci_of (cc := cX10_feed) (maxL := 6) (ret := (some .int)) (by decide +kernel) rfl (Nat.le_of_ble_eq_true rfl) ?_
  intro pv ev sv mv args below meth cv A C hrt9 hnm9
  have C : Cx pv sv mv args meth cv cX10_feed 6 RX10 wsX10_feed G A LL ad := C
  show XJ pv l ev _ sv mv args below meth cv G A LL ad _ 6 0 0 _ 0 [(0, .ref (ad 30)), (1, .int v1), (2, .int v2), (3, .int v3), (4, .int v4), (5, .int v5)] []
  refine x_aload_n C 0 dX10_feed_0 rfl rfl ?_
  refine x_get C (T := TX10) (N := 45) (v := .int (S 30 29)) 30 29 hin10 (hF 30 (by decide)) (pf_30 G nR ad _) rfl (by decide) lk150 rfl rfl dX10_feed_1 ?_
  refine x_bipush C dX10_feed_4 (v := 20) (by decide) ?_
  refine x_iadd C dX10_feed_6 ?_
  refine x_sipush C dX10_feed_7 (v := 400) (by decide) ?_
  refine x_icmp_le C (tgt := 15) dX10_feed_10 (by decide) (fun c10 => ?_) (fun c10 => ?_)
  · skip
    have hc : k + 20 ≤ 400 := by
      rw [hk] at c10
      have h9 : nI k + nI 20 ≤ nI 400 := c10
      rw [← nI_ad] at h9
      exact nI_ge' h9 (by omega)
    refine x_aload_n C 0 dX10_feed_15 rfl rfl ?_
    refine x_iload_n C 1 dX10_feed_16 rfl rfl ?_
    refine x_Vv 30 C (k_X10_four l G nR LL ad hF S v1 k (hk) (by omega)) gX10_feed_X10_four rfl (by decide +kernel) ⟨(Nat.le_of_ble_eq_true rfl), (Nat.le_of_ble_eq_true rfl)⟩ ⟨(Nat.le_of_ble_eq_true rfl), (Nat.le_of_ble_eq_true rfl)⟩ (hF 30 (by decide)) (pf_30 G nR ad _) (T := TX10) (N := 45) rfl (n := 1) rfl (st := []) (Nat.le_of_ble_eq_true rfl) rfl dX10_feed_17 (fun _ hr9 => ?_)
    subst hr9
    refine x_aload_n C 0 dX10_feed_20 rfl rfl ?_
    refine x_iload_n C 2 dX10_feed_21 rfl rfl ?_
    refine x_Vv 30 C (k_X10_four l G nR LL ad hF (app4 S 57 30 29 k v1) v2 (k + 4) (app4_o _ _ _ _ _ _ (by decide)) (by omega)) gX10_feed_X10_four rfl (by decide +kernel) ⟨(Nat.le_of_ble_eq_true rfl), (Nat.le_of_ble_eq_true rfl)⟩ ⟨(Nat.le_of_ble_eq_true rfl), (Nat.le_of_ble_eq_true rfl)⟩ (hF 30 (by decide)) (pf_30 G nR ad _) (T := TX10) (N := 45) rfl (n := 1) rfl (st := []) (Nat.le_of_ble_eq_true rfl) rfl dX10_feed_22 (fun _ hr9 => ?_)
    subst hr9
    refine x_aload_n C 0 dX10_feed_25 rfl rfl ?_
    refine x_iload_n C 3 dX10_feed_26 rfl rfl ?_
    refine x_Vv 30 C (k_X10_four l G nR LL ad hF (app4 (app4 S 57 30 29 k v1) 57 30 29 (k + 4) v2) v3 (k + 8) (app4_o _ _ _ _ _ _ (by decide)) (by omega)) gX10_feed_X10_four rfl (by decide +kernel) ⟨(Nat.le_of_ble_eq_true rfl), (Nat.le_of_ble_eq_true rfl)⟩ ⟨(Nat.le_of_ble_eq_true rfl), (Nat.le_of_ble_eq_true rfl)⟩ (hF 30 (by decide)) (pf_30 G nR ad _) (T := TX10) (N := 45) rfl (n := 1) rfl (st := []) (Nat.le_of_ble_eq_true rfl) rfl dX10_feed_27 (fun _ hr9 => ?_)
    subst hr9
    refine x_aload_n C 0 dX10_feed_30 rfl rfl ?_
    refine x_iload C 4 dX10_feed_31 rfl ?_
    refine x_Vv 30 C (k_X10_four l G nR LL ad hF (app4 (app4 (app4 S 57 30 29 k v1) 57 30 29 (k + 4) v2) 57 30 29 (k + 8) v3) v4 (k + 12) (app4_o _ _ _ _ _ _ (by decide)) (by omega)) gX10_feed_X10_four rfl (by decide +kernel) ⟨(Nat.le_of_ble_eq_true rfl), (Nat.le_of_ble_eq_true rfl)⟩ ⟨(Nat.le_of_ble_eq_true rfl), (Nat.le_of_ble_eq_true rfl)⟩ (hF 30 (by decide)) (pf_30 G nR ad _) (T := TX10) (N := 45) rfl (n := 1) rfl (st := []) (Nat.le_of_ble_eq_true rfl) rfl dX10_feed_33 (fun _ hr9 => ?_)
    subst hr9
    refine x_aload_n C 0 dX10_feed_36 rfl rfl ?_
    refine x_iload C 5 dX10_feed_37 rfl ?_
    refine x_Vv 30 C (k_X10_four l G nR LL ad hF (app4 (app4 (app4 (app4 S 57 30 29 k v1) 57 30 29 (k + 4) v2) 57 30 29 (k + 8) v3) 57 30 29 (k + 12) v4) v5 (k + 16) (app4_o _ _ _ _ _ _ (by decide)) (by omega)) gX10_feed_X10_four rfl (by decide +kernel) ⟨(Nat.le_of_ble_eq_true rfl), (Nat.le_of_ble_eq_true rfl)⟩ ⟨(Nat.le_of_ble_eq_true rfl), (Nat.le_of_ble_eq_true rfl)⟩ (hF 30 (by decide)) (pf_30 G nR ad _) (T := TX10) (N := 45) rfl (n := 1) rfl (st := []) (Nat.le_of_ble_eq_true rfl) rfl dX10_feed_39 (fun _ hr9 => ?_)
    subst hr9
    refine x_aload_n C 0 dX10_feed_42 rfl rfl ?_
    refine x_get C (T := TX10) (N := 45) (v := .int ((app4 (app4 (app4 (app4 (app4 S 57 30 29 k v1) 57 30 29 (k + 4) v2) 57 30 29 (k + 8) v3) 57 30 29 (k + 12) v4) 57 30 29 (k + 16) v5) 30 29)) 30 29 hin10 (hF 30 (by decide)) (pf_30 G nR ad _) rfl (by decide) lk150 rfl rfl dX10_feed_43 ?_
    refine x_iret C hrt9 (app4 (app4 (app4 (app4 (app4 S 57 30 29 k v1) 57 30 29 (k + 4) v2) 57 30 29 (k + 8) v3) 57 30 29 (k + 12) v4) 57 30 29 (k + 16) v5) ?_ rfl dX10_feed_46
    rw [if_pos hc, if_pos hc]
    exact ⟨app4_o _ _ _ _ _ _ (by decide), rfl⟩
  · skip
    refine x_iconst C dX10_feed_13 (v := -1) (by decide) ?_
    refine x_iret C hrt9 S ?_ rfl dX10_feed_14
    have hc : ¬ k + 20 ≤ 400 := fun h => by
      rw [hk] at c10
      exact c10 (show nI k + 20 ≤ 400 from by have := nI_le (a := k + 20) (b := 400) h (by decide); rw [nI_ad] at this; exact this)
    rw [if_neg hc, if_neg hc]
    exact ⟨rfl, rfl⟩

