/-! small words that both sides speak -/
def isW (v a b : Int32) : Bool := decide (a ≤ v) && decide (v ≤ b)
def isP (v n : Int32) : Bool := decide (0 ≤ v) && decide (v < n)
theorem isW_t {v a b : Int32} (h : isW v a b = true) : a ≤ v ∧ v ≤ b := by simpa [isW] using h
theorem isP_t {v n : Int32} (h : isP v n = true) : 0 ≤ v ∧ v < n := by simpa [isP] using h
theorem i_ge {x y : Int32} (h : ¬ x < y) : y ≤ x := Int32.not_lt.mp h
theorem i_lt {x y : Int32} (h : ¬ y ≤ x) : x < y := Int32.not_le.mp h

set_option maxHeartbeats 4000000 in
set_option maxRecDepth 100000 in
theorem k_X9_isPlace (l : Launch) (G : tf_G) (LL : List Nat) (ad : Nat → Nat) (P : Nat → va_E) (a b : Int32) : Ci l yX9_isPlace wsX9_isPlace ({ frames := 0, cells := 0, slots := 0, locals := 0 } : Room) G LL ad (fun (_ : Unit) => P) P [.int a, .int b] (fun r _ => r = bI (isP a b)) := by
  refine ci_of (cc := cX9_isPlace) (maxL := 2) (ret := (some .boolean)) (by decide +kernel) rfl (Nat.le_of_ble_eq_true rfl) ?_
  intro pv ev sv mv args below meth cv A C hrt9 hnm9
  have C : Cx pv sv mv args meth cv cX9_isPlace 2 RX9 wsX9_isPlace G A LL ad := C
  show XJ pv l ev _ sv mv args below meth cv G A LL ad _ 2 0 0 _ 0 [(0, .int a), (1, .int b)] []
  refine x_iload_n C 0 dX9_isPlace_0 rfl rfl ?_
  refine x_if_lt C (tgt := 13) dX9_isPlace_1 (by decide) (fun c1 => ?_) (fun c1 => ?_)
  · skip
    refine x_iconst C dX9_isPlace_13 (v := 0) (by decide) ?_
    refine x_zret C hrt9 (Or.inl rfl) () ?_ rfl dX9_isPlace_14
    show _ = _
    simp [isP, bI, ← Int32.not_le]; simp_all [← Int32.not_le]
  · skip
    refine x_iload_n C 0 dX9_isPlace_4 rfl rfl ?_
    refine x_iload_n C 1 dX9_isPlace_5 rfl rfl ?_
    refine x_icmp_ge C (tgt := 13) dX9_isPlace_6 (by decide) (fun c6 => ?_) (fun c6 => ?_)
    · skip
      refine x_iconst C dX9_isPlace_13 (v := 0) (by decide) ?_
      refine x_zret C hrt9 (Or.inl rfl) () ?_ rfl dX9_isPlace_14
      show _ = _
      simp [isP, bI, ← Int32.not_le]; simp_all [← Int32.not_le]
    · skip
      refine x_iconst C dX9_isPlace_9 (v := 1) (by decide) ?_
      refine x_goto C (tgt := 14) dX9_isPlace_10 (by decide) ?_
      refine x_zret C hrt9 (Or.inr rfl) () ?_ rfl dX9_isPlace_14
      show _ = _
      simp [isP, bI, ← Int32.not_le]; simp_all [← Int32.not_le]

set_option maxHeartbeats 4000000 in
set_option maxRecDepth 100000 in
theorem k_X9_isWithin (l : Launch) (G : tf_G) (LL : List Nat) (ad : Nat → Nat) (P : Nat → va_E) (v a b : Int32) : Ci l yX9_isWithin wsX9_isWithin ({ frames := 0, cells := 0, slots := 0, locals := 0 } : Room) G LL ad (fun (_ : Unit) => P) P [.int v, .int a, .int b] (fun r _ => r = bI (isW v a b)) := by
  refine ci_of (cc := cX9_isWithin) (maxL := 3) (ret := (some .boolean)) (by decide +kernel) rfl (Nat.le_of_ble_eq_true rfl) ?_
  intro pv ev sv mv args below meth cv A C hrt9 hnm9
  have C : Cx pv sv mv args meth cv cX9_isWithin 3 RX9 wsX9_isWithin G A LL ad := C
  show XJ pv l ev _ sv mv args below meth cv G A LL ad _ 3 0 0 _ 0 [(0, .int v), (1, .int a), (2, .int b)] []
  refine x_iload_n C 0 dX9_isWithin_0 rfl rfl ?_
  refine x_iload_n C 1 dX9_isWithin_1 rfl rfl ?_
  refine x_icmp_lt C (tgt := 14) dX9_isWithin_2 (by decide) (fun c2 => ?_) (fun c2 => ?_)
  · skip
    refine x_iconst C dX9_isWithin_14 (v := 0) (by decide) ?_
    refine x_zret C hrt9 (Or.inl rfl) () ?_ rfl dX9_isWithin_15
    show _ = _
    simp [isW, bI, ← Int32.not_le]; simp_all [← Int32.not_le]
  · skip
    refine x_iload_n C 0 dX9_isWithin_5 rfl rfl ?_
    refine x_iload_n C 2 dX9_isWithin_6 rfl rfl ?_
    refine x_icmp_gt C (tgt := 14) dX9_isWithin_7 (by decide) (fun c7 => ?_) (fun c7 => ?_)
    · skip
      refine x_iconst C dX9_isWithin_14 (v := 0) (by decide) ?_
      refine x_zret C hrt9 (Or.inl rfl) () ?_ rfl dX9_isWithin_15
      show _ = _
      simp [isW, bI, ← Int32.not_le]; simp_all [← Int32.not_le]
    · skip
      refine x_iconst C dX9_isWithin_10 (v := 1) (by decide) ?_
      refine x_goto C (tgt := 15) dX9_isWithin_11 (by decide) ?_
      refine x_zret C hrt9 (Or.inr rfl) () ?_ rfl dX9_isWithin_15
      show _ = _
      simp [isW, bI, ← Int32.not_le]; simp_all [← Int32.not_le]

set_option maxHeartbeats 4000000 in
set_option maxRecDepth 100000 in
theorem k_X9_isDay (l : Launch) (G : tf_G) (LL : List Nat) (ad : Nat → Nat) (P : Nat → va_E) (v : Int32) : Ci l yX9_isDay wsX9_isDay ({ frames := 1, cells := 0, slots := 0, locals := 22 } : Room) G LL ad (fun (_ : Unit) => P) P [.int v] (fun r _ => r = bI (isW v 0 400)) := by
  refine ci_of (cc := cX9_isDay) (maxL := 1) (ret := (some .boolean)) (by decide +kernel) rfl (Nat.le_of_ble_eq_true rfl) ?_
  intro pv ev sv mv args below meth cv A C hrt9 hnm9
  have C : Cx pv sv mv args meth cv cX9_isDay 1 RX9 wsX9_isDay G A LL ad := C
  show XJ pv l ev _ sv mv args below meth cv G A LL ad _ 1 0 0 _ 0 [(0, .int v)] []
  refine x_iload_n C 0 dX9_isDay_0 rfl rfl ?_
  refine x_iconst C dX9_isDay_1 (v := 0) (by decide) ?_
  refine x_sipush C dX9_isDay_2 (v := 400) (by decide) ?_
  refine x_Si C (k_X9_isWithin l G LL ad P v 0 400) gX9_isDay_X9_isWithin rfl (by decide +kernel) ⟨(Nat.le_of_ble_eq_true rfl), (Nat.le_of_ble_eq_true rfl)⟩ ⟨(Nat.le_of_ble_eq_true rfl), (Nat.le_of_ble_eq_true rfl)⟩ (n := 3) rfl (st := []) (Nat.le_of_ble_eq_true rfl) rfl dX9_isDay_5 (fun _ _ hr9 => ?_)
  subst hr9
  refine x_zret C hrt9 (bI_01 _) () ?_ rfl dX9_isDay_8
  rfl

set_option maxHeartbeats 4000000 in
set_option maxRecDepth 100000 in
theorem k_X9_isCounty (l : Launch) (G : tf_G) (LL : List Nat) (ad : Nat → Nat) (P : Nat → va_E) (v : Int32) : Ci l yX9_isCounty wsX9_isCounty ({ frames := 1, cells := 0, slots := 0, locals := 22 } : Room) G LL ad (fun (_ : Unit) => P) P [.int v] (fun r _ => r = bI (isW v 0 5)) := by
  refine ci_of (cc := cX9_isCounty) (maxL := 1) (ret := (some .boolean)) (by decide +kernel) rfl (Nat.le_of_ble_eq_true rfl) ?_
  intro pv ev sv mv args below meth cv A C hrt9 hnm9
  have C : Cx pv sv mv args meth cv cX9_isCounty 1 RX9 wsX9_isCounty G A LL ad := C
  show XJ pv l ev _ sv mv args below meth cv G A LL ad _ 1 0 0 _ 0 [(0, .int v)] []
  refine x_iload_n C 0 dX9_isCounty_0 rfl rfl ?_
  refine x_iconst C dX9_isCounty_1 (v := 0) (by decide) ?_
  refine x_iconst C dX9_isCounty_2 (v := 5) (by decide) ?_
  refine x_Si C (k_X9_isWithin l G LL ad P v 0 5) gX9_isCounty_X9_isWithin rfl (by decide +kernel) ⟨(Nat.le_of_ble_eq_true rfl), (Nat.le_of_ble_eq_true rfl)⟩ ⟨(Nat.le_of_ble_eq_true rfl), (Nat.le_of_ble_eq_true rfl)⟩ (n := 3) rfl (st := []) (Nat.le_of_ble_eq_true rfl) rfl dX9_isCounty_3 (fun _ _ hr9 => ?_)
  subst hr9
  refine x_zret C hrt9 (bI_01 _) () ?_ rfl dX9_isCounty_6
  rfl

