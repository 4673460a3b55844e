/-! a statute at ids o (its row at w), a squadron at ids o (its rows at d, b) -/
def StOk (G : tf_G) (nR : Nat) (LL : List Nat) (ad : Nat → Nat) (o w : Nat) : Prop := (∀ f, pf G nR ad o f = .inr (7, [.int (f 0), .int (f 1), .ref (ad w), .int (f 3), .int (f 4), .int (f 5), .int (f 6)])) ∧ (∀ f, pf G nR ad w f = .inl (G.2.1 0, nR, .inl f)) ∧ o ∈ LL ∧ w ∈ LL
def SqOk (G : tf_G) (nR : Nat) (LL : List Nat) (ad : Nat → Nat) (o d b : Nat) : Prop := (∀ f, pf G nR ad o f = .inr (6, [.int (f 0), .int (f 1), .int (f 2), .int (f 3), .ref (ad d), .ref (ad b), .int (f 6), .int (f 7), .int (f 8), .int (f 9), .int (f 10), .int (f 11)])) ∧ (∀ f, pf G nR ad d f = .inl (G.2.1 0, nR, .inl f)) ∧ (∀ f, pf G nR ad b f = .inl (G.2.1 0, 4, .inl f)) ∧ o ∈ LL ∧ d ∈ LL ∧ b ∈ LL
def alwIn (nR : Nat) (S : tf_M) (w : Nat) (x : Int32) : Int32 := if isP x (nI nR) = true then S w x.toNatClampNeg else -1
def alwS (nR : Nat) (S : tf_M) (w : Nat) (x v : Int32) : tf_M := if isP x (nI nR) = true then s2 S w x.toNatClampNeg v else S
def stTell (nR : Nat) (S : tf_M) (o w : Nat) (x : Int32) : Int32 := if x = 0 then S o 3 else if x = 1 then S o 4 else if x = 2 then S o 5 else if x = 3 then S o 6 else if x = 4 then S o 0 else alwIn nR S w (x - 10)
set_option maxHeartbeats 4000000 in
set_option maxRecDepth 100000 in
theorem k_X7_allow (l : Launch) (G : tf_G) (nR : Nat) (LL : List Nat) (ad : Nat → Nat) (hF : ∀ j ∈ tf_fix, j ∈ LL) (S : tf_M) (o w : Nat) (hq : StOk G nR LL ad o w) (hR : nR ≤ 12) (x v : Int32) : Cv l yX7_allow wsX7_allow ({ frames := 1, cells := 0, slots := 0, locals := 21 } : Room) G LL ad (pw G nR ad) (pw G nR ad S) [.ref (ad o), .int x, .int v] (fun u => u = alwS nR S w x v) := by
  have hin7 : ∀ w ∈ u_ws RX7 TX7 7, w ∈ wsX7_allow := by decide +kernel
  have lk18 : Cond.fieldLink RX7 18 "TributeFleet$Statute" "allowed" "[I" ∈ wsX7_allow := by decide +kernel
  have ini9 : Cond.initialized RX9 ∈ wsX7_allow := by decide +kernel
  have sttX9_isPlace : Cond.static yX9_isPlace ∈ wsX7_allow := by decide +kernel
  refine cv_of (cc := cX7_allow) (maxL := 3) (ret := none) (by decide +kernel) rfl (Nat.le_of_ble_eq_true rfl) ?_
  intro pv ev sv mv args below meth cv A C hrt9 hnm9
  have C : Cx pv sv mv args meth cv cX7_allow 3 RX7 wsX7_allow G A LL ad := C
  show XJ pv l ev _ sv mv args below meth cv G A LL ad _ 3 0 0 _ 0 [(0, .ref (ad o)), (1, .int x), (2, .int v)] []
  refine x_iload_n C 1 dX7_allow_0 rfl rfl ?_
  refine x_aload_n C 0 dX7_allow_1 rfl rfl ?_
  refine x_get C (T := TX7) (N := 7) (v := .ref (ad w)) o 2 hin7 hq.2.2.1 (hq.1 _) rfl (by decide) lk18 rfl rfl dX7_allow_2 ?_
  refine x_alen C w 0 hq.2.2.2 (hq.2.1 _) rfl (v := nI nR) rfl dX7_allow_5 ?_
  refine x_Ni C (k_X9_isPlace l G LL ad _ x (nI nR)) gX7_allow_X9_isPlace_n34 rfl (by decide +kernel) C.2.2.1.2.1.2.2.2.2.2 ini9 sttX9_isPlace ⟨(Nat.le_of_ble_eq_true rfl), (Nat.le_of_ble_eq_true rfl)⟩ ⟨(Nat.le_of_ble_eq_true rfl), (Nat.le_of_ble_eq_true rfl)⟩ (n := 2) rfl (st := []) (Nat.le_of_ble_eq_true rfl) rfl dX7_allow_6 (fun _ _ hr9 => ?_)
  subst hr9
  refine x_if_eq C (tgt := 19) dX7_allow_9 (by decide) (fun c9 => ?_) (fun c9 => ?_)
  · replace c9 := bI_z c9
    refine x_vret C hrt9 S ?_ rfl dX7_allow_19
    show _ = _
    simp [alwS]; simp_all
  · replace c9 := bI_nz c9
    refine x_aload_n C 0 dX7_allow_12 rfl rfl ?_
    refine x_get C (T := TX7) (N := 7) (v := .ref (ad w)) o 2 hin7 hq.2.2.1 (hq.1 _) rfl (by decide) lk18 rfl rfl dX7_allow_13 ?_
    refine x_iload_n C 1 dX7_allow_16 rfl rfl ?_
    refine x_iload_n C 2 dX7_allow_17 rfl rfl ?_
    refine y_iast C w hq.2.2.2 (fun f => (hq.2.1 f)) (vp_ok c9 (Nat.le_refl nR) (by omega)) (kk := x.toNatClampNeg) rfl dX7_allow_18 ?_
    refine x_vret C hrt9 (s2 S w x.toNatClampNeg v) ?_ rfl dX7_allow_19
    show _ = _
    simp [alwS]; simp_all

set_option maxHeartbeats 4000000 in
set_option maxRecDepth 100000 in
theorem k_X7_allowedIn (l : Launch) (G : tf_G) (nR : Nat) (LL : List Nat) (ad : Nat → Nat) (hF : ∀ j ∈ tf_fix, j ∈ LL) (S : tf_M) (o w : Nat) (hq : StOk G nR LL ad o w) (hR : nR ≤ 12) (x : Int32) : Ci l yX7_allowedIn wsX7_allowedIn ({ frames := 1, cells := 0, slots := 0, locals := 21 } : Room) G LL ad (fun (_ : Unit) => pw G nR ad S) (pw G nR ad S) [.ref (ad o), .int x] (fun r _ => r = alwIn nR S w x) := by
  have hin7 : ∀ w ∈ u_ws RX7 TX7 7, w ∈ wsX7_allowedIn := by decide +kernel
  have lk18 : Cond.fieldLink RX7 18 "TributeFleet$Statute" "allowed" "[I" ∈ wsX7_allowedIn := by decide +kernel
  have ini9 : Cond.initialized RX9 ∈ wsX7_allowedIn := by decide +kernel
  have sttX9_isPlace : Cond.static yX9_isPlace ∈ wsX7_allowedIn := by decide +kernel
  refine ci_of (cc := cX7_allowedIn) (maxL := 2) (ret := (some .int)) (by decide +kernel) rfl (Nat.le_of_ble_eq_true rfl) ?_
  intro pv ev sv mv args below meth cv A C hrt9 hnm9
  have C : Cx pv sv mv args meth cv cX7_allowedIn 2 RX7 wsX7_allowedIn G A LL ad := C
  show XJ pv l ev _ sv mv args below meth cv G A LL ad _ 2 0 0 _ 0 [(0, .ref (ad o)), (1, .int x)] []
  refine x_iload_n C 1 dX7_allowedIn_0 rfl rfl ?_
  refine x_aload_n C 0 dX7_allowedIn_1 rfl rfl ?_
  refine x_get C (T := TX7) (N := 7) (v := .ref (ad w)) o 2 hin7 hq.2.2.1 (hq.1 _) rfl (by decide) lk18 rfl rfl dX7_allowedIn_2 ?_
  refine x_alen C w 0 hq.2.2.2 (hq.2.1 _) rfl (v := nI nR) rfl dX7_allowedIn_5 ?_
  refine x_Ni C (k_X9_isPlace l G LL ad _ x (nI nR)) gX7_allowedIn_X9_isPlace_n34 rfl (by decide +kernel) C.2.2.1.2.1.2.2.2.2.2 ini9 sttX9_isPlace ⟨(Nat.le_of_ble_eq_true rfl), (Nat.le_of_ble_eq_true rfl)⟩ ⟨(Nat.le_of_ble_eq_true rfl), (Nat.le_of_ble_eq_true rfl)⟩ (n := 2) rfl (st := []) (Nat.le_of_ble_eq_true rfl) rfl dX7_allowedIn_6 (fun _ _ hr9 => ?_)
  subst hr9
  refine x_if_eq C (tgt := 21) dX7_allowedIn_9 (by decide) (fun c9 => ?_) (fun c9 => ?_)
  · replace c9 := bI_z c9
    refine x_iconst C dX7_allowedIn_21 (v := -1) (by decide) ?_
    refine x_iret C hrt9 () ?_ rfl dX7_allowedIn_22
    show _ = _
    simp [alwIn]; simp_all
  · replace c9 := bI_nz c9
    refine x_aload_n C 0 dX7_allowedIn_12 rfl rfl ?_
    refine x_get C (T := TX7) (N := 7) (v := .ref (ad w)) o 2 hin7 hq.2.2.1 (hq.1 _) rfl (by decide) lk18 rfl rfl dX7_allowedIn_13 ?_
    refine x_iload_n C 1 dX7_allowedIn_16 rfl rfl ?_
    refine x_iald C w hq.2.2.2 (hq.2.1 _) (vp_ok c9 (Nat.le_refl nR) (by omega)) (kk := x.toNatClampNeg) rfl dX7_allowedIn_17 ?_
    refine x_goto C (tgt := 22) dX7_allowedIn_18 (by decide) ?_
    refine x_iret C hrt9 () ?_ rfl dX7_allowedIn_22
    show _ = _
    simp [alwIn]; simp_all

set_option maxHeartbeats 4000000 in
set_option maxRecDepth 100000 in
theorem k_X7_tell (l : Launch) (G : tf_G) (nR : Nat) (LL : List Nat) (ad : Nat → Nat) (hF : ∀ j ∈ tf_fix, j ∈ LL) (S : tf_M) (o w : Nat) (hq : StOk G nR LL ad o w) (hR : nR ≤ 12) (x : Int32) : Ci l yX7_tell wsX7_tell ({ frames := 2, cells := 0, slots := 0, locals := 42 } : Room) G LL ad (fun (_ : Unit) => pw G nR ad S) (pw G nR ad S) [.ref (ad o), .int x] (fun r _ => r = stTell nR S o w x) := by
  have hin7 : ∀ w ∈ u_ws RX7 TX7 7, w ∈ wsX7_tell := by decide +kernel
  have lk22 : Cond.fieldLink RX7 22 "TributeFleet$Statute" "order" "I" ∈ wsX7_tell := by decide +kernel
  have lk25 : Cond.fieldLink RX7 25 "TributeFleet$Statute" "loss" "I" ∈ wsX7_tell := by decide +kernel
  have lk28 : Cond.fieldLink RX7 28 "TributeFleet$Statute" "goodsABoat" "I" ∈ wsX7_tell := by decide +kernel
  have lk31 : Cond.fieldLink RX7 31 "TributeFleet$Statute" "fine" "I" ∈ wsX7_tell := by decide +kernel
  have lk9 : Cond.fieldLink RX7 9 "TributeFleet$Statute" "number" "I" ∈ wsX7_tell := by decide +kernel
  refine ci_of (cc := cX7_tell) (maxL := 2) (ret := (some .int)) (by decide +kernel) rfl (Nat.le_of_ble_eq_true rfl) ?_
  intro pv ev sv mv args below meth cv A C hrt9 hnm9
  have C : Cx pv sv mv args meth cv cX7_tell 2 RX7 wsX7_tell G A LL ad := C
  show XJ pv l ev _ sv mv args below meth cv G A LL ad _ 2 0 0 _ 0 [(0, .ref (ad o)), (1, .int x)] []
  refine x_iload_n C 1 dX7_tell_0 rfl rfl ?_
  rcases sw_4 x with rfl | rfl | rfl | rfl | rfl | h9
  · skip
    refine x_tableIn C dX7_tell_1 (by decide) (by decide) (off := 35) (tgt := 36) rfl (by decide) ?_
    refine x_aload_n C 0 dX7_tell_36 rfl rfl ?_
    refine x_get C (T := TX7) (N := 7) (v := .int (S (o) 3)) o 3 hin7 hq.2.2.1 (hq.1 _) rfl (by decide) lk22 rfl rfl dX7_tell_37 ?_
    refine x_iret C hrt9 () ?_ rfl dX7_tell_40
    rfl
  · skip
    refine x_tableIn C dX7_tell_1 (by decide) (by decide) (off := 40) (tgt := 41) rfl (by decide) ?_
    refine x_aload_n C 0 dX7_tell_41 rfl rfl ?_
    refine x_get C (T := TX7) (N := 7) (v := .int (S (o) 4)) o 4 hin7 hq.2.2.1 (hq.1 _) rfl (by decide) lk25 rfl rfl dX7_tell_42 ?_
    refine x_iret C hrt9 () ?_ rfl dX7_tell_45
    rfl
  · skip
    refine x_tableIn C dX7_tell_1 (by decide) (by decide) (off := 45) (tgt := 46) rfl (by decide) ?_
    refine x_aload_n C 0 dX7_tell_46 rfl rfl ?_
    refine x_get C (T := TX7) (N := 7) (v := .int (S (o) 5)) o 5 hin7 hq.2.2.1 (hq.1 _) rfl (by decide) lk28 rfl rfl dX7_tell_47 ?_
    refine x_iret C hrt9 () ?_ rfl dX7_tell_50
    rfl
  · skip
    refine x_tableIn C dX7_tell_1 (by decide) (by decide) (off := 50) (tgt := 51) rfl (by decide) ?_
    refine x_aload_n C 0 dX7_tell_51 rfl rfl ?_
    refine x_get C (T := TX7) (N := 7) (v := .int (S (o) 6)) o 6 hin7 hq.2.2.1 (hq.1 _) rfl (by decide) lk31 rfl rfl dX7_tell_52 ?_
    refine x_iret C hrt9 () ?_ rfl dX7_tell_55
    rfl
  · skip
    refine x_tableIn C dX7_tell_1 (by decide) (by decide) (off := 55) (tgt := 56) rfl (by decide) ?_
    refine x_aload_n C 0 dX7_tell_56 rfl rfl ?_
    refine x_get C (T := TX7) (N := 7) (v := .int (S (o) 0)) o 0 hin7 hq.2.2.1 (hq.1 _) rfl (by decide) lk9 rfl rfl dX7_tell_57 ?_
    refine x_iret C hrt9 () ?_ rfl dX7_tell_60
    rfl
  · skip
    refine x_tableOut C dX7_tell_1 h9.1 (tgt := 61) (by decide) ?_
    refine x_aload_n C 0 dX7_tell_61 rfl rfl ?_
    refine x_iload_n C 1 dX7_tell_62 rfl rfl ?_
    refine x_bipush C dX7_tell_63 (v := 10) (by decide) ?_
    refine x_isub C dX7_tell_65 ?_
    refine x_Vi o C (k_X7_allowedIn l G nR LL ad hF S o w hq  hR (x - 10)) gX7_tell_X7_allowedIn rfl (by decide +kernel) ⟨(Nat.le_of_ble_eq_true rfl), (Nat.le_of_ble_eq_true rfl)⟩ ⟨(Nat.le_of_ble_eq_true rfl), (Nat.le_of_ble_eq_true rfl)⟩ hq.2.2.1 (hq.1 _) (T := TX7) (N := 7) rfl (n := 1) rfl (st := []) (Nat.le_of_ble_eq_true rfl) rfl dX7_tell_66 (fun _ _ hr9 => ?_)
    subst hr9
    refine x_iret C hrt9 () ?_ rfl dX7_tell_69
    show _ = _
    simp [stTell, h9.2]

def come (S : tf_M) (o : Nat) : Bool := !decide (S o 7 = -1)
def sqBegin (nR : Nat) (S : tf_M) (o d : Nat) : tf_M := if come (s2 S o 9 0) o = false ∧ isP (s2 S o 9 0 o 6) (nI nR) = true then s2 (s2 S o 9 0) d (s2 S o 9 0 o 6).toNatClampNeg (s2 S o 9 0 d (s2 S o 9 0 o 6).toNatClampNeg + 1) else s2 S o 9 0
def sqMove (nR : Nat) (S : tf_M) (o : Nat) (t : Int32) : tf_M := if nI nR - 1 ≤ s2 S o 6 (S o 6 + 1) o 6 then s2 (s2 S o 6 (S o 6 + 1)) o 7 t else s2 S o 6 (S o 6 + 1)
def sqStay (S : tf_M) (o b : Nat) (x : Int32) : tf_M := if isP (x - 1) 4 = true then s2 (s2 S o 9 x) b (x - 1).toNatClampNeg (s2 S o 9 x b (x - 1).toNatClampNeg + 1) else s2 S o 9 x
def sqDays (nR : Nat) (S : tf_M) (d b : Nat) (x : Int32) : Int32 := if isP (x - 10) (nI nR) = true then S d (x - 10).toNatClampNeg else if isP (x - 31) 4 = true then S b (x - 31).toNatClampNeg else -1
def sqTell (nR : Nat) (S : tf_M) (o d b : Nat) (x : Int32) : Int32 := if x = 0 then S o 6 else if x = 1 then S o 7 else if x = 2 then S o 2 - S o 8 else if x = 3 then S o 9 else if x = 4 then (if isP (S o 6) (nI nR) = true then S d (S o 6).toNatClampNeg else -1) else if x = 5 then (if S o 11 = 0 then 0 else 1) else sqDays nR S d b x
theorem vp_ok4 {v : Int32} (h : isP v 4 = true) : vp_in v 4 := vp_ok (n := 4) h (Nat.le_refl 4) (by decide)
set_option maxHeartbeats 4000000 in
set_option maxRecDepth 100000 in
theorem k_X6_hasCome (l : Launch) (G : tf_G) (nR : Nat) (LL : List Nat) (ad : Nat → Nat) (hF : ∀ j ∈ tf_fix, j ∈ LL) (S : tf_M) (o d b : Nat) (hq : SqOk G nR LL ad o d b) (hR : nR ≤ 12) : Ci l yX6_hasCome wsX6_hasCome ({ frames := 0, cells := 0, slots := 0, locals := 0 } : Room) G LL ad (fun (_ : Unit) => pw G nR ad S) (pw G nR ad S) [.ref (ad o)] (fun r _ => r = bI (come S o)) := by
  have hin6 : ∀ w ∈ u_ws RX6 TX6 12, w ∈ wsX6_hasCome := by decide +kernel
  have lk34 : Cond.fieldLink RX6 34 "TributeFleet$Squadron" "cameOn" "I" ∈ wsX6_hasCome := by decide +kernel
  refine ci_of (cc := cX6_hasCome) (maxL := 1) (ret := (some .boolean)) (by decide +kernel) rfl (Nat.le_of_ble_eq_true rfl) ?_
  intro pv ev sv mv args below meth cv A C hrt9 hnm9
  have C : Cx pv sv mv args meth cv cX6_hasCome 1 RX6 wsX6_hasCome G A LL ad := C
  show XJ pv l ev _ sv mv args below meth cv G A LL ad _ 1 0 0 _ 0 [(0, .ref (ad o))] []
  refine x_aload_n C 0 dX6_hasCome_0 rfl rfl ?_
  refine x_get C (T := TX6) (N := 12) (v := .int (S (o) 7)) o 7 hin6 hq.2.2.2.1 (hq.1 _) rfl (by decide) lk34 rfl rfl dX6_hasCome_1 ?_
  refine x_iconst C dX6_hasCome_4 (v := -1) (by decide) ?_
  refine x_icmp_eq C (tgt := 12) dX6_hasCome_5 (by decide) (fun c5 => ?_) (fun c5 => ?_)
  · skip
    refine x_iconst C dX6_hasCome_12 (v := 0) (by decide) ?_
    refine x_zret C hrt9 (Or.inl rfl) () ?_ rfl dX6_hasCome_13
    show _ = _
    simp [come, bI]; simp_all
  · skip
    refine x_iconst C dX6_hasCome_8 (v := 1) (by decide) ?_
    refine x_goto C (tgt := 13) dX6_hasCome_9 (by decide) ?_
    refine x_zret C hrt9 (Or.inr rfl) () ?_ rfl dX6_hasCome_13
    show _ = _
    simp [come, bI]; simp_all

set_option maxHeartbeats 4000000 in
set_option maxRecDepth 100000 in
theorem k_X6_bagsLeft (l : Launch) (G : tf_G) (nR : Nat) (LL : List Nat) (ad : Nat → Nat) (hF : ∀ j ∈ tf_fix, j ∈ LL) (S : tf_M) (o d b : Nat) (hq : SqOk G nR LL ad o d b) (hR : nR ≤ 12) : Ci l yX6_bagsLeft wsX6_bagsLeft ({ frames := 0, cells := 0, slots := 0, locals := 0 } : Room) G LL ad (fun (_ : Unit) => pw G nR ad S) (pw G nR ad S) [.ref (ad o)] (fun r _ => r = S o 2 - S o 8) := by
  have hin6 : ∀ w ∈ u_ws RX6 TX6 12, w ∈ wsX6_bagsLeft := by decide +kernel
  have lk18 : Cond.fieldLink RX6 18 "TributeFleet$Squadron" "bags" "I" ∈ wsX6_bagsLeft := by decide +kernel
  have lk37 : Cond.fieldLink RX6 37 "TributeFleet$Squadron" "lost" "I" ∈ wsX6_bagsLeft := by decide +kernel
  refine ci_of (cc := cX6_bagsLeft) (maxL := 1) (ret := (some .int)) (by decide +kernel) rfl (Nat.le_of_ble_eq_true rfl) ?_
  intro pv ev sv mv args below meth cv A C hrt9 hnm9
  have C : Cx pv sv mv args meth cv cX6_bagsLeft 1 RX6 wsX6_bagsLeft G A LL ad := C
  show XJ pv l ev _ sv mv args below meth cv G A LL ad _ 1 0 0 _ 0 [(0, .ref (ad o))] []
  refine x_aload_n C 0 dX6_bagsLeft_0 rfl rfl ?_
  refine x_get C (T := TX6) (N := 12) (v := .int (S (o) 2)) o 2 hin6 hq.2.2.2.1 (hq.1 _) rfl (by decide) lk18 rfl rfl dX6_bagsLeft_1 ?_
  refine x_aload_n C 0 dX6_bagsLeft_4 rfl rfl ?_
  refine x_get C (T := TX6) (N := 12) (v := .int (S (o) 8)) o 8 hin6 hq.2.2.2.1 (hq.1 _) rfl (by decide) lk37 rfl rfl dX6_bagsLeft_5 ?_
  refine x_isub C dX6_bagsLeft_8 ?_
  refine x_iret C hrt9 () ?_ rfl dX6_bagsLeft_9
  rfl

set_option maxHeartbeats 4000000 in
set_option maxRecDepth 100000 in
theorem k_X6_beginDay (l : Launch) (G : tf_G) (nR : Nat) (LL : List Nat) (ad : Nat → Nat) (hF : ∀ j ∈ tf_fix, j ∈ LL) (S : tf_M) (o d b : Nat) (hq : SqOk G nR LL ad o d b) (hR : nR ≤ 12) : Cv l yX6_beginDay wsX6_beginDay ({ frames := 1, cells := 0, slots := 0, locals := 21 } : Room) G LL ad (pw G nR ad) (pw G nR ad S) [.ref (ad o)] (fun u => u = sqBegin nR S o d) := by
  have hin6 : ∀ w ∈ u_ws RX6 TX6 12, w ∈ wsX6_beginDay := by decide +kernel
  have lk40 : Cond.fieldLink RX6 40 "TributeFleet$Squadron" "why" "I" ∈ wsX6_beginDay := by decide +kernel
  have lk31 : Cond.fieldLink RX6 31 "TributeFleet$Squadron" "reach" "I" ∈ wsX6_beginDay := by decide +kernel
  have lk24 : Cond.fieldLink RX6 24 "TributeFleet$Squadron" "daysIn" "[I" ∈ wsX6_beginDay := by decide +kernel
  have ini9 : Cond.initialized RX9 ∈ wsX6_beginDay := by decide +kernel
  have sttX9_isPlace : Cond.static yX9_isPlace ∈ wsX6_beginDay := by decide +kernel
  refine cv_of (cc := cX6_beginDay) (maxL := 1) (ret := none) (by decide +kernel) rfl (Nat.le_of_ble_eq_true rfl) ?_
  intro pv ev sv mv args below meth cv A C hrt9 hnm9
  have C : Cx pv sv mv args meth cv cX6_beginDay 1 RX6 wsX6_beginDay G A LL ad := C
  show XJ pv l ev _ sv mv args below meth cv G A LL ad _ 1 0 0 _ 0 [(0, .ref (ad o))] []
  refine x_aload_n C 0 dX6_beginDay_0 rfl rfl ?_
  refine x_iconst C dX6_beginDay_1 (v := 0) (by decide) ?_
  refine y_put C (T := TX6) (N := 12) (ty := .int) o 9 hin6 tyX6 tyX6_ok nmX6 hq.2.2.2.1 (hq.1 _) (hq.1 _) rfl (by decide) lk40 rfl rfl (by decide +kernel) rfl rfl (Nat.le_of_ble_eq_true rfl) dX6_beginDay_2 ?_
  refine x_aload_n C 0 dX6_beginDay_5 rfl rfl ?_
  refine x_Vi o C (k_X6_hasCome l G nR LL ad hF (s2 S o 9 0) o d b hq  hR ) gX6_beginDay_X6_hasCome rfl (by decide +kernel) ⟨(Nat.le_of_ble_eq_true rfl), (Nat.le_of_ble_eq_true rfl)⟩ ⟨(Nat.le_of_ble_eq_true rfl), (Nat.le_of_ble_eq_true rfl)⟩ hq.2.2.2.1 (hq.1 _) (T := TX6) (N := 12) rfl (n := 0) rfl (st := []) (Nat.le_of_ble_eq_true rfl) rfl dX6_beginDay_6 (fun _ _ hr9 => ?_)
  subst hr9
  refine x_if_ne C (tgt := 40) dX6_beginDay_9 (by decide) (fun c9 => ?_) (fun c9 => ?_)
  · replace c9 := bI_nz c9
    refine x_vret C hrt9 (s2 S o 9 0) ?_ rfl dX6_beginDay_40
    show _ = _
    simp [sqBegin]; simp_all
  · replace c9 := bI_z c9
    refine x_aload_n C 0 dX6_beginDay_12 rfl rfl ?_
    refine x_get C (T := TX6) (N := 12) (v := .int ((s2 S o 9 0) (o) 6)) o 6 hin6 hq.2.2.2.1 (hq.1 _) rfl (by decide) lk31 rfl rfl dX6_beginDay_13 ?_
    refine x_aload_n C 0 dX6_beginDay_16 rfl rfl ?_
    refine x_get C (T := TX6) (N := 12) (v := .ref (ad d)) o 4 hin6 hq.2.2.2.1 (hq.1 _) rfl (by decide) lk24 rfl rfl dX6_beginDay_17 ?_
    refine x_alen C d 0 hq.2.2.2.2.1 (hq.2.1 _) rfl (v := nI nR) rfl dX6_beginDay_20 ?_
    refine x_Ni C (k_X9_isPlace l G LL ad _ ((s2 S o 9 0) (o) 6) (nI nR)) gX6_beginDay_X9_isPlace_n54 rfl (by decide +kernel) C.2.2.1.2.1.2.2.2.2.1 ini9 sttX9_isPlace ⟨(Nat.le_of_ble_eq_true rfl), (Nat.le_of_ble_eq_true rfl)⟩ ⟨(Nat.le_of_ble_eq_true rfl), (Nat.le_of_ble_eq_true rfl)⟩ (n := 2) rfl (st := []) (Nat.le_of_ble_eq_true rfl) rfl dX6_beginDay_21 (fun _ _ hr9 => ?_)
    subst hr9
    refine x_if_eq C (tgt := 40) dX6_beginDay_24 (by decide) (fun c24 => ?_) (fun c24 => ?_)
    · replace c24 := bI_z c24
      refine x_vret C hrt9 (s2 S o 9 0) ?_ rfl dX6_beginDay_40
      show _ = _
      simp [sqBegin]; simp_all
    · replace c24 := bI_nz c24
      refine x_aload_n C 0 dX6_beginDay_27 rfl rfl ?_
      refine x_get C (T := TX6) (N := 12) (v := .ref (ad d)) o 4 hin6 hq.2.2.2.1 (hq.1 _) rfl (by decide) lk24 rfl rfl dX6_beginDay_28 ?_
      refine x_aload_n C 0 dX6_beginDay_31 rfl rfl ?_
      refine x_get C (T := TX6) (N := 12) (v := .int ((s2 S o 9 0) (o) 6)) o 6 hin6 hq.2.2.2.1 (hq.1 _) rfl (by decide) lk31 rfl rfl dX6_beginDay_32 ?_
      refine x_dup2 C dX6_beginDay_35 rfl rfl ?_
      refine x_iald C d hq.2.2.2.2.1 (hq.2.1 _) (vp_ok c24 (Nat.le_refl nR) (by omega)) (kk := ((s2 S o 9 0) (o) 6).toNatClampNeg) rfl dX6_beginDay_36 ?_
      refine x_iconst C dX6_beginDay_37 (v := 1) (by decide) ?_
      refine x_iadd C dX6_beginDay_38 ?_
      refine y_iast C d hq.2.2.2.2.1 (fun f => (hq.2.1 f)) (vp_ok c24 (Nat.le_refl nR) (by omega)) (kk := ((s2 S o 9 0) (o) 6).toNatClampNeg) rfl dX6_beginDay_39 ?_
      refine x_vret C hrt9 (s2 (s2 S o 9 0) d (((s2 S o 9 0) (o) 6).toNatClampNeg) (((s2 S o 9 0) (d) (((s2 S o 9 0) (o) 6).toNatClampNeg)) + 1)) ?_ rfl dX6_beginDay_40
      show _ = _
      simp [sqBegin]; simp_all

set_option maxHeartbeats 4000000 in
set_option maxRecDepth 100000 in
theorem k_X6_moveUp (l : Launch) (G : tf_G) (nR : Nat) (LL : List Nat) (ad : Nat → Nat) (hF : ∀ j ∈ tf_fix, j ∈ LL) (S : tf_M) (o d b : Nat) (hq : SqOk G nR LL ad o d b) (hR : nR ≤ 12) (t : Int32) : Cv l yX6_moveUp wsX6_moveUp ({ frames := 0, cells := 0, slots := 0, locals := 0 } : Room) G LL ad (pw G nR ad) (pw G nR ad S) [.ref (ad o), .int t] (fun u => u = sqMove nR S o t) := by
  have hin6 : ∀ w ∈ u_ws RX6 TX6 12, w ∈ wsX6_moveUp := by decide +kernel
  have lk31 : Cond.fieldLink RX6 31 "TributeFleet$Squadron" "reach" "I" ∈ wsX6_moveUp := by decide +kernel
  have lk24 : Cond.fieldLink RX6 24 "TributeFleet$Squadron" "daysIn" "[I" ∈ wsX6_moveUp := by decide +kernel
  have lk34 : Cond.fieldLink RX6 34 "TributeFleet$Squadron" "cameOn" "I" ∈ wsX6_moveUp := by decide +kernel
  refine cv_of (cc := cX6_moveUp) (maxL := 2) (ret := none) (by decide +kernel) rfl (Nat.le_of_ble_eq_true rfl) ?_
  intro pv ev sv mv args below meth cv A C hrt9 hnm9
  have C : Cx pv sv mv args meth cv cX6_moveUp 2 RX6 wsX6_moveUp G A LL ad := C
  show XJ pv l ev _ sv mv args below meth cv G A LL ad _ 2 0 0 _ 0 [(0, .ref (ad o)), (1, .int t)] []
  refine x_aload_n C 0 dX6_moveUp_0 rfl rfl ?_
  refine x_dup C dX6_moveUp_1 rfl ?_
  refine x_get C (T := TX6) (N := 12) (v := .int (S (o) 6)) o 6 hin6 hq.2.2.2.1 (hq.1 _) rfl (by decide) lk31 rfl rfl dX6_moveUp_2 ?_
  refine x_iconst C dX6_moveUp_5 (v := 1) (by decide) ?_
  refine x_iadd C dX6_moveUp_6 ?_
  refine y_put C (T := TX6) (N := 12) (ty := .int) o 6 hin6 tyX6 tyX6_ok nmX6 hq.2.2.2.1 (hq.1 _) (hq.1 _) rfl (by decide) lk31 rfl rfl (by decide +kernel) rfl rfl (Nat.le_of_ble_eq_true rfl) dX6_moveUp_7 ?_
  refine x_aload_n C 0 dX6_moveUp_10 rfl rfl ?_
  refine x_get C (T := TX6) (N := 12) (v := .int ((s2 S o 6 ((S (o) 6) + 1)) (o) 6)) o 6 hin6 hq.2.2.2.1 (hq.1 _) rfl (by decide) lk31 rfl rfl dX6_moveUp_11 ?_
  refine x_aload_n C 0 dX6_moveUp_14 rfl rfl ?_
  refine x_get C (T := TX6) (N := 12) (v := .ref (ad d)) o 4 hin6 hq.2.2.2.1 (hq.1 _) rfl (by decide) lk24 rfl rfl dX6_moveUp_15 ?_
  refine x_alen C d 0 hq.2.2.2.2.1 (hq.2.1 _) rfl (v := nI nR) rfl dX6_moveUp_18 ?_
  refine x_iconst C dX6_moveUp_19 (v := 1) (by decide) ?_
  refine x_isub C dX6_moveUp_20 ?_
  refine x_icmp_lt C (tgt := 29) dX6_moveUp_21 (by decide) (fun c21 => ?_) (fun c21 => ?_)
  · skip
    refine x_vret C hrt9 (s2 S o 6 ((S (o) 6) + 1)) ?_ rfl dX6_moveUp_29
    show _ = _
    rw [sqMove, if_neg (Int32.not_le.mpr c21)]
  · skip
    refine x_aload_n C 0 dX6_moveUp_24 rfl rfl ?_
    refine x_iload_n C 1 dX6_moveUp_25 rfl rfl ?_
    refine y_put C (T := TX6) (N := 12) (ty := .int) o 7 hin6 tyX6 tyX6_ok nmX6 hq.2.2.2.1 (hq.1 _) (hq.1 _) rfl (by decide) lk34 rfl rfl (by decide +kernel) rfl rfl (Nat.le_of_ble_eq_true rfl) dX6_moveUp_26 ?_
    refine x_vret C hrt9 (s2 (s2 S o 6 ((S (o) 6) + 1)) o 7 t) ?_ rfl dX6_moveUp_29
    show _ = _
    rw [sqMove, if_pos (Int32.not_lt.mp c21)]

set_option maxHeartbeats 4000000 in
set_option maxRecDepth 100000 in
theorem k_X6_stay (l : Launch) (G : tf_G) (nR : Nat) (LL : List Nat) (ad : Nat → Nat) (hF : ∀ j ∈ tf_fix, j ∈ LL) (S : tf_M) (o d b : Nat) (hq : SqOk G nR LL ad o d b) (hR : nR ≤ 12) (x : Int32) : Cv l yX6_stay wsX6_stay ({ frames := 1, cells := 0, slots := 0, locals := 21 } : Room) G LL ad (pw G nR ad) (pw G nR ad S) [.ref (ad o), .int x] (fun u => u = sqStay S o b x) := by
  have hin6 : ∀ w ∈ u_ws RX6 TX6 12, w ∈ wsX6_stay := by decide +kernel
  have lk40 : Cond.fieldLink RX6 40 "TributeFleet$Squadron" "why" "I" ∈ wsX6_stay := by decide +kernel
  have ini9 : Cond.initialized RX9 ∈ wsX6_stay := by decide +kernel
  have sttX9_isPlace : Cond.static yX9_isPlace ∈ wsX6_stay := by decide +kernel
  have lk28 : Cond.fieldLink RX6 28 "TributeFleet$Squadron" "daysBy" "[I" ∈ wsX6_stay := by decide +kernel
  refine cv_of (cc := cX6_stay) (maxL := 2) (ret := none) (by decide +kernel) rfl (Nat.le_of_ble_eq_true rfl) ?_
  intro pv ev sv mv args below meth cv A C hrt9 hnm9
  have C : Cx pv sv mv args meth cv cX6_stay 2 RX6 wsX6_stay G A LL ad := C
  show XJ pv l ev _ sv mv args below meth cv G A LL ad _ 2 0 0 _ 0 [(0, .ref (ad o)), (1, .int x)] []
  refine x_aload_n C 0 dX6_stay_0 rfl rfl ?_
  refine x_iload_n C 1 dX6_stay_1 rfl rfl ?_
  refine y_put C (T := TX6) (N := 12) (ty := .int) o 9 hin6 tyX6 tyX6_ok nmX6 hq.2.2.2.1 (hq.1 _) (hq.1 _) rfl (by decide) lk40 rfl rfl (by decide +kernel) rfl rfl (Nat.le_of_ble_eq_true rfl) dX6_stay_2 ?_
  refine x_iload_n C 1 dX6_stay_5 rfl rfl ?_
  refine x_iconst C dX6_stay_6 (v := 1) (by decide) ?_
  refine x_isub C dX6_stay_7 ?_
  refine x_iconst C dX6_stay_8 (v := 4) (by decide) ?_
  refine x_Ni C (k_X9_isPlace l G LL ad _ (x - 1) 4) gX6_stay_X9_isPlace_n54 rfl (by decide +kernel) C.2.2.1.2.1.2.2.2.2.1 ini9 sttX9_isPlace ⟨(Nat.le_of_ble_eq_true rfl), (Nat.le_of_ble_eq_true rfl)⟩ ⟨(Nat.le_of_ble_eq_true rfl), (Nat.le_of_ble_eq_true rfl)⟩ (n := 2) rfl (st := []) (Nat.le_of_ble_eq_true rfl) rfl dX6_stay_9 (fun _ _ hr9 => ?_)
  subst hr9
  refine x_if_eq C (tgt := 27) dX6_stay_12 (by decide) (fun c12 => ?_) (fun c12 => ?_)
  · replace c12 := bI_z c12
    refine x_vret C hrt9 (s2 S o 9 x) ?_ rfl dX6_stay_27
    show _ = _
    simp [sqStay]; simp_all
  · replace c12 := bI_nz c12
    refine x_aload_n C 0 dX6_stay_15 rfl rfl ?_
    refine x_get C (T := TX6) (N := 12) (v := .ref (ad b)) o 5 hin6 hq.2.2.2.1 (hq.1 _) rfl (by decide) lk28 rfl rfl dX6_stay_16 ?_
    refine x_iload_n C 1 dX6_stay_19 rfl rfl ?_
    refine x_iconst C dX6_stay_20 (v := 1) (by decide) ?_
    refine x_isub C dX6_stay_21 ?_
    refine x_dup2 C dX6_stay_22 rfl rfl ?_
    refine x_iald C b hq.2.2.2.2.2 (hq.2.2.1 _) (vp_ok4 c12) (kk := (x - 1).toNatClampNeg) rfl dX6_stay_23 ?_
    refine x_iconst C dX6_stay_24 (v := 1) (by decide) ?_
    refine x_iadd C dX6_stay_25 ?_
    refine y_iast C b hq.2.2.2.2.2 (fun f => (hq.2.2.1 f)) (vp_ok4 c12) (kk := (x - 1).toNatClampNeg) rfl dX6_stay_26 ?_
    refine x_vret C hrt9 (s2 (s2 S o 9 x) b ((x - 1).toNatClampNeg) (((s2 S o 9 x) (b) ((x - 1).toNatClampNeg)) + 1)) ?_ rfl dX6_stay_27
    show _ = _
    simp [sqStay]; simp_all

set_option maxHeartbeats 4000000 in
set_option maxRecDepth 100000 in
theorem k_X6_tellDays (l : Launch) (G : tf_G) (nR : Nat) (LL : List Nat) (ad : Nat → Nat) (hF : ∀ j ∈ tf_fix, j ∈ LL) (S : tf_M) (o d b : Nat) (hq : SqOk G nR LL ad o d b) (hR : nR ≤ 12) (x : Int32) : Ci l yX6_tellDays wsX6_tellDays ({ frames := 1, cells := 0, slots := 0, locals := 21 } : Room) G LL ad (fun (_ : Unit) => pw G nR ad S) (pw G nR ad S) [.ref (ad o), .int x] (fun r _ => r = sqDays nR S d b x) := by
  have hin6 : ∀ w ∈ u_ws RX6 TX6 12, w ∈ wsX6_tellDays := by decide +kernel
  have lk24 : Cond.fieldLink RX6 24 "TributeFleet$Squadron" "daysIn" "[I" ∈ wsX6_tellDays := by decide +kernel
  have ini9 : Cond.initialized RX9 ∈ wsX6_tellDays := by decide +kernel
  have sttX9_isPlace : Cond.static yX9_isPlace ∈ wsX6_tellDays := by decide +kernel
  have lk28 : Cond.fieldLink RX6 28 "TributeFleet$Squadron" "daysBy" "[I" ∈ wsX6_tellDays := by decide +kernel
  refine ci_of (cc := cX6_tellDays) (maxL := 2) (ret := (some .int)) (by decide +kernel) rfl (Nat.le_of_ble_eq_true rfl) ?_
  intro pv ev sv mv args below meth cv A C hrt9 hnm9
  have C : Cx pv sv mv args meth cv cX6_tellDays 2 RX6 wsX6_tellDays G A LL ad := C
  show XJ pv l ev _ sv mv args below meth cv G A LL ad _ 2 0 0 _ 0 [(0, .ref (ad o)), (1, .int x)] []
  refine x_iload_n C 1 dX6_tellDays_0 rfl rfl ?_
  refine x_bipush C dX6_tellDays_1 (v := 10) (by decide) ?_
  refine x_isub C dX6_tellDays_3 ?_
  refine x_aload_n C 0 dX6_tellDays_4 rfl rfl ?_
  refine x_get C (T := TX6) (N := 12) (v := .ref (ad d)) o 4 hin6 hq.2.2.2.1 (hq.1 _) rfl (by decide) lk24 rfl rfl dX6_tellDays_5 ?_
  refine x_alen C d 0 hq.2.2.2.2.1 (hq.2.1 _) rfl (v := nI nR) rfl dX6_tellDays_8 ?_
  refine x_Ni C (k_X9_isPlace l G LL ad _ (x - 10) (nI nR)) gX6_tellDays_X9_isPlace_n54 rfl (by decide +kernel) C.2.2.1.2.1.2.2.2.2.1 ini9 sttX9_isPlace ⟨(Nat.le_of_ble_eq_true rfl), (Nat.le_of_ble_eq_true rfl)⟩ ⟨(Nat.le_of_ble_eq_true rfl), (Nat.le_of_ble_eq_true rfl)⟩ (n := 2) rfl (st := []) (Nat.le_of_ble_eq_true rfl) rfl dX6_tellDays_9 (fun _ _ hr9 => ?_)
  subst hr9
  refine x_if_eq C (tgt := 25) dX6_tellDays_12 (by decide) (fun c12 => ?_) (fun c12 => ?_)
  · replace c12 := bI_z c12
    refine x_iload_n C 1 dX6_tellDays_25 rfl rfl ?_
    refine x_bipush C dX6_tellDays_26 (v := 31) (by decide) ?_
    refine x_isub C dX6_tellDays_28 ?_
    refine x_iconst C dX6_tellDays_29 (v := 4) (by decide) ?_
    refine x_Ni C (k_X9_isPlace l G LL ad _ (x - 31) 4) gX6_tellDays_X9_isPlace_n54 rfl (by decide +kernel) C.2.2.1.2.1.2.2.2.2.1 ini9 sttX9_isPlace ⟨(Nat.le_of_ble_eq_true rfl), (Nat.le_of_ble_eq_true rfl)⟩ ⟨(Nat.le_of_ble_eq_true rfl), (Nat.le_of_ble_eq_true rfl)⟩ (n := 2) rfl (st := []) (Nat.le_of_ble_eq_true rfl) rfl dX6_tellDays_30 (fun _ _ hr9 => ?_)
    subst hr9
    refine x_if_eq C (tgt := 46) dX6_tellDays_33 (by decide) (fun c33 => ?_) (fun c33 => ?_)
    · replace c33 := bI_z c33
      refine x_iconst C dX6_tellDays_46 (v := -1) (by decide) ?_
      refine x_iret C hrt9 () ?_ rfl dX6_tellDays_47
      show _ = _
      simp [sqDays]; simp_all
    · replace c33 := bI_nz c33
      refine x_aload_n C 0 dX6_tellDays_36 rfl rfl ?_
      refine x_get C (T := TX6) (N := 12) (v := .ref (ad b)) o 5 hin6 hq.2.2.2.1 (hq.1 _) rfl (by decide) lk28 rfl rfl dX6_tellDays_37 ?_
      refine x_iload_n C 1 dX6_tellDays_40 rfl rfl ?_
      refine x_bipush C dX6_tellDays_41 (v := 31) (by decide) ?_
      refine x_isub C dX6_tellDays_43 ?_
      refine x_iald C b hq.2.2.2.2.2 (hq.2.2.1 _) (vp_ok4 c33) (kk := (x - 31).toNatClampNeg) rfl dX6_tellDays_44 ?_
      refine x_iret C hrt9 () ?_ rfl dX6_tellDays_45
      show _ = _
      simp [sqDays]; simp_all
  · replace c12 := bI_nz c12
    refine x_aload_n C 0 dX6_tellDays_15 rfl rfl ?_
    refine x_get C (T := TX6) (N := 12) (v := .ref (ad d)) o 4 hin6 hq.2.2.2.1 (hq.1 _) rfl (by decide) lk24 rfl rfl dX6_tellDays_16 ?_
    refine x_iload_n C 1 dX6_tellDays_19 rfl rfl ?_
    refine x_bipush C dX6_tellDays_20 (v := 10) (by decide) ?_
    refine x_isub C dX6_tellDays_22 ?_
    refine x_iald C d hq.2.2.2.2.1 (hq.2.1 _) (vp_ok c12 (Nat.le_refl nR) (by omega)) (kk := (x - 10).toNatClampNeg) rfl dX6_tellDays_23 ?_
    refine x_iret C hrt9 () ?_ rfl dX6_tellDays_24
    show _ = _
    simp [sqDays]; simp_all

set_option maxHeartbeats 4000000 in
set_option maxRecDepth 100000 in
theorem k_X6_tell (l : Launch) (G : tf_G) (nR : Nat) (LL : List Nat) (ad : Nat → Nat) (hF : ∀ j ∈ tf_fix, j ∈ LL) (S : tf_M) (o d b : Nat) (hq : SqOk G nR LL ad o d b) (hR : nR ≤ 12) (x : Int32) : Ci l yX6_tell wsX6_tell ({ frames := 2, cells := 0, slots := 0, locals := 42 } : Room) G LL ad (fun (_ : Unit) => pw G nR ad S) (pw G nR ad S) [.ref (ad o), .int x] (fun r _ => r = sqTell nR S o d b x) := by
  have hin6 : ∀ w ∈ u_ws RX6 TX6 12, w ∈ wsX6_tell := by decide +kernel
  have lk31 : Cond.fieldLink RX6 31 "TributeFleet$Squadron" "reach" "I" ∈ wsX6_tell := by decide +kernel
  have lk34 : Cond.fieldLink RX6 34 "TributeFleet$Squadron" "cameOn" "I" ∈ wsX6_tell := by decide +kernel
  have lk40 : Cond.fieldLink RX6 40 "TributeFleet$Squadron" "why" "I" ∈ wsX6_tell := by decide +kernel
  have lk24 : Cond.fieldLink RX6 24 "TributeFleet$Squadron" "daysIn" "[I" ∈ wsX6_tell := by decide +kernel
  have ini9 : Cond.initialized RX9 ∈ wsX6_tell := by decide +kernel
  have sttX9_isPlace : Cond.static yX9_isPlace ∈ wsX6_tell := by decide +kernel
  have lk46 : Cond.fieldLink RX6 46 "TributeFleet$Squadron" "hasLeave" "Z" ∈ wsX6_tell := by decide +kernel
  refine ci_of (cc := cX6_tell) (maxL := 2) (ret := (some .int)) (by decide +kernel) rfl (Nat.le_of_ble_eq_true rfl) ?_
  intro pv ev sv mv args below meth cv A C hrt9 hnm9
  have C : Cx pv sv mv args meth cv cX6_tell 2 RX6 wsX6_tell G A LL ad := C
  show XJ pv l ev _ sv mv args below meth cv G A LL ad _ 2 0 0 _ 0 [(0, .ref (ad o)), (1, .int x)] []
  refine x_iload_n C 1 dX6_tell_0 rfl rfl ?_
  rcases sw_5 x with rfl | rfl | rfl | rfl | rfl | rfl | h9
  · skip
    refine x_tableIn C dX6_tell_1 (by decide) (by decide) (off := 39) (tgt := 40) rfl (by decide) ?_
    refine x_aload_n C 0 dX6_tell_40 rfl rfl ?_
    refine x_get C (T := TX6) (N := 12) (v := .int (S (o) 6)) o 6 hin6 hq.2.2.2.1 (hq.1 _) rfl (by decide) lk31 rfl rfl dX6_tell_41 ?_
    refine x_iret C hrt9 () ?_ rfl dX6_tell_44
    rfl
  · skip
    refine x_tableIn C dX6_tell_1 (by decide) (by decide) (off := 44) (tgt := 45) rfl (by decide) ?_
    refine x_aload_n C 0 dX6_tell_45 rfl rfl ?_
    refine x_get C (T := TX6) (N := 12) (v := .int (S (o) 7)) o 7 hin6 hq.2.2.2.1 (hq.1 _) rfl (by decide) lk34 rfl rfl dX6_tell_46 ?_
    refine x_iret C hrt9 () ?_ rfl dX6_tell_49
    rfl
  · skip
    refine x_tableIn C dX6_tell_1 (by decide) (by decide) (off := 49) (tgt := 50) rfl (by decide) ?_
    refine x_aload_n C 0 dX6_tell_50 rfl rfl ?_
    refine x_Vi o C (k_X6_bagsLeft l G nR LL ad hF S o d b hq  hR ) gX6_tell_X6_bagsLeft rfl (by decide +kernel) ⟨(Nat.le_of_ble_eq_true rfl), (Nat.le_of_ble_eq_true rfl)⟩ ⟨(Nat.le_of_ble_eq_true rfl), (Nat.le_of_ble_eq_true rfl)⟩ hq.2.2.2.1 (hq.1 _) (T := TX6) (N := 12) rfl (n := 0) rfl (st := []) (Nat.le_of_ble_eq_true rfl) rfl dX6_tell_51 (fun _ _ hr9 => ?_)
    subst hr9
    refine x_iret C hrt9 () ?_ rfl dX6_tell_54
    rfl
  · skip
    refine x_tableIn C dX6_tell_1 (by decide) (by decide) (off := 54) (tgt := 55) rfl (by decide) ?_
    refine x_aload_n C 0 dX6_tell_55 rfl rfl ?_
    refine x_get C (T := TX6) (N := 12) (v := .int (S (o) 9)) o 9 hin6 hq.2.2.2.1 (hq.1 _) rfl (by decide) lk40 rfl rfl dX6_tell_56 ?_
    refine x_iret C hrt9 () ?_ rfl dX6_tell_59
    rfl
  · skip
    refine x_tableIn C dX6_tell_1 (by decide) (by decide) (off := 59) (tgt := 60) rfl (by decide) ?_
    refine x_aload_n C 0 dX6_tell_60 rfl rfl ?_
    refine x_get C (T := TX6) (N := 12) (v := .int (S (o) 6)) o 6 hin6 hq.2.2.2.1 (hq.1 _) rfl (by decide) lk31 rfl rfl dX6_tell_61 ?_
    refine x_aload_n C 0 dX6_tell_64 rfl rfl ?_
    refine x_get C (T := TX6) (N := 12) (v := .ref (ad d)) o 4 hin6 hq.2.2.2.1 (hq.1 _) rfl (by decide) lk24 rfl rfl dX6_tell_65 ?_
    refine x_alen C d 0 hq.2.2.2.2.1 (hq.2.1 _) rfl (v := nI nR) rfl dX6_tell_68 ?_
    refine x_Ni C (k_X9_isPlace l G LL ad _ (S (o) 6) (nI nR)) gX6_tell_X9_isPlace_n54 rfl (by decide +kernel) C.2.2.1.2.1.2.2.2.2.1 ini9 sttX9_isPlace ⟨(Nat.le_of_ble_eq_true rfl), (Nat.le_of_ble_eq_true rfl)⟩ ⟨(Nat.le_of_ble_eq_true rfl), (Nat.le_of_ble_eq_true rfl)⟩ (n := 2) rfl (st := []) (Nat.le_of_ble_eq_true rfl) rfl dX6_tell_69 (fun _ _ hr9 => ?_)
    subst hr9
    refine x_if_eq C (tgt := 87) dX6_tell_72 (by decide) (fun c72 => ?_) (fun c72 => ?_)
    · replace c72 := bI_z c72
      refine x_iconst C dX6_tell_87 (v := -1) (by decide) ?_
      refine x_iret C hrt9 () ?_ rfl dX6_tell_88
      show _ = _
      simp [sqTell]; simp_all
    · replace c72 := bI_nz c72
      refine x_aload_n C 0 dX6_tell_75 rfl rfl ?_
      refine x_get C (T := TX6) (N := 12) (v := .ref (ad d)) o 4 hin6 hq.2.2.2.1 (hq.1 _) rfl (by decide) lk24 rfl rfl dX6_tell_76 ?_
      refine x_aload_n C 0 dX6_tell_79 rfl rfl ?_
      refine x_get C (T := TX6) (N := 12) (v := .int (S (o) 6)) o 6 hin6 hq.2.2.2.1 (hq.1 _) rfl (by decide) lk31 rfl rfl dX6_tell_80 ?_
      refine x_iald C d hq.2.2.2.2.1 (hq.2.1 _) (vp_ok c72 (Nat.le_refl nR) (by omega)) (kk := (S (o) 6).toNatClampNeg) rfl dX6_tell_83 ?_
      refine x_goto C (tgt := 88) dX6_tell_84 (by decide) ?_
      refine x_iret C hrt9 () ?_ rfl dX6_tell_88
      show _ = _
      simp [sqTell]; simp_all
  · skip
    refine x_tableIn C dX6_tell_1 (by decide) (by decide) (off := 88) (tgt := 89) rfl (by decide) ?_
    refine x_aload_n C 0 dX6_tell_89 rfl rfl ?_
    refine x_get C (T := TX6) (N := 12) (v := .int (S (o) 11)) o 11 hin6 hq.2.2.2.1 (hq.1 _) rfl (by decide) lk46 rfl rfl dX6_tell_90 ?_
    refine x_if_eq C (tgt := 100) dX6_tell_93 (by decide) (fun c93 => ?_) (fun c93 => ?_)
    · skip
      refine x_iconst C dX6_tell_100 (v := 0) (by decide) ?_
      refine x_iret C hrt9 () ?_ rfl dX6_tell_101
      show _ = _
      simp [sqTell]; simp_all
    · skip
      refine x_iconst C dX6_tell_96 (v := 1) (by decide) ?_
      refine x_goto C (tgt := 101) dX6_tell_97 (by decide) ?_
      refine x_iret C hrt9 () ?_ rfl dX6_tell_101
      show _ = _
      simp [sqTell]; simp_all
  · skip
    refine x_tableOut C dX6_tell_1 h9.1 (tgt := 102) (by decide) ?_
    refine x_aload_n C 0 dX6_tell_102 rfl rfl ?_
    refine x_iload_n C 1 dX6_tell_103 rfl rfl ?_
    refine x_Vi o C (k_X6_tellDays l G nR LL ad hF S o d b hq  hR x) gX6_tell_X6_tellDays rfl (by decide +kernel) ⟨(Nat.le_of_ble_eq_true rfl), (Nat.le_of_ble_eq_true rfl)⟩ ⟨(Nat.le_of_ble_eq_true rfl), (Nat.le_of_ble_eq_true rfl)⟩ hq.2.2.2.1 (hq.1 _) (T := TX6) (N := 12) rfl (n := 1) rfl (st := []) (Nat.le_of_ble_eq_true rfl) rfl dX6_tell_104 (fun _ _ hr9 => ?_)
    subst hr9
    refine x_iret C hrt9 () ?_ rfl dX6_tell_107
    show _ = _
    simp [sqTell, h9.2]

def sumI (f : Nat → Int32) : Nat → Int32
  | 0 => 0
  | k + 1 => sumI f k + f k
def overOf (nR : Nat) (S : tf_M) (d w2 : Nat) : Int32 := sumI (fun k => imax 0 (S d k - alwIn nR S w2 (nI k))) (nR - 1)
def shortOf (S : tf_M) (o o2 : Nat) : Int32 := imax 0 (S o 8 - S o 2 * S o2 4 / 1000)
def goodsOf (S : tf_M) (o o2 : Nat) : Int32 := imax 0 (S o 3 - S o2 5 * S o 1)
def judgeOf (nR : Nat) (S : tf_M) (o d o2 w2 : Nat) (x : Int32) : Int32 := if x = 0 then overOf nR S d w2 else if x = 1 then shortOf S o o2 else if x = 2 then goodsOf S o o2 else if x = 3 then S o2 6 * (overOf nR S d w2 + shortOf S o o2 + goodsOf S o o2) else -1
theorem nI_sub1 {n : Nat} (h : 1 ≤ n) : nI n - 1 = nI (n - 1) := by
  obtain ⟨k, rfl⟩ : ∃ k, n = k + 1 := ⟨n - 1, by omega⟩
  rw [nI_pred]
  rfl
set_option maxHeartbeats 4000000 in
set_option maxRecDepth 100000 in
theorem k_X6_daysOver (l : Launch) (G : tf_G) (nR : Nat) (LL : List Nat) (ad : Nat → Nat) (hF : ∀ j ∈ tf_fix, j ∈ LL) (S : tf_M) (o d b : Nat) (hq : SqOk G nR LL ad o d b) (o2 w2 : Nat) (hq2 : StOk G nR LL ad o2 w2) (hR : nR ≤ 12) (hR1 : 1 ≤ nR) : Ci l yX6_daysOver wsX6_daysOver ({ frames := 2, cells := 0, slots := 0, locals := 42 } : Room) G LL ad (fun (_ : Unit) => pw G nR ad S) (pw G nR ad S) [.ref (ad o), .ref (ad o2)] (fun r _ => r = overOf nR S d w2) := by
  have hin6 : ∀ w ∈ u_ws RX6 TX6 12, w ∈ wsX6_daysOver := by decide +kernel
  have lk24 : Cond.fieldLink RX6 24 "TributeFleet$Squadron" "daysIn" "[I" ∈ wsX6_daysOver := by decide +kernel
  have hm1max : Cond.methodLink RX6 84 Lib.Math.max.name ∈ wsX6_daysOver := by decide +kernel
  have hm2max : Cond.static Lib.Math.max.name ∈ wsX6_daysOver := by decide +kernel
  have hm3 : Cond.initialized "java/lang/Math" ∈ wsX6_daysOver := by decide +kernel
  have hm4max : Cond.code Lib.Math.max.name Lib.Math.max.code 2 (some .int) ∈ wsX6_daysOver := by decide +kernel
  refine ci_of (cc := cX6_daysOver) (maxL := 4) (ret := (some .int)) (by decide +kernel) rfl (Nat.le_of_ble_eq_true rfl) ?_
  intro pv ev sv mv args below meth cv A C hrt9 hnm9
  have C : Cx pv sv mv args meth cv cX6_daysOver 4 RX6 wsX6_daysOver G A LL ad := C
  show XJ pv l ev _ sv mv args below meth cv G A LL ad _ 4 0 0 _ 0 [(0, .ref (ad o)), (1, .ref (ad o2))] []
  refine x_iconst C dX6_daysOver_0 (v := 0) (by decide) ?_
  refine x_istore_n C (L1 := [(2, .int 0), (0, .ref (ad o)), (1, .ref (ad o2))]) dX6_daysOver_1 rfl (by decide) rfl ?_
  refine x_iconst C dX6_daysOver_2 (v := 0) (by decide) ?_
  refine x_istore_n C (L1 := [(3, .int 0), (2, .int 0), (0, .ref (ad o)), (1, .ref (ad o2))]) dX6_daysOver_3 rfl (by decide) rfl ?_
  have lp4 : ∀ (d9 : Nat) (k : Nat) (sm : Int32), (k ≤ nR - 1) → (sm = sumI (fun k => imax 0 (S d k - alwIn nR S w2 (nI k))) k) → (nR - 1) - k < d9 → XJ pv l ev ({ frames := 2, cells := 0, slots := 0, locals := 42 } : Room) sv mv args below meth cv G A LL ad (MQ below (va_Qi (fun r _ => r = overOf nR S d w2) (tf_B G LL ad (fun (_ : Unit) => pw G nR ad S)) A) args sv 0 0 A) 4 0 0 (pw G nR ad S) 4 [(0, .ref (ad o)), (1, .ref (ad o2)), (2, .int sm), (3, .int (nI k))] [] := by
    intro d9
    induction d9 with
    | zero => intro k sm hkn e0 hd9; omega
    | succ d9 ih4 =>
      intro k sm hkn e0 hd9
      have ih := ih4
      refine x_iload_n C 3 dX6_daysOver_4 rfl rfl ?_
      refine x_aload_n C 0 dX6_daysOver_5 rfl rfl ?_
      refine x_get C (T := TX6) (N := 12) (v := .ref (ad d)) o 4 hin6 hq.2.2.2.1 (hq.1 _) rfl (by decide) lk24 rfl rfl dX6_daysOver_6 ?_
      refine x_alen C d 0 hq.2.2.2.2.1 (hq.2.1 _) rfl (v := nI nR) rfl dX6_daysOver_9 ?_
      refine x_iconst C dX6_daysOver_10 (v := 1) (by decide) ?_
      refine x_isub C dX6_daysOver_11 ?_
      refine x_icmp_ge C (tgt := 40) dX6_daysOver_12 (by decide) (fun c12 => ?_) (fun c12 => ?_)
      · skip
        have hge : nR - 1 ≤ k := nI_ge' (by rw [← nI_sub1 hR1]; exact c12) (by omega)
        refine x_iload_n C 2 dX6_daysOver_40 rfl rfl ?_
        refine x_iret C hrt9 () ?_ rfl dX6_daysOver_41
        show _ = _
        rw [e0, show k = nR - 1 by omega]
        rfl
      · skip
        have hlt : k < nR - 1 := nI_lt' (by rw [← nI_sub1 hR1]; exact c12) (by omega)
        refine x_iload_n C 2 dX6_daysOver_15 rfl rfl ?_
        refine x_iconst C dX6_daysOver_16 (v := 0) (by decide) ?_
        refine x_aload_n C 0 dX6_daysOver_17 rfl rfl ?_
        refine x_get C (T := TX6) (N := 12) (v := .ref (ad d)) o 4 hin6 hq.2.2.2.1 (hq.1 _) rfl (by decide) lk24 rfl rfl dX6_daysOver_18 ?_
        refine x_iload_n C 3 dX6_daysOver_21 rfl rfl ?_
        refine x_iald C d hq.2.2.2.2.1 (hq.2.1 _) (nI_in (N := nR) (show k < nR by omega) (by omega)) (kk := k) (nI_clamp (by omega)) dX6_daysOver_22 ?_
        refine x_aload_n C 1 dX6_daysOver_23 rfl rfl ?_
        refine x_iload_n C 3 dX6_daysOver_24 rfl rfl ?_
        refine x_Vi o2 C (k_X7_allowedIn l G nR LL ad hF S o2 w2 hq2  hR (nI k)) gX6_daysOver_X7_allowedIn rfl (by decide +kernel) ⟨(Nat.le_of_ble_eq_true rfl), (Nat.le_of_ble_eq_true rfl)⟩ ⟨(Nat.le_of_ble_eq_true rfl), (Nat.le_of_ble_eq_true rfl)⟩ hq2.2.2.1 (hq2.1 _) (T := TX7) (N := 7) rfl (n := 1) rfl (st := [.int (S (d) (k)), .int 0, .int sm]) (Nat.le_of_ble_eq_true rfl) rfl dX6_daysOver_25 (fun _ _ hr9 => ?_)
        subst hr9
        refine x_isub C dX6_daysOver_28 ?_
        refine x_mmax C hm1max hm2max hm3 hm4max (Nat.le_of_ble_eq_true rfl) (Nat.le_of_ble_eq_true rfl) (Nat.le_of_ble_eq_true rfl) (Nat.le_of_ble_eq_true rfl) dX6_daysOver_29 ?_
        refine x_iadd C dX6_daysOver_32 ?_
        refine x_istore_n C (L1 := [(2, .int (sm + (if 0 < (S (d) (k)) - (alwIn nR S w2 (nI k)) then (S (d) (k)) - (alwIn nR S w2 (nI k)) else 0))), (0, .ref (ad o)), (1, .ref (ad o2)), (3, .int (nI k))]) dX6_daysOver_33 rfl (by decide) rfl ?_
        refine x_iinc C (L1 := [(3, .int ((nI k) + 1)), (2, .int (sm + (if 0 < (S (d) (k)) - (alwIn nR S w2 (nI k)) then (S (d) (k)) - (alwIn nR S w2 (nI k)) else 0))), (0, .ref (ad o)), (1, .ref (ad o2))]) 3 dX6_daysOver_34 rfl rfl (by decide) rfl ?_
        refine x_goto C (tgt := 4) dX6_daysOver_37 (by decide) ?_
        refine x_sub [2, 3, 1, 0] (L1 := [(0, .ref (ad o)), (1, .ref (ad o2)), (2, .int (sm + (if 0 < (S (d) (k)) - (alwIn nR S w2 (nI k)) then (S (d) (k)) - (alwIn nR S w2 (nI k)) else 0))), (3, .int ((nI k) + 1))]) rfl ?_
        rw [← nI_succ]
        exact ih (k + 1) _ (by omega) (by rw [e0]; rfl) (by omega)
  refine x_sub [2, 3, 1, 0] (L1 := [(0, .ref (ad o)), (1, .ref (ad o2)), (2, .int 0), (3, .int 0)]) rfl ?_
  exact lp4 nR 0 0 (Nat.zero_le _) rfl (by omega)

set_option maxHeartbeats 4000000 in
set_option maxRecDepth 100000 in
theorem k_X6_bagsShort (l : Launch) (G : tf_G) (nR : Nat) (LL : List Nat) (ad : Nat → Nat) (hF : ∀ j ∈ tf_fix, j ∈ LL) (S : tf_M) (o d b : Nat) (hq : SqOk G nR LL ad o d b) (o2 w2 : Nat) (hq2 : StOk G nR LL ad o2 w2) (hR : nR ≤ 12) : Ci l yX6_bagsShort wsX6_bagsShort ({ frames := 1, cells := 0, slots := 0, locals := 13 } : Room) G LL ad (fun (_ : Unit) => pw G nR ad S) (pw G nR ad S) [.ref (ad o), .ref (ad o2)] (fun r _ => r = shortOf S o o2) := by
  have hin6 : ∀ w ∈ u_ws RX6 TX6 12, w ∈ wsX6_bagsShort := by decide +kernel
  have lk37 : Cond.fieldLink RX6 37 "TributeFleet$Squadron" "lost" "I" ∈ wsX6_bagsShort := by decide +kernel
  have lk18 : Cond.fieldLink RX6 18 "TributeFleet$Squadron" "bags" "I" ∈ wsX6_bagsShort := by decide +kernel
  have hin7 : ∀ w ∈ u_ws RX7 TX7 7, w ∈ wsX6_bagsShort := by decide +kernel
  have lk90 : Cond.fieldLink RX6 90 "TributeFleet$Statute" "loss" "I" ∈ wsX6_bagsShort := by decide +kernel
  have hm1max : Cond.methodLink RX6 84 Lib.Math.max.name ∈ wsX6_bagsShort := by decide +kernel
  have hm2max : Cond.static Lib.Math.max.name ∈ wsX6_bagsShort := by decide +kernel
  have hm3 : Cond.initialized "java/lang/Math" ∈ wsX6_bagsShort := by decide +kernel
  have hm4max : Cond.code Lib.Math.max.name Lib.Math.max.code 2 (some .int) ∈ wsX6_bagsShort := by decide +kernel
  refine ci_of (cc := cX6_bagsShort) (maxL := 2) (ret := (some .int)) (by decide +kernel) rfl (Nat.le_of_ble_eq_true rfl) ?_
  intro pv ev sv mv args below meth cv A C hrt9 hnm9
  have C : Cx pv sv mv args meth cv cX6_bagsShort 2 RX6 wsX6_bagsShort G A LL ad := C
  show XJ pv l ev _ sv mv args below meth cv G A LL ad _ 2 0 0 _ 0 [(0, .ref (ad o)), (1, .ref (ad o2))] []
  refine x_iconst C dX6_bagsShort_0 (v := 0) (by decide) ?_
  refine x_aload_n C 0 dX6_bagsShort_1 rfl rfl ?_
  refine x_get C (T := TX6) (N := 12) (v := .int (S (o) 8)) o 8 hin6 hq.2.2.2.1 (hq.1 _) rfl (by decide) lk37 rfl rfl dX6_bagsShort_2 ?_
  refine x_aload_n C 0 dX6_bagsShort_5 rfl rfl ?_
  refine x_get C (T := TX6) (N := 12) (v := .int (S (o) 2)) o 2 hin6 hq.2.2.2.1 (hq.1 _) rfl (by decide) lk18 rfl rfl dX6_bagsShort_6 ?_
  refine x_aload_n C 1 dX6_bagsShort_9 rfl rfl ?_
  refine x_get C (T := TX7) (N := 7) (v := .int (S (o2) 4)) o2 4 hin7 hq2.2.2.1 (hq2.1 _) rfl (by decide) lk90 rfl rfl dX6_bagsShort_10 ?_
  refine x_imul C dX6_bagsShort_13 ?_
  refine x_sipush C dX6_bagsShort_14 (v := 1000) (by decide) ?_
  refine x_idiv C dX6_bagsShort_17 (by decide) ?_
  refine x_isub C dX6_bagsShort_18 ?_
  refine x_mmax C hm1max hm2max hm3 hm4max (Nat.le_of_ble_eq_true rfl) (Nat.le_of_ble_eq_true rfl) (Nat.le_of_ble_eq_true rfl) (Nat.le_of_ble_eq_true rfl) dX6_bagsShort_19 ?_
  refine x_iret C hrt9 () ?_ rfl dX6_bagsShort_22
  rfl

set_option maxHeartbeats 4000000 in
set_option maxRecDepth 100000 in
theorem k_X6_goodsOver (l : Launch) (G : tf_G) (nR : Nat) (LL : List Nat) (ad : Nat → Nat) (hF : ∀ j ∈ tf_fix, j ∈ LL) (S : tf_M) (o d b : Nat) (hq : SqOk G nR LL ad o d b) (o2 w2 : Nat) (hq2 : StOk G nR LL ad o2 w2) (hR : nR ≤ 12) : Ci l yX6_goodsOver wsX6_goodsOver ({ frames := 1, cells := 0, slots := 0, locals := 13 } : Room) G LL ad (fun (_ : Unit) => pw G nR ad S) (pw G nR ad S) [.ref (ad o), .ref (ad o2)] (fun r _ => r = goodsOf S o o2) := by
  have hin6 : ∀ w ∈ u_ws RX6 TX6 12, w ∈ wsX6_goodsOver := by decide +kernel
  have lk21 : Cond.fieldLink RX6 21 "TributeFleet$Squadron" "goods" "I" ∈ wsX6_goodsOver := by decide +kernel
  have hin7 : ∀ w ∈ u_ws RX7 TX7 7, w ∈ wsX6_goodsOver := by decide +kernel
  have lk93 : Cond.fieldLink RX6 93 "TributeFleet$Statute" "goodsABoat" "I" ∈ wsX6_goodsOver := by decide +kernel
  have lk15 : Cond.fieldLink RX6 15 "TributeFleet$Squadron" "boats" "I" ∈ wsX6_goodsOver := by decide +kernel
  have hm1max : Cond.methodLink RX6 84 Lib.Math.max.name ∈ wsX6_goodsOver := by decide +kernel
  have hm2max : Cond.static Lib.Math.max.name ∈ wsX6_goodsOver := by decide +kernel
  have hm3 : Cond.initialized "java/lang/Math" ∈ wsX6_goodsOver := by decide +kernel
  have hm4max : Cond.code Lib.Math.max.name Lib.Math.max.code 2 (some .int) ∈ wsX6_goodsOver := by decide +kernel
  refine ci_of (cc := cX6_goodsOver) (maxL := 2) (ret := (some .int)) (by decide +kernel) rfl (Nat.le_of_ble_eq_true rfl) ?_
  intro pv ev sv mv args below meth cv A C hrt9 hnm9
  have C : Cx pv sv mv args meth cv cX6_goodsOver 2 RX6 wsX6_goodsOver G A LL ad := C
  show XJ pv l ev _ sv mv args below meth cv G A LL ad _ 2 0 0 _ 0 [(0, .ref (ad o)), (1, .ref (ad o2))] []
  refine x_iconst C dX6_goodsOver_0 (v := 0) (by decide) ?_
  refine x_aload_n C 0 dX6_goodsOver_1 rfl rfl ?_
  refine x_get C (T := TX6) (N := 12) (v := .int (S (o) 3)) o 3 hin6 hq.2.2.2.1 (hq.1 _) rfl (by decide) lk21 rfl rfl dX6_goodsOver_2 ?_
  refine x_aload_n C 1 dX6_goodsOver_5 rfl rfl ?_
  refine x_get C (T := TX7) (N := 7) (v := .int (S (o2) 5)) o2 5 hin7 hq2.2.2.1 (hq2.1 _) rfl (by decide) lk93 rfl rfl dX6_goodsOver_6 ?_
  refine x_aload_n C 0 dX6_goodsOver_9 rfl rfl ?_
  refine x_get C (T := TX6) (N := 12) (v := .int (S (o) 1)) o 1 hin6 hq.2.2.2.1 (hq.1 _) rfl (by decide) lk15 rfl rfl dX6_goodsOver_10 ?_
  refine x_imul C dX6_goodsOver_13 ?_
  refine x_isub C dX6_goodsOver_14 ?_
  refine x_mmax C hm1max hm2max hm3 hm4max (Nat.le_of_ble_eq_true rfl) (Nat.le_of_ble_eq_true rfl) (Nat.le_of_ble_eq_true rfl) (Nat.le_of_ble_eq_true rfl) dX6_goodsOver_15 ?_
  refine x_iret C hrt9 () ?_ rfl dX6_goodsOver_18
  rfl

set_option maxHeartbeats 4000000 in
set_option maxRecDepth 100000 in
theorem k_X6_judgedBy (l : Launch) (G : tf_G) (nR : Nat) (LL : List Nat) (ad : Nat → Nat) (hF : ∀ j ∈ tf_fix, j ∈ LL) (S : tf_M) (o d b : Nat) (hq : SqOk G nR LL ad o d b) (o2 w2 : Nat) (hq2 : StOk G nR LL ad o2 w2) (hR : nR ≤ 12) (hR1 : 1 ≤ nR) (x : Int32) : Ci l yX6_judgedBy wsX6_judgedBy ({ frames := 3, cells := 0, slots := 0, locals := 65 } : Room) G LL ad (fun (_ : Unit) => pw G nR ad S) (pw G nR ad S) [.ref (ad o), .ref (ad o2), .int x] (fun r _ => r = judgeOf nR S o d o2 w2 x) := by
  have hin7 : ∀ w ∈ u_ws RX7 TX7 7, w ∈ wsX6_judgedBy := by decide +kernel
  have lk76 : Cond.fieldLink RX6 76 "TributeFleet$Statute" "fine" "I" ∈ wsX6_judgedBy := by decide +kernel
  refine ci_of (cc := cX6_judgedBy) (maxL := 3) (ret := (some .int)) (by decide +kernel) rfl (Nat.le_of_ble_eq_true rfl) ?_
  intro pv ev sv mv args below meth cv A C hrt9 hnm9
  have C : Cx pv sv mv args meth cv cX6_judgedBy 3 RX6 wsX6_judgedBy G A LL ad := C
  show XJ pv l ev _ sv mv args below meth cv G A LL ad _ 3 0 0 _ 0 [(0, .ref (ad o)), (1, .ref (ad o2)), (2, .int x)] []
  refine x_iload_n C 2 dX6_judgedBy_0 rfl rfl ?_
  rcases sw_3 x with rfl | rfl | rfl | rfl | h9
  · skip
    refine x_tableIn C dX6_judgedBy_1 (by decide) (by decide) (off := 31) (tgt := 32) rfl (by decide) ?_
    refine x_aload_n C 0 dX6_judgedBy_32 rfl rfl ?_
    refine x_aload_n C 1 dX6_judgedBy_33 rfl rfl ?_
    refine x_Vi o C (k_X6_daysOver l G nR LL ad hF S o d b hq o2 w2 hq2 hR  hR1) gX6_judgedBy_X6_daysOver rfl (by decide +kernel) ⟨(Nat.le_of_ble_eq_true rfl), (Nat.le_of_ble_eq_true rfl)⟩ ⟨(Nat.le_of_ble_eq_true rfl), (Nat.le_of_ble_eq_true rfl)⟩ hq.2.2.2.1 (hq.1 _) (T := TX6) (N := 12) rfl (n := 1) rfl (st := []) (Nat.le_of_ble_eq_true rfl) rfl dX6_judgedBy_34 (fun _ _ hr9 => ?_)
    subst hr9
    refine x_iret C hrt9 () ?_ rfl dX6_judgedBy_37
    rfl
  · skip
    refine x_tableIn C dX6_judgedBy_1 (by decide) (by decide) (off := 37) (tgt := 38) rfl (by decide) ?_
    refine x_aload_n C 0 dX6_judgedBy_38 rfl rfl ?_
    refine x_aload_n C 1 dX6_judgedBy_39 rfl rfl ?_
    refine x_Vi o C (k_X6_bagsShort l G nR LL ad hF S o d b hq o2 w2 hq2 hR ) gX6_judgedBy_X6_bagsShort rfl (by decide +kernel) ⟨(Nat.le_of_ble_eq_true rfl), (Nat.le_of_ble_eq_true rfl)⟩ ⟨(Nat.le_of_ble_eq_true rfl), (Nat.le_of_ble_eq_true rfl)⟩ hq.2.2.2.1 (hq.1 _) (T := TX6) (N := 12) rfl (n := 1) rfl (st := []) (Nat.le_of_ble_eq_true rfl) rfl dX6_judgedBy_40 (fun _ _ hr9 => ?_)
    subst hr9
    refine x_iret C hrt9 () ?_ rfl dX6_judgedBy_43
    rfl
  · skip
    refine x_tableIn C dX6_judgedBy_1 (by decide) (by decide) (off := 43) (tgt := 44) rfl (by decide) ?_
    refine x_aload_n C 0 dX6_judgedBy_44 rfl rfl ?_
    refine x_aload_n C 1 dX6_judgedBy_45 rfl rfl ?_
    refine x_Vi o C (k_X6_goodsOver l G nR LL ad hF S o d b hq o2 w2 hq2 hR ) gX6_judgedBy_X6_goodsOver rfl (by decide +kernel) ⟨(Nat.le_of_ble_eq_true rfl), (Nat.le_of_ble_eq_true rfl)⟩ ⟨(Nat.le_of_ble_eq_true rfl), (Nat.le_of_ble_eq_true rfl)⟩ hq.2.2.2.1 (hq.1 _) (T := TX6) (N := 12) rfl (n := 1) rfl (st := []) (Nat.le_of_ble_eq_true rfl) rfl dX6_judgedBy_46 (fun _ _ hr9 => ?_)
    subst hr9
    refine x_iret C hrt9 () ?_ rfl dX6_judgedBy_49
    rfl
  · skip
    refine x_tableIn C dX6_judgedBy_1 (by decide) (by decide) (off := 49) (tgt := 50) rfl (by decide) ?_
    refine x_aload_n C 1 dX6_judgedBy_50 rfl rfl ?_
    refine x_get C (T := TX7) (N := 7) (v := .int (S (o2) 6)) o2 6 hin7 hq2.2.2.1 (hq2.1 _) rfl (by decide) lk76 rfl rfl dX6_judgedBy_51 ?_
    refine x_aload_n C 0 dX6_judgedBy_54 rfl rfl ?_
    refine x_aload_n C 1 dX6_judgedBy_55 rfl rfl ?_
    refine x_Vi o C (k_X6_daysOver l G nR LL ad hF S o d b hq o2 w2 hq2 hR  hR1) gX6_judgedBy_X6_daysOver rfl (by decide +kernel) ⟨(Nat.le_of_ble_eq_true rfl), (Nat.le_of_ble_eq_true rfl)⟩ ⟨(Nat.le_of_ble_eq_true rfl), (Nat.le_of_ble_eq_true rfl)⟩ hq.2.2.2.1 (hq.1 _) (T := TX6) (N := 12) rfl (n := 1) rfl (st := [.int (S (o2) 6)]) (Nat.le_of_ble_eq_true rfl) rfl dX6_judgedBy_56 (fun _ _ hr9 => ?_)
    subst hr9
    refine x_aload_n C 0 dX6_judgedBy_59 rfl rfl ?_
    refine x_aload_n C 1 dX6_judgedBy_60 rfl rfl ?_
    refine x_Vi o C (k_X6_bagsShort l G nR LL ad hF S o d b hq o2 w2 hq2 hR ) gX6_judgedBy_X6_bagsShort rfl (by decide +kernel) ⟨(Nat.le_of_ble_eq_true rfl), (Nat.le_of_ble_eq_true rfl)⟩ ⟨(Nat.le_of_ble_eq_true rfl), (Nat.le_of_ble_eq_true rfl)⟩ hq.2.2.2.1 (hq.1 _) (T := TX6) (N := 12) rfl (n := 1) rfl (st := [.int (overOf nR S d w2), .int (S (o2) 6)]) (Nat.le_of_ble_eq_true rfl) rfl dX6_judgedBy_61 (fun _ _ hr9 => ?_)
    subst hr9
    refine x_iadd C dX6_judgedBy_64 ?_
    refine x_aload_n C 0 dX6_judgedBy_65 rfl rfl ?_
    refine x_aload_n C 1 dX6_judgedBy_66 rfl rfl ?_
    refine x_Vi o C (k_X6_goodsOver l G nR LL ad hF S o d b hq o2 w2 hq2 hR ) gX6_judgedBy_X6_goodsOver rfl (by decide +kernel) ⟨(Nat.le_of_ble_eq_true rfl), (Nat.le_of_ble_eq_true rfl)⟩ ⟨(Nat.le_of_ble_eq_true rfl), (Nat.le_of_ble_eq_true rfl)⟩ hq.2.2.2.1 (hq.1 _) (T := TX6) (N := 12) rfl (n := 1) rfl (st := [.int ((overOf nR S d w2) + (shortOf S o o2)), .int (S (o2) 6)]) (Nat.le_of_ble_eq_true rfl) rfl dX6_judgedBy_67 (fun _ _ hr9 => ?_)
    subst hr9
    refine x_iadd C dX6_judgedBy_70 ?_
    refine x_imul C dX6_judgedBy_71 ?_
    refine x_iret C hrt9 () ?_ rfl dX6_judgedBy_72
    rfl
  · skip
    refine x_tableOut C dX6_judgedBy_1 h9.1 (tgt := 73) (by decide) ?_
    refine x_iconst C dX6_judgedBy_73 (v := -1) (by decide) ?_
    refine x_iret C hrt9 () ?_ rfl dX6_judgedBy_74
    show _ = _
    simp [judgeOf, h9.2]

