/-! a day -/
def barOf (S : tf_M) (o : Nat) (bl ss : Int32) : Int32 := if icy (S 1 7) (S 1 8) (S o 6) (S 0 7) = true ∨ icy (S 1 7) (S 1 8) (S o 6 + 1) (S 0 7) = true then 1 else if tooLow S (S o 6 + 1) (S o 1) = true then 2 else if bl < S o 1 then 3 else if ¬ ss = 0 ∧ S o 11 = 0 then 4 else 0
def wkStep (nR : Nat) (a : Int32) (o : Nat) (z : tf_M × Int32 × Int32) : tf_M × Int32 × Int32 := if z.1 o 6 = a then (if barOf z.1 o z.2.1 z.2.2 = 0 then (sqMove nR (if isP a (z.1 1 0 - 1) = true then lkThru z.1 2 a (z.1 o 1) else z.1) o ((if isP a (z.1 1 0 - 1) = true then lkThru z.1 2 a (z.1 o 1) else z.1) 0 7), z.2.1 - z.1 o 1, z.2.2) else (sqStay z.1 o (o + 200) (barOf z.1 o z.2.1 z.2.2), z.2.1, 1)) else z
def wkAll (nR : Nat) (S : tf_M) (a : Int32) : Nat → tf_M × Int32 × Int32
  | 0 => (S, boatsOfL S a, 0)
  | p + 1 => wkStep nR a (100 + (S 9 p).toNatClampNeg) (wkAll nR S a p)
def wkDn (nR n : Nat) : Nat → tf_M → tf_M
  | 0, Z => Z
  | k + 1, Z => wkDn nR n k (wkAll nR Z (nI k) n).1
def dayS (nR n t nk : Nat) (S : tf_M) : tf_M :=
  let S2 := bgAll nR (lkAll S 2 5 6 4 nk) n
  let S3 := lineAll S2 (S2 (frc S2 (S2 0 7) t) 3) n
  let S4 := wkDn nR n (nR - 1) S3
  s2 S4 0 7 (S4 0 7 + 1)
theorem lkAll_ne {S : tf_M} {a b c d x : Nat} (h1 : x ≠ a) (h2 : x ≠ b) : ∀ k, lkAll S a b c d k x = S x := by
  intro k
  induction k with
  | zero => rfl
  | succ k ih => unfold lkAll lkStep; rw [s2_ne h1, s2_ne h2, ih]
theorem bgAll_ne {nR : Nat} {S : tf_M} {x : Nat} (h : x < 100 ∨ 300 ≤ x) : ∀ k, k ≤ 100 → bgAll nR S k x = S x := by
  intro k
  induction k with
  | zero => exact fun _ => rfl
  | succ k ih => intro hk; unfold bgAll; rw [sqBegin_ne (by omega) (by omega), ih (by omega)]
theorem sqMove_ne {nR : Nat} {S : tf_M} {o x : Nat} {t : Int32} (h : x ≠ o) : sqMove nR S o t x = S x := by
  unfold sqMove
  split
  · rw [s2_ne h, s2_ne h]
  · rw [s2_ne h]
theorem sqStay_ne {S : tf_M} {o b x : Nat} {t : Int32} (h : x ≠ o) (h2 : x ≠ b) : sqStay S o b t x = S x := by
  unfold sqStay
  split
  · rw [s2_ne h2, s2_ne h]
  · rw [s2_ne h]
theorem lkThru_ne {S : tf_M} {w x : Nat} {a b : Int32} (h : x ≠ w) : lkThru S w a b x = S x := by
  unfold lkThru
  rw [s2_ne h, s2_ne h]
theorem wkStep_ne {nR : Nat} {a : Int32} {o x : Nat} {z : tf_M × Int32 × Int32} (h2 : x ≠ 2) (ho : x ≠ o) (hb : x ≠ o + 200) : (wkStep nR a o z).1 x = z.1 x := by
  unfold wkStep
  split
  · split
    · dsimp only
      rw [sqMove_ne ho]
      split
      · rw [lkThru_ne h2]
      · rfl
    · dsimp only; rw [sqStay_ne ho hb]
  · rfl
/-- rows that a lock's work leaves -/
def wkKeep (x : Nat) : Prop := x ≠ 2 ∧ (x < 100 ∨ 200 ≤ x ∧ x < 300 ∨ 400 ≤ x)
theorem wkAll_ne {nR n : Nat} {S : tf_M} {a : Int32} {x : Nat} (hx : wkKeep x) (hl : LnOk S n n) (hn : n ≤ 12) : ∀ p, p ≤ n → (wkAll nR S a p).1 x = S x := by
  intro p
  obtain ⟨h2, h3⟩ := hx
  induction p with
  | zero => exact fun _ => rfl
  | succ p ih =>
    intro hp
    obtain ⟨j, hj, e⟩ := hl p (by omega)
    unfold wkAll
    rw [e, nI_clamp (by omega), wkStep_ne h2 (by omega) (by omega), ih (by omega)]
set_option maxHeartbeats 4000000 in
set_option maxRecDepth 100000 in
theorem k_X9_whatBars (l : Launch) (G : tf_G) (nR : Nat) (LL : List Nat) (ad : Nat → Nat) (hF : ∀ j ∈ tf_fix, j ∈ LL) (S : tf_M) (o d b : Nat) (hq : SqOk G nR LL ad o d b) (bl ss : Int32) (hn : S 1 0 = nI nR) (hR : nR ≤ 12) : Ci l yX9_whatBars wsX9_whatBars ({ frames := 3, cells := 0, slots := 0, locals := 64 } : Room) G LL ad (fun (_ : Unit) => pw G nR ad S) (pw G nR ad S) [.ref (ad 0), .ref (ad o), .int bl, .int ss] (fun x _ => x = barOf S o bl ss) := by
  have hin9 : ∀ w ∈ u_ws RX9 TX9 9, w ∈ wsX9_whatBars := by decide +kernel
  have lk23 : Cond.fieldLink RX9 23 "TributeFleet" "canal" "LTributeFleet$Canal;" ∈ wsX9_whatBars := by decide +kernel
  have hin6 : ∀ w ∈ u_ws RX6 TX6 12, w ∈ wsX9_whatBars := by decide +kernel
  have lk282 : Cond.fieldLink RX9 282 "TributeFleet$Squadron" "reach" "I" ∈ wsX9_whatBars := by decide +kernel
  have lk71 : Cond.fieldLink RX9 71 "TributeFleet" "today" "I" ∈ wsX9_whatBars := by decide +kernel
  have lk253 : Cond.fieldLink RX9 253 "TributeFleet$Squadron" "boats" "I" ∈ wsX9_whatBars := by decide +kernel
  have lk169 : Cond.fieldLink RX9 169 "TributeFleet$Squadron" "hasLeave" "Z" ∈ wsX9_whatBars := by decide +kernel
  refine ci_of (cc := cX9_whatBars) (maxL := 4) (ret := (some .int)) (by decide +kernel) rfl (Nat.le_of_ble_eq_true rfl) ?_
  intro pv ev sv mv args below meth cv A C hrt9 hnm9
  have C : Cx pv sv mv args meth cv cX9_whatBars 4 RX9 wsX9_whatBars G A LL ad := C
  show XJ pv l ev _ sv mv args below meth cv G A LL ad _ 4 0 0 _ 0 [(0, .ref (ad 0)), (1, .ref (ad o)), (2, .int bl), (3, .int ss)] []
  refine x_aload_n C 0 dX9_whatBars_0 rfl rfl ?_
  refine x_get C (T := TX9) (N := 9) (v := .ref (ad 1)) 0 0 hin9 (hF 0 (by decide)) (pf_0 G nR ad _) rfl (by decide) lk23 rfl rfl dX9_whatBars_1 ?_
  refine x_aload_n C 1 dX9_whatBars_4 rfl rfl ?_
  refine x_get C (T := TX6) (N := 12) (v := .int (S (o) 6)) o 6 hin6 hq.2.2.2.1 (hq.1 _) rfl (by decide) lk282 rfl rfl dX9_whatBars_5 ?_
  refine x_aload_n C 0 dX9_whatBars_8 rfl rfl ?_
  refine x_get C (T := TX9) (N := 9) (v := .int (S 0 7)) 0 7 hin9 (hF 0 (by decide)) (pf_0 G nR ad _) rfl (by decide) lk71 rfl rfl dX9_whatBars_9 ?_
  refine x_Vi 1 C (k_X0_isIcy l G nR LL ad hF S (S (o) 6) (S 0 7) ) gX9_whatBars_X0_isIcy rfl (by decide +kernel) ⟨(Nat.le_of_ble_eq_true rfl), (Nat.le_of_ble_eq_true rfl)⟩ ⟨(Nat.le_of_ble_eq_true rfl), (Nat.le_of_ble_eq_true rfl)⟩ (hF 1 (by decide)) (pf_1 G nR ad _) (T := TX0) (N := 9) rfl (n := 2) rfl (st := []) (Nat.le_of_ble_eq_true rfl) rfl dX9_whatBars_12 (fun _ _ hr9 => ?_)
  subst hr9
  refine x_if_ne C (tgt := 38) dX9_whatBars_15 (by decide) (fun c15 => ?_) (fun c15 => ?_)
  · replace c15 := bI_nz c15
    refine x_iconst C dX9_whatBars_38 (v := 1) (by decide) ?_
    refine x_iret C hrt9 () ?_ rfl dX9_whatBars_39
    show _ = _
    simp [barOf, c15]
  · replace c15 := bI_z c15
    refine x_aload_n C 0 dX9_whatBars_18 rfl rfl ?_
    refine x_get C (T := TX9) (N := 9) (v := .ref (ad 1)) 0 0 hin9 (hF 0 (by decide)) (pf_0 G nR ad _) rfl (by decide) lk23 rfl rfl dX9_whatBars_19 ?_
    refine x_aload_n C 1 dX9_whatBars_22 rfl rfl ?_
    refine x_get C (T := TX6) (N := 12) (v := .int (S (o) 6)) o 6 hin6 hq.2.2.2.1 (hq.1 _) rfl (by decide) lk282 rfl rfl dX9_whatBars_23 ?_
    refine x_iconst C dX9_whatBars_26 (v := 1) (by decide) ?_
    refine x_iadd C dX9_whatBars_27 ?_
    refine x_aload_n C 0 dX9_whatBars_28 rfl rfl ?_
    refine x_get C (T := TX9) (N := 9) (v := .int (S 0 7)) 0 7 hin9 (hF 0 (by decide)) (pf_0 G nR ad _) rfl (by decide) lk71 rfl rfl dX9_whatBars_29 ?_
    refine x_Vi 1 C (k_X0_isIcy l G nR LL ad hF S ((S (o) 6) + 1) (S 0 7) ) gX9_whatBars_X0_isIcy rfl (by decide +kernel) ⟨(Nat.le_of_ble_eq_true rfl), (Nat.le_of_ble_eq_true rfl)⟩ ⟨(Nat.le_of_ble_eq_true rfl), (Nat.le_of_ble_eq_true rfl)⟩ (hF 1 (by decide)) (pf_1 G nR ad _) (T := TX0) (N := 9) rfl (n := 2) rfl (st := []) (Nat.le_of_ble_eq_true rfl) rfl dX9_whatBars_32 (fun _ _ hr9 => ?_)
    subst hr9
    refine x_if_eq C (tgt := 40) dX9_whatBars_35 (by decide) (fun c35 => ?_) (fun c35 => ?_)
    · replace c35 := bI_z c35
      refine x_aload_n C 0 dX9_whatBars_40 rfl rfl ?_
      refine x_get C (T := TX9) (N := 9) (v := .ref (ad 1)) 0 0 hin9 (hF 0 (by decide)) (pf_0 G nR ad _) rfl (by decide) lk23 rfl rfl dX9_whatBars_41 ?_
      refine x_aload_n C 1 dX9_whatBars_44 rfl rfl ?_
      refine x_get C (T := TX6) (N := 12) (v := .int (S (o) 6)) o 6 hin6 hq.2.2.2.1 (hq.1 _) rfl (by decide) lk282 rfl rfl dX9_whatBars_45 ?_
      refine x_iconst C dX9_whatBars_48 (v := 1) (by decide) ?_
      refine x_iadd C dX9_whatBars_49 ?_
      refine x_aload_n C 1 dX9_whatBars_50 rfl rfl ?_
      refine x_get C (T := TX6) (N := 12) (v := .int (S (o) 1)) o 1 hin6 hq.2.2.2.1 (hq.1 _) rfl (by decide) lk253 rfl rfl dX9_whatBars_51 ?_
      refine x_Vi 1 C (k_X0_isTooLow l G nR LL ad hF S ((S (o) 6) + 1) (S (o) 1) hn hR) gX9_whatBars_X0_isTooLow rfl (by decide +kernel) ⟨(Nat.le_of_ble_eq_true rfl), (Nat.le_of_ble_eq_true rfl)⟩ ⟨(Nat.le_of_ble_eq_true rfl), (Nat.le_of_ble_eq_true rfl)⟩ (hF 1 (by decide)) (pf_1 G nR ad _) (T := TX0) (N := 9) rfl (n := 2) rfl (st := []) (Nat.le_of_ble_eq_true rfl) rfl dX9_whatBars_54 (fun _ _ hr9 => ?_)
      subst hr9
      refine x_if_eq C (tgt := 62) dX9_whatBars_57 (by decide) (fun c57 => ?_) (fun c57 => ?_)
      · replace c57 := bI_z c57
        refine x_iload_n C 2 dX9_whatBars_62 rfl rfl ?_
        refine x_aload_n C 1 dX9_whatBars_63 rfl rfl ?_
        refine x_get C (T := TX6) (N := 12) (v := .int (S (o) 1)) o 1 hin6 hq.2.2.2.1 (hq.1 _) rfl (by decide) lk253 rfl rfl dX9_whatBars_64 ?_
        refine x_icmp_ge C (tgt := 72) dX9_whatBars_67 (by decide) (fun c67 => ?_) (fun c67 => ?_)
        · skip
          refine x_iload_n C 3 dX9_whatBars_72 rfl rfl ?_
          refine x_if_eq C (tgt := 87) dX9_whatBars_73 (by decide) (fun c73 => ?_) (fun c73 => ?_)
          · skip
            refine x_iconst C dX9_whatBars_87 (v := 0) (by decide) ?_
            refine x_iret C hrt9 () ?_ rfl dX9_whatBars_88
            show _ = _
            simp [barOf, c15, c35, c57, c67, c73]
          · skip
            refine x_aload_n C 1 dX9_whatBars_76 rfl rfl ?_
            refine x_get C (T := TX6) (N := 12) (v := .int (S (o) 11)) o 11 hin6 hq.2.2.2.1 (hq.1 _) rfl (by decide) lk169 rfl rfl dX9_whatBars_77 ?_
            refine x_if_ne C (tgt := 87) dX9_whatBars_80 (by decide) (fun c80 => ?_) (fun c80 => ?_)
            · skip
              refine x_iconst C dX9_whatBars_87 (v := 0) (by decide) ?_
              refine x_iret C hrt9 () ?_ rfl dX9_whatBars_88
              show _ = _
              simp [barOf, c15, c35, c57, c67, c73, c80]
            · skip
              refine x_iconst C dX9_whatBars_83 (v := 4) (by decide) ?_
              refine x_goto C (tgt := 88) dX9_whatBars_84 (by decide) ?_
              refine x_iret C hrt9 () ?_ rfl dX9_whatBars_88
              show _ = _
              simp [barOf, c15, c35, c57, c67, c73, c80]
        · skip
          refine x_iconst C dX9_whatBars_70 (v := 3) (by decide) ?_
          refine x_iret C hrt9 () ?_ rfl dX9_whatBars_71
          show _ = _
          simp [barOf, c15, c35, c57, c67]
      · replace c57 := bI_nz c57
        refine x_iconst C dX9_whatBars_60 (v := 2) (by decide) ?_
        refine x_iret C hrt9 () ?_ rfl dX9_whatBars_61
        show _ = _
        simp [barOf, c15, c35, c57]
    · replace c35 := bI_nz c35
      refine x_iconst C dX9_whatBars_38 (v := 1) (by decide) ?_
      refine x_iret C hrt9 () ?_ rfl dX9_whatBars_39
      show _ = _
      simp [barOf, c15, c35]

set_option maxHeartbeats 4000000 in
set_option maxRecDepth 100000 in
theorem k_X9_workLock (l : Launch) (G : tf_G) (nR : Nat) (LL : List Nat) (ad : Nat → Nat) (hF : ∀ j ∈ tf_fix, j ∈ LL) (S : tf_M) (a : Int32) (n : Nat) (hfl : FlOk G nR LL ad S n) (hln : LnOk S n n) (hn : S 1 0 = nI nR) (hR : nR ≤ 12) (hR1 : 1 ≤ nR) : Cv l yX9_workLock wsX9_workLock ({ frames := 4, cells := 0, slots := 0, locals := 87 } : Room) G LL ad (pw G nR ad) (pw G nR ad S) [.ref (ad 0), .int a] (fun u => u = (wkAll nR S a n).1) := by
  have hin9 : ∀ w ∈ u_ws RX9 TX9 9, w ∈ wsX9_workLock := by decide +kernel
  have lk23 : Cond.fieldLink RX9 23 "TributeFleet" "canal" "LTributeFleet$Canal;" ∈ wsX9_workLock := by decide +kernel
  have lk30 : Cond.fieldLink RX9 30 "TributeFleet" "fleet" "LTributeFleet$Fleet;" ∈ wsX9_workLock := by decide +kernel
  have hin3 : ∀ w ∈ u_ws RX3 TX3 3, w ∈ wsX9_workLock := by decide +kernel
  have lk252 : Cond.fieldLink RX9 252 "TributeFleet$Fleet" "size" "I" ∈ wsX9_workLock := by decide +kernel
  have hin6 : ∀ w ∈ u_ws RX6 TX6 12, w ∈ wsX9_workLock := by decide +kernel
  have lk282 : Cond.fieldLink RX9 282 "TributeFleet$Squadron" "reach" "I" ∈ wsX9_workLock := by decide +kernel
  have lk253 : Cond.fieldLink RX9 253 "TributeFleet$Squadron" "boats" "I" ∈ wsX9_workLock := by decide +kernel
  have lk71 : Cond.fieldLink RX9 71 "TributeFleet" "today" "I" ∈ wsX9_workLock := by decide +kernel
  refine cv_of (cc := cX9_workLock) (maxL := 7) (ret := none) (by decide +kernel) rfl (Nat.le_of_ble_eq_true rfl) ?_
  intro pv ev sv mv args below meth cv A C hrt9 hnm9
  have C : Cx pv sv mv args meth cv cX9_workLock 7 RX9 wsX9_workLock G A LL ad := C
  show XJ pv l ev _ sv mv args below meth cv G A LL ad _ 7 0 0 _ 0 [(0, .ref (ad 0)), (1, .int a)] []
  refine x_aload_n C 0 dX9_workLock_0 rfl rfl ?_
  refine x_get C (T := TX9) (N := 9) (v := .ref (ad 1)) 0 0 hin9 (hF 0 (by decide)) (pf_0 G nR ad _) rfl (by decide) lk23 rfl rfl dX9_workLock_1 ?_
  refine x_iload_n C 1 dX9_workLock_4 rfl rfl ?_
  refine x_Vi 1 C (k_X0_boatsOf l G nR LL ad hF S a hn hR hR1) gX9_workLock_X0_boatsOf rfl (by decide +kernel) ⟨(Nat.le_of_ble_eq_true rfl), (Nat.le_of_ble_eq_true rfl)⟩ ⟨(Nat.le_of_ble_eq_true rfl), (Nat.le_of_ble_eq_true rfl)⟩ (hF 1 (by decide)) (pf_1 G nR ad _) (T := TX0) (N := 9) rfl (n := 1) rfl (st := []) (Nat.le_of_ble_eq_true rfl) rfl dX9_workLock_5 (fun _ _ hr9 => ?_)
  subst hr9
  refine x_istore_n C (L1 := [(2, .int (boatsOfL S a)), (0, .ref (ad 0)), (1, .int a)]) dX9_workLock_8 rfl (by decide) rfl ?_
  refine x_iconst C dX9_workLock_9 (v := 0) (by decide) ?_
  refine x_istore_n C (L1 := [(3, .int 0), (2, .int (boatsOfL S a)), (0, .ref (ad 0)), (1, .int a)]) dX9_workLock_10 rfl (by decide) rfl ?_
  refine x_iconst C dX9_workLock_11 (v := 0) (by decide) ?_
  refine x_istore C (L1 := [(4, .int 0), (3, .int 0), (2, .int (boatsOfL S a)), (0, .ref (ad 0)), (1, .int a)]) dX9_workLock_12 (by decide) rfl ?_
  have lp14 : ∀ (d9 : Nat) (z : Nat) (Z : tf_M) (bl ss : Int32), (z ≤ n) → ((Z, bl, ss) = wkAll nR S a z) → n - z < d9 → XJ pv l ev ({ frames := 4, cells := 0, slots := 0, locals := 87 } : Room) sv mv args below meth cv G A LL ad (MQ below (va_Qv (fun u => u = (wkAll nR S a n).1) (tf_B G LL ad (pw G nR ad)) A) args sv 0 0 A) 7 0 0 (pw G nR ad Z) 14 [(0, .ref (ad 0)), (1, .int a), (2, .int bl), (3, .int ss), (4, .int (nI z))] [] := by
    intro d9
    induction d9 with
    | zero => intro z Z bl ss hzn e0 hd9; omega
    | succ d9 ih14 =>
      intro z Z bl ss hzn e0 hd9
      have ih := ih14
      have hkeep : ∀ x, wkKeep x → Z x = S x := fun x hx => by
        have := wkAll_ne (nR := nR) (a := a) hx hln hfl.2.1 z hzn
        rw [← e0] at this
        exact this
      have hflZ : FlOk G nR LL ad Z n := hfl.keep (hkeep 7 ⟨by decide, Or.inl (by decide)⟩) (hkeep 8 ⟨by decide, Or.inl (by decide)⟩)
      have hnZ : Z 1 0 = nI nR := by rw [hkeep 1 ⟨by decide, Or.inl (by decide)⟩]; exact hn
      refine x_iload C 4 dX9_workLock_14 rfl ?_
      refine x_aload_n C 0 dX9_workLock_16 rfl rfl ?_
      refine x_get C (T := TX9) (N := 9) (v := .ref (ad 7)) 0 1 hin9 (hF 0 (by decide)) (pf_0 G nR ad _) rfl (by decide) lk30 rfl rfl dX9_workLock_17 ?_
      refine x_get C (T := TX3) (N := 3) (v := .int (Z 7 2)) 7 2 hin3 (hF 7 (by decide)) (pf_7 G nR ad _) rfl (by decide) lk252 rfl rfl dX9_workLock_20 ?_
      refine x_icmp_ge C (tgt := 117) dX9_workLock_23 (by decide) (fun c23 => ?_) (fun c23 => ?_)
      · skip
        have hge : n ≤ z := nI_ge' (by rw [← hflZ.1]; exact c23) (by have := hfl.2.1; omega)
        refine x_vret C hrt9 Z ?_ rfl dX9_workLock_117
        show _ = _
        rw [show n = z by omega, ← e0]
      · skip
        have hlt : z < n := nI_lt' (by rw [← hflZ.1]; exact c23) (by have := hfl.2.1; omega)
        obtain ⟨j, hj, hpj0⟩ := hln z hlt
        have hpj : Z 9 z = nI j := by rw [hkeep 9 ⟨by decide, Or.inl (by decide)⟩]; exact hpj0
        have hq := hfl.2.2.1 j hj
        refine x_aload_n C 0 dX9_workLock_26 rfl rfl ?_
        refine x_get C (T := TX9) (N := 9) (v := .ref (ad 7)) 0 1 hin9 (hF 0 (by decide)) (pf_0 G nR ad _) rfl (by decide) lk30 rfl rfl dX9_workLock_27 ?_
        refine x_iload C 4 dX9_workLock_30 rfl ?_
        refine x_Vq 7 C (k_X3_inLine l G nR LL ad hF Z n hflZ hR z j (by have := hfl.2.1; omega) hj hpj) gX9_workLock_X3_inLine rfl (by decide +kernel) ⟨(Nat.le_of_ble_eq_true rfl), (Nat.le_of_ble_eq_true rfl)⟩ ⟨(Nat.le_of_ble_eq_true rfl), (Nat.le_of_ble_eq_true rfl)⟩ (hF 7 (by decide)) (pf_7 G nR ad _) (T := TX3) (N := 3) rfl (n := 1) rfl (st := []) (Nat.le_of_ble_eq_true rfl) rfl dX9_workLock_32 (fun _ _ hr9 => ?_)
        subst hr9
        refine x_astore C (L1 := [(5, .ref (ad (100 + j))), (0, .ref (ad 0)), (1, .int a), (2, .int bl), (3, .int ss), (4, .int (nI z))]) dX9_workLock_35 (by decide) rfl ?_
        refine x_aload C 0 dX9_workLock_37 rfl ?_
        refine x_ifnull C dX9_workLock_39 ?_
        refine x_aload C 0 dX9_workLock_42 rfl ?_
        refine x_get C (T := TX6) (N := 12) (v := .int (Z (100 + j) 6)) (100 + j) 6 hin6 hq.2.2.2.1 (hq.1 _) rfl (by decide) lk282 rfl rfl dX9_workLock_44 ?_
        refine x_iload_n C 2 dX9_workLock_47 rfl rfl ?_
        refine x_icmp_eq C (tgt := 54) dX9_workLock_48 (by decide) (fun c48 => ?_) (fun c48 => ?_)
        · skip
          refine x_aload_n C 1 dX9_workLock_54 rfl rfl ?_
          refine x_aload C 0 dX9_workLock_55 rfl ?_
          refine x_iload_n C 3 dX9_workLock_57 rfl rfl ?_
          refine x_iload_n C 4 dX9_workLock_58 rfl rfl ?_
          refine x_Vi 0 C (k_X9_whatBars l G nR LL ad hF Z (100 + j) (200 + j) (300 + j) hq bl ss hnZ hR) gX9_workLock_X9_whatBars rfl (by decide +kernel) ⟨(Nat.le_of_ble_eq_true rfl), (Nat.le_of_ble_eq_true rfl)⟩ ⟨(Nat.le_of_ble_eq_true rfl), (Nat.le_of_ble_eq_true rfl)⟩ (hF 0 (by decide)) (pf_0 G nR ad _) (T := TX9) (N := 9) rfl (n := 3) rfl (st := []) (Nat.le_of_ble_eq_true rfl) rfl dX9_workLock_59 (fun _ _ hr9 => ?_)
          subst hr9
          refine x_istore C (L1 := [(6, .int (barOf Z (100 + j) bl ss)), (5, .ref (ad (100 + j))), (0, .ref (ad 0)), (1, .int a), (2, .int bl), (3, .int ss), (4, .int (nI z))]) dX9_workLock_62 (by decide) rfl ?_
          refine x_iload C 0 dX9_workLock_64 rfl ?_
          refine x_if_ne C (tgt := 102) dX9_workLock_66 (by decide) (fun c66 => ?_) (fun c66 => ?_)
          · skip
            refine x_iconst C dX9_workLock_102 (v := 1) (by decide) ?_
            refine x_istore_n C (L1 := [(3, .int 1), (6, .int (barOf Z (100 + j) bl ss)), (5, .ref (ad (100 + j))), (0, .ref (ad 0)), (1, .int a), (2, .int bl), (4, .int (nI z))]) dX9_workLock_103 rfl (by decide) rfl ?_
            refine x_aload C 2 dX9_workLock_104 rfl ?_
            refine x_iload C 1 dX9_workLock_106 rfl ?_
            refine x_Vv (100 + j) C (k_X6_stay l G nR LL ad hF Z (100 + j) (200 + j) (300 + j) hq hR (barOf Z (100 + j) bl ss)) gX9_workLock_X6_stay rfl (by decide +kernel) ⟨(Nat.le_of_ble_eq_true rfl), (Nat.le_of_ble_eq_true rfl)⟩ ⟨(Nat.le_of_ble_eq_true rfl), (Nat.le_of_ble_eq_true rfl)⟩ hq.2.2.2.1 (hq.1 _) (T := TX6) (N := 12) rfl (n := 1) rfl (st := []) (Nat.le_of_ble_eq_true rfl) rfl dX9_workLock_108 (fun _ hr9 => ?_)
            subst hr9
            refine x_iinc C (L1 := [(4, .int ((nI z) + 1)), (3, .int 1), (6, .int (barOf Z (100 + j) bl ss)), (5, .ref (ad (100 + j))), (0, .ref (ad 0)), (1, .int a), (2, .int bl)]) 6 dX9_workLock_111 rfl rfl (by decide) rfl ?_
            refine x_goto C (tgt := 14) dX9_workLock_114 (by decide) ?_
            refine x_sub [4, 5, 6, 1, 0] (L1 := [(0, .ref (ad 0)), (1, .int a), (2, .int bl), (3, .int 1), (4, .int ((nI z) + 1))]) rfl ?_
            rw [← nI_succ]
            have e1 : wkAll nR S a (z + 1) = ((sqStay Z (100 + j) (300 + j) (barOf Z (100 + j) bl ss)), bl, 1) := by
              show wkStep nR a (100 + (S 9 z).toNatClampNeg) (wkAll nR S a z) = _
              rw [hpj0, nI_clamp (by have := hfl.2.1; omega), ← e0]
              rw [wkStep, if_pos c48, if_neg c66, show 100 + j + 200 = 300 + j by omega]
            exact ih (z + 1) _ _ _ (by omega) e1.symm (by omega)
          · skip
            refine x_iload_n C 4 dX9_workLock_69 rfl rfl ?_
            refine x_aload C 1 dX9_workLock_70 rfl ?_
            refine x_get C (T := TX6) (N := 12) (v := .int (Z (100 + j) 1)) (100 + j) 1 hin6 hq.2.2.2.1 (hq.1 _) rfl (by decide) lk253 rfl rfl dX9_workLock_72 ?_
            refine x_isub C dX9_workLock_75 ?_
            refine x_istore_n C (L1 := [(2, .int (bl - (Z (100 + j) 1))), (6, .int (barOf Z (100 + j) bl ss)), (5, .ref (ad (100 + j))), (0, .ref (ad 0)), (1, .int a), (3, .int ss), (4, .int (nI z))]) dX9_workLock_76 rfl (by decide) rfl ?_
            refine x_aload_n C 3 dX9_workLock_77 rfl rfl ?_
            refine x_get C (T := TX9) (N := 9) (v := .ref (ad 1)) 0 0 hin9 (hF 0 (by decide)) (pf_0 G nR ad _) rfl (by decide) lk23 rfl rfl dX9_workLock_78 ?_
            refine x_iload_n C 4 dX9_workLock_81 rfl rfl ?_
            refine x_aload C 2 dX9_workLock_82 rfl ?_
            refine x_get C (T := TX6) (N := 12) (v := .int (Z (100 + j) 1)) (100 + j) 1 hin6 hq.2.2.2.1 (hq.1 _) rfl (by decide) lk253 rfl rfl dX9_workLock_84 ?_
            refine x_Vv 1 C (k_X0_letThrough l G nR LL ad hF Z a (Z (100 + j) 1) hnZ hR hR1) gX9_workLock_X0_letThrough rfl (by decide +kernel) ⟨(Nat.le_of_ble_eq_true rfl), (Nat.le_of_ble_eq_true rfl)⟩ ⟨(Nat.le_of_ble_eq_true rfl), (Nat.le_of_ble_eq_true rfl)⟩ (hF 1 (by decide)) (pf_1 G nR ad _) (T := TX0) (N := 9) rfl (n := 2) rfl (st := []) (Nat.le_of_ble_eq_true rfl) rfl dX9_workLock_87 (fun _ hr9 => ?_)
            subst hr9
            refine x_aload C 2 dX9_workLock_90 rfl ?_
            refine x_aload_n C 3 dX9_workLock_92 rfl rfl ?_
            refine x_get C (T := TX9) (N := 9) (v := .int ((if isP a (Z 1 0 - 1) = true then lkThru Z 2 a (Z (100 + j) 1) else Z) 0 7)) 0 7 hin9 (hF 0 (by decide)) (pf_0 G nR ad _) rfl (by decide) lk71 rfl rfl dX9_workLock_93 ?_
            refine x_Vv (100 + j) C (k_X6_moveUp l G nR LL ad hF (if isP a (Z 1 0 - 1) = true then lkThru Z 2 a (Z (100 + j) 1) else Z) (100 + j) (200 + j) (300 + j) hq hR ((if isP a (Z 1 0 - 1) = true then lkThru Z 2 a (Z (100 + j) 1) else Z) 0 7)) gX9_workLock_X6_moveUp rfl (by decide +kernel) ⟨(Nat.le_of_ble_eq_true rfl), (Nat.le_of_ble_eq_true rfl)⟩ ⟨(Nat.le_of_ble_eq_true rfl), (Nat.le_of_ble_eq_true rfl)⟩ hq.2.2.2.1 (hq.1 _) (T := TX6) (N := 12) rfl (n := 1) rfl (st := []) (Nat.le_of_ble_eq_true rfl) rfl dX9_workLock_96 (fun _ hr9 => ?_)
            subst hr9
            refine x_goto C (tgt := 111) dX9_workLock_99 (by decide) ?_
            refine x_iinc C (L1 := [(4, .int ((nI z) + 1)), (2, .int (bl - (Z (100 + j) 1))), (6, .int (barOf Z (100 + j) bl ss)), (5, .ref (ad (100 + j))), (0, .ref (ad 0)), (1, .int a), (3, .int ss)]) 6 dX9_workLock_111 rfl rfl (by decide) rfl ?_
            refine x_goto C (tgt := 14) dX9_workLock_114 (by decide) ?_
            refine x_sub [4, 5, 1, 6, 0] (L1 := [(0, .ref (ad 0)), (1, .int a), (2, .int (bl - (Z (100 + j) 1))), (3, .int ss), (4, .int ((nI z) + 1))]) rfl ?_
            rw [← nI_succ]
            have e1 : wkAll nR S a (z + 1) = ((sqMove nR (if isP a (Z 1 0 - 1) = true then lkThru Z 2 a (Z (100 + j) 1) else Z) (100 + j) ((if isP a (Z 1 0 - 1) = true then lkThru Z 2 a (Z (100 + j) 1) else Z) 0 7)), bl - (Z (100 + j) 1), ss) := by
              show wkStep nR a (100 + (S 9 z).toNatClampNeg) (wkAll nR S a z) = _
              rw [hpj0, nI_clamp (by have := hfl.2.1; omega), ← e0]
              rw [wkStep, if_pos c48, if_pos c66]
            exact ih (z + 1) _ _ _ (by omega) e1.symm (by omega)
        · skip
          refine x_goto C (tgt := 111) dX9_workLock_51 (by decide) ?_
          refine x_iinc C (L1 := [(4, .int ((nI z) + 1)), (5, .ref (ad (100 + j))), (0, .ref (ad 0)), (1, .int a), (2, .int bl), (3, .int ss)]) 5 dX9_workLock_111 rfl rfl (by decide) rfl ?_
          refine x_goto C (tgt := 14) dX9_workLock_114 (by decide) ?_
          refine x_sub [2, 3, 4, 5, 0] (L1 := [(0, .ref (ad 0)), (1, .int a), (2, .int bl), (3, .int ss), (4, .int ((nI z) + 1))]) rfl ?_
          rw [← nI_succ]
          have e1 : wkAll nR S a (z + 1) = (Z, bl, ss) := by
            show wkStep nR a (100 + (S 9 z).toNatClampNeg) (wkAll nR S a z) = _
            rw [hpj0, nI_clamp (by have := hfl.2.1; omega), ← e0]
            rw [wkStep, if_neg c48]
          exact ih (z + 1) _ _ _ (by omega) e1.symm (by omega)
  refine x_sub [3, 4, 2, 1, 0] (L1 := [(0, .ref (ad 0)), (1, .int a), (2, .int (boatsOfL S a)), (3, .int 0), (4, .int 0)]) rfl ?_
  exact lp14 (n + 1) 0 S _ 0 (Nat.zero_le _) rfl (by omega)

