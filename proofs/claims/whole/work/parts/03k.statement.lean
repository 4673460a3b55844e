/-! statements -/
def ordC (T : Nat → Int32) (N e : Nat) : Int32 := if wrdT T N e 5 = true then 0 else if wrdT T N e 6 = true then 1 else if wrdT T N e 7 = true then 2 else -1
def ordS (S : tf_M) (N e o : Nat) : tf_M := if ordC (S 11) N e = -1 then stepS S N e else s2 (stepS S N e) o 3 (ordC (S 11) N e)
/-- (it goes on, where its last token began to be sought, what it does to a statute) -/
def dysR (nR w : Nat) (T : Nat → Int32) (N e : Nat) : Bool × Nat × (tf_M → tf_M) :=
  if numR T N e = -1 then (false, e, fun S => S)
  else if wrdT T N (tkE T N e) 8 = false then (false, tkE T N e, fun S => S)
  else if numR T N (tkE T N (tkE T N e)) = -1 then (false, tkE T N (tkE T N e), fun S => S)
  else (true, tkE T N (tkE T N e), fun S => alwS nR S w (numR T N e) (numR T N (tkE T N (tkE T N e))))
set_option maxHeartbeats 4000000 in
set_option maxRecDepth 100000 in
theorem k_X4_takeOrder (l : Launch) (G : tf_G) (nR : Nat) (LL : List Nat) (ad : Nat → Nat) (hF : ∀ j ∈ tf_fix, j ∈ LL) (S : tf_M) (N e k : Nat) (hN : S 12 1 = nI N) (he : S 12 3 = nI e) (hk : S 10 1 = nI k) (hNk : N ≤ k) (hk4 : k ≤ 400) (heN : e ≤ N) (o w : Nat) (hq : StOk G nR LL ad o w) (hR : nR ≤ 12) : Ci l yX4_takeOrder wsX4_takeOrder ({ frames := 5, cells := 0, slots := 0, locals := 107 } : Room) G LL ad (pw G nR ad) (pw G nR ad S) [.ref (ad 12), .ref (ad o)] (fun x u => x = bI (!decide (ordC (S 11) N e = -1)) ∧ u = ordS S N e o) := by
  have hin7 : ∀ w ∈ u_ws RX7 TX7 7, w ∈ wsX4_takeOrder := by decide +kernel
  have lk74 : Cond.fieldLink RX4 74 "TributeFleet$Statute" "order" "I" ∈ wsX4_takeOrder := by decide +kernel
  refine ci_of (cc := cX4_takeOrder) (maxL := 2) (ret := (some .boolean)) (by decide +kernel) rfl (Nat.le_of_ble_eq_true rfl) ?_
  intro pv ev sv mv args below meth cv A C hrt9 hnm9
  have C : Cx pv sv mv args meth cv cX4_takeOrder 2 RX4 wsX4_takeOrder G A LL ad := C
  show XJ pv l ev _ sv mv args below meth cv G A LL ad _ 2 0 0 _ 0 [(0, .ref (ad 12)), (1, .ref (ad o))] []
  refine x_aload_n C 0 dX4_takeOrder_0 rfl rfl ?_
  refine x_Vv 12 C (k_X4_step l G nR LL ad hF S N e k hN he hk hNk hk4 heN) gX4_takeOrder_X4_step rfl (by decide +kernel) ⟨(Nat.le_of_ble_eq_true rfl), (Nat.le_of_ble_eq_true rfl)⟩ ⟨(Nat.le_of_ble_eq_true rfl), (Nat.le_of_ble_eq_true rfl)⟩ (hF 12 (by decide)) (pf_12 G nR ad _) (T := TX4) (N := 5) rfl (n := 0) rfl (st := []) (Nat.le_of_ble_eq_true rfl) rfl dX4_takeOrder_1 (fun _ hr9 => ?_)
  subst hr9
  refine x_aload_n C 0 dX4_takeOrder_4 rfl rfl ?_
  refine x_ldcS C (i := 5) (by decide) rfl rfl dX4_takeOrder_5 ?_
  refine x_Vi 12 C (k_X4_isWord l G nR LL ad hF (stepS S N e) (tkS (S 11) N e) (tkE (S 11) N e) k rfl rfl hk (tk_le heN).2.1 (Nat.le_trans (tk_le heN).2.2 hNk) hk4 5 (by decide)) gX4_takeOrder_X4_isWord rfl (by decide +kernel) ⟨(Nat.le_of_ble_eq_true rfl), (Nat.le_of_ble_eq_true rfl)⟩ ⟨(Nat.le_of_ble_eq_true rfl), (Nat.le_of_ble_eq_true rfl)⟩ (hF 12 (by decide)) (pf_12 G nR ad _) (T := TX4) (N := 5) rfl (n := 1) rfl (st := []) (Nat.le_of_ble_eq_true rfl) rfl dX4_takeOrder_7 (fun r9 _ hr9 => ?_)
  obtain rfl : r9 = bI (wrdT (S 11) N e 5) := hr9
  refine x_if_eq C (tgt := 21) dX4_takeOrder_10 (by decide) (fun c10 => ?_) (fun c10 => ?_)
  · replace c10 := bI_z c10
    refine x_aload_n C 0 dX4_takeOrder_21 rfl rfl ?_
    refine x_ldcS C (i := 6) (by decide) rfl rfl dX4_takeOrder_22 ?_
    refine x_Vi 12 C (k_X4_isWord l G nR LL ad hF (stepS S N e) (tkS (S 11) N e) (tkE (S 11) N e) k rfl rfl hk (tk_le heN).2.1 (Nat.le_trans (tk_le heN).2.2 hNk) hk4 6 (by decide)) gX4_takeOrder_X4_isWord rfl (by decide +kernel) ⟨(Nat.le_of_ble_eq_true rfl), (Nat.le_of_ble_eq_true rfl)⟩ ⟨(Nat.le_of_ble_eq_true rfl), (Nat.le_of_ble_eq_true rfl)⟩ (hF 12 (by decide)) (pf_12 G nR ad _) (T := TX4) (N := 5) rfl (n := 1) rfl (st := []) (Nat.le_of_ble_eq_true rfl) rfl dX4_takeOrder_24 (fun r9 _ hr9 => ?_)
    obtain rfl : r9 = bI (wrdT (S 11) N e 6) := hr9
    refine x_if_eq C (tgt := 38) dX4_takeOrder_27 (by decide) (fun c27 => ?_) (fun c27 => ?_)
    · replace c27 := bI_z c27
      refine x_aload_n C 0 dX4_takeOrder_38 rfl rfl ?_
      refine x_ldcS C (i := 7) (by decide) rfl rfl dX4_takeOrder_39 ?_
      refine x_Vi 12 C (k_X4_isWord l G nR LL ad hF (stepS S N e) (tkS (S 11) N e) (tkE (S 11) N e) k rfl rfl hk (tk_le heN).2.1 (Nat.le_trans (tk_le heN).2.2 hNk) hk4 7 (by decide)) gX4_takeOrder_X4_isWord rfl (by decide +kernel) ⟨(Nat.le_of_ble_eq_true rfl), (Nat.le_of_ble_eq_true rfl)⟩ ⟨(Nat.le_of_ble_eq_true rfl), (Nat.le_of_ble_eq_true rfl)⟩ (hF 12 (by decide)) (pf_12 G nR ad _) (T := TX4) (N := 5) rfl (n := 1) rfl (st := []) (Nat.le_of_ble_eq_true rfl) rfl dX4_takeOrder_41 (fun r9 _ hr9 => ?_)
      obtain rfl : r9 = bI (wrdT (S 11) N e 7) := hr9
      refine x_if_eq C (tgt := 55) dX4_takeOrder_44 (by decide) (fun c44 => ?_) (fun c44 => ?_)
      · replace c44 := bI_z c44
        refine x_iconst C dX4_takeOrder_55 (v := 0) (by decide) ?_
        refine x_zret C hrt9 (Or.inl rfl) (stepS S N e) ?_ rfl dX4_takeOrder_56
        have e1 : ordC (S 11) N e = -1 := by unfold ordC; rw [if_neg (by rw [c10]; decide), if_neg (by rw [c27]; decide), if_neg (by rw [c44]; decide)]
        refine ⟨?_, ?_⟩
        · rw [e1]; rfl
        · unfold ordS; rw [e1]; rfl
      · replace c44 := bI_nz c44
        refine x_aload_n C 1 dX4_takeOrder_47 rfl rfl ?_
        refine x_iconst C dX4_takeOrder_48 (v := 2) (by decide) ?_
        refine y_put C (T := TX7) (N := 7) (ty := .int) o 3 hin7 tyX7 tyX7_ok nmX7 hq.2.2.1 (hq.1 _) (hq.1 _) rfl (by decide) lk74 rfl rfl (by decide +kernel) rfl rfl (Nat.le_of_ble_eq_true rfl) dX4_takeOrder_49 ?_
        refine x_goto C (tgt := 57) dX4_takeOrder_52 (by decide) ?_
        refine x_iconst C dX4_takeOrder_57 (v := 1) (by decide) ?_
        refine x_zret C hrt9 (Or.inr rfl) (s2 (stepS S N e) o 3 2) ?_ rfl dX4_takeOrder_58
        have e1 : ordC (S 11) N e = 2 := by unfold ordC; rw [if_neg (by rw [c10]; decide), if_neg (by rw [c27]; decide), if_pos c44]
        refine ⟨?_, ?_⟩
        · rw [e1]; rfl
        · unfold ordS; rw [e1]; rfl
    · replace c27 := bI_nz c27
      refine x_aload_n C 1 dX4_takeOrder_30 rfl rfl ?_
      refine x_iconst C dX4_takeOrder_31 (v := 1) (by decide) ?_
      refine y_put C (T := TX7) (N := 7) (ty := .int) o 3 hin7 tyX7 tyX7_ok nmX7 hq.2.2.1 (hq.1 _) (hq.1 _) rfl (by decide) lk74 rfl rfl (by decide +kernel) rfl rfl (Nat.le_of_ble_eq_true rfl) dX4_takeOrder_32 ?_
      refine x_goto C (tgt := 57) dX4_takeOrder_35 (by decide) ?_
      refine x_iconst C dX4_takeOrder_57 (v := 1) (by decide) ?_
      refine x_zret C hrt9 (Or.inr rfl) (s2 (stepS S N e) o 3 1) ?_ rfl dX4_takeOrder_58
      have e1 : ordC (S 11) N e = 1 := by unfold ordC; rw [if_neg (by rw [c10]; decide), if_pos c27]
      refine ⟨?_, ?_⟩
      · rw [e1]; rfl
      · unfold ordS; rw [e1]; rfl
  · replace c10 := bI_nz c10
    refine x_aload_n C 1 dX4_takeOrder_13 rfl rfl ?_
    refine x_iconst C dX4_takeOrder_14 (v := 0) (by decide) ?_
    refine y_put C (T := TX7) (N := 7) (ty := .int) o 3 hin7 tyX7 tyX7_ok nmX7 hq.2.2.1 (hq.1 _) (hq.1 _) rfl (by decide) lk74 rfl rfl (by decide +kernel) rfl rfl (Nat.le_of_ble_eq_true rfl) dX4_takeOrder_15 ?_
    refine x_goto C (tgt := 57) dX4_takeOrder_18 (by decide) ?_
    refine x_iconst C dX4_takeOrder_57 (v := 1) (by decide) ?_
    refine x_zret C hrt9 (Or.inr rfl) (s2 (stepS S N e) o 3 0) ?_ rfl dX4_takeOrder_58
    have e1 : ordC (S 11) N e = 0 := by unfold ordC; rw [if_pos c10]
    refine ⟨?_, ?_⟩
    · rw [e1]; rfl
    · unfold ordS; rw [e1]; rfl

set_option maxHeartbeats 4000000 in
set_option maxRecDepth 100000 in
theorem k_X4_takeDays (l : Launch) (G : tf_G) (nR : Nat) (LL : List Nat) (ad : Nat → Nat) (hF : ∀ j ∈ tf_fix, j ∈ LL) (S : tf_M) (N e k : Nat) (hN : S 12 1 = nI N) (he : S 12 3 = nI e) (hk : S 10 1 = nI k) (hNk : N ≤ k) (hk4 : k ≤ 400) (heN : e ≤ N) (o w : Nat) (hq : StOk G nR LL ad o w) (hR : nR ≤ 12) : Ci l yX4_takeDays wsX4_takeDays ({ frames := 5, cells := 0, slots := 0, locals := 107 } : Room) G LL ad (pw G nR ad) (pw G nR ad S) [.ref (ad 12), .ref (ad o)] (fun x u => x = bI (dysR nR w (S 11) N e).1 ∧ u = (dysR nR w (S 11) N e).2.2 (stepS S N (dysR nR w (S 11) N e).2.1)) := by
  refine ci_of (cc := cX4_takeDays) (maxL := 4) (ret := (some .boolean)) (by decide +kernel) rfl (Nat.le_of_ble_eq_true rfl) ?_
  intro pv ev sv mv args below meth cv A C hrt9 hnm9
  have C : Cx pv sv mv args meth cv cX4_takeDays 4 RX4 wsX4_takeDays G A LL ad := C
  show XJ pv l ev _ sv mv args below meth cv G A LL ad _ 4 0 0 _ 0 [(0, .ref (ad 12)), (1, .ref (ad o))] []
  refine x_aload_n C 0 dX4_takeDays_0 rfl rfl ?_
  refine x_Vi 12 C (k_X4_takeNumber l G nR LL ad hF S N e k hN he hk hNk hk4 heN) gX4_takeDays_X4_takeNumber rfl (by decide +kernel) ⟨(Nat.le_of_ble_eq_true rfl), (Nat.le_of_ble_eq_true rfl)⟩ ⟨(Nat.le_of_ble_eq_true rfl), (Nat.le_of_ble_eq_true rfl)⟩ (hF 12 (by decide)) (pf_12 G nR ad _) (T := TX4) (N := 5) rfl (n := 0) rfl (st := []) (Nat.le_of_ble_eq_true rfl) rfl dX4_takeDays_1 (fun _ _ hr9 => ?_)
  obtain ⟨rfl, rfl⟩ := hr9
  refine x_istore_n C (L1 := [(2, .int (numR (S 11) N e)), (0, .ref (ad 12)), (1, .ref (ad o))]) dX4_takeDays_4 rfl (by decide) rfl ?_
  refine x_iload_n C 0 dX4_takeDays_5 rfl rfl ?_
  refine x_iconst C dX4_takeDays_6 (v := -1) (by decide) ?_
  refine x_icmp_ne C (tgt := 12) dX4_takeDays_7 (by decide) (fun c7 => ?_) (fun c7 => ?_)
  · skip
    refine x_aload_n C 1 dX4_takeDays_12 rfl rfl ?_
    refine x_Vv 12 C (k_X4_step l G nR LL ad hF (stepS S N e) N (tkE (S 11) N e) k hN rfl hk hNk hk4 (tk_le heN).2.2) gX4_takeDays_X4_step rfl (by decide +kernel) ⟨(Nat.le_of_ble_eq_true rfl), (Nat.le_of_ble_eq_true rfl)⟩ ⟨(Nat.le_of_ble_eq_true rfl), (Nat.le_of_ble_eq_true rfl)⟩ (hF 12 (by decide)) (pf_12 G nR ad _) (T := TX4) (N := 5) rfl (n := 0) rfl (st := []) (Nat.le_of_ble_eq_true rfl) rfl dX4_takeDays_13 (fun _ hr9 => ?_)
    subst hr9
    rw [stepS_stepS]
    refine x_aload_n C 1 dX4_takeDays_16 rfl rfl ?_
    refine x_ldcS C (i := 8) (by decide) rfl rfl dX4_takeDays_17 ?_
    refine x_Vi 12 C (k_X4_isWord l G nR LL ad hF (stepS S N (tkE (S 11) N e)) (tkS (S 11) N (tkE (S 11) N e)) (tkE (S 11) N (tkE (S 11) N e)) k rfl rfl hk (tk_le (tk_le heN).2.2).2.1 (Nat.le_trans (tk_le (tk_le heN).2.2).2.2 hNk) hk4 8 (by decide)) gX4_takeDays_X4_isWord rfl (by decide +kernel) ⟨(Nat.le_of_ble_eq_true rfl), (Nat.le_of_ble_eq_true rfl)⟩ ⟨(Nat.le_of_ble_eq_true rfl), (Nat.le_of_ble_eq_true rfl)⟩ (hF 12 (by decide)) (pf_12 G nR ad _) (T := TX4) (N := 5) rfl (n := 1) rfl (st := []) (Nat.le_of_ble_eq_true rfl) rfl dX4_takeDays_19 (fun r9 _ hr9 => ?_)
    obtain rfl : r9 = bI (wrdT (S 11) N (tkE (S 11) N e) 8) := hr9
    refine x_if_ne C (tgt := 27) dX4_takeDays_22 (by decide) (fun c22 => ?_) (fun c22 => ?_)
    · replace c22 := bI_nz c22
      refine x_aload_n C 1 dX4_takeDays_27 rfl rfl ?_
      refine x_Vi 12 C (k_X4_takeNumber l G nR LL ad hF (stepS S N (tkE (S 11) N e)) N (tkE (S 11) N (tkE (S 11) N e)) k hN rfl hk hNk hk4 (tk_le (tk_le heN).2.2).2.2) gX4_takeDays_X4_takeNumber rfl (by decide +kernel) ⟨(Nat.le_of_ble_eq_true rfl), (Nat.le_of_ble_eq_true rfl)⟩ ⟨(Nat.le_of_ble_eq_true rfl), (Nat.le_of_ble_eq_true rfl)⟩ (hF 12 (by decide)) (pf_12 G nR ad _) (T := TX4) (N := 5) rfl (n := 0) rfl (st := []) (Nat.le_of_ble_eq_true rfl) rfl dX4_takeDays_28 (fun r9 u9 hr9 => ?_)
      obtain ⟨rfl, rfl⟩ : r9 = numR (S 11) N (tkE (S 11) N (tkE (S 11) N e)) ∧ u9 = stepS S N (tkE (S 11) N (tkE (S 11) N e)) := ⟨hr9.1, by rw [hr9.2, stepS_stepS]⟩
      refine x_istore_n C (L1 := [(3, .int (numR (S 11) N (tkE (S 11) N (tkE (S 11) N e)))), (2, .int (numR (S 11) N e)), (0, .ref (ad 12)), (1, .ref (ad o))]) dX4_takeDays_31 rfl (by decide) rfl ?_
      refine x_iload_n C 0 dX4_takeDays_32 rfl rfl ?_
      refine x_iconst C dX4_takeDays_33 (v := -1) (by decide) ?_
      refine x_icmp_ne C (tgt := 39) dX4_takeDays_34 (by decide) (fun c34 => ?_) (fun c34 => ?_)
      · skip
        refine x_aload_n C 3 dX4_takeDays_39 rfl rfl ?_
        refine x_iload_n C 1 dX4_takeDays_40 rfl rfl ?_
        refine x_iload_n C 0 dX4_takeDays_41 rfl rfl ?_
        refine x_Vv o C (k_X7_allow l G nR LL ad hF (stepS S N (tkE (S 11) N (tkE (S 11) N e))) o w hq hR (numR (S 11) N e) (numR (S 11) N (tkE (S 11) N (tkE (S 11) N e)))) gX4_takeDays_X7_allow rfl (by decide +kernel) ⟨(Nat.le_of_ble_eq_true rfl), (Nat.le_of_ble_eq_true rfl)⟩ ⟨(Nat.le_of_ble_eq_true rfl), (Nat.le_of_ble_eq_true rfl)⟩ hq.2.2.1 (hq.1 _) (T := TX7) (N := 7) rfl (n := 2) rfl (st := []) (Nat.le_of_ble_eq_true rfl) rfl dX4_takeDays_42 (fun _ hr9 => ?_)
        subst hr9
        refine x_iconst C dX4_takeDays_45 (v := 1) (by decide) ?_
        refine x_zret C hrt9 (Or.inr rfl) (alwS nR (stepS S N (tkE (S 11) N (tkE (S 11) N e))) w (numR (S 11) N e) (numR (S 11) N (tkE (S 11) N (tkE (S 11) N e)))) ?_ rfl dX4_takeDays_46
        refine ⟨?_, ?_⟩
        · unfold dysR; rw [if_neg c7, if_neg (by rw [c22]; decide), if_neg c34]; rfl
        · unfold dysR; rw [if_neg c7, if_neg (by rw [c22]; decide), if_neg c34]
      · skip
        refine x_iconst C dX4_takeDays_37 (v := 0) (by decide) ?_
        refine x_zret C hrt9 (Or.inl rfl) (stepS S N (tkE (S 11) N (tkE (S 11) N e))) ?_ rfl dX4_takeDays_38
        refine ⟨?_, ?_⟩
        · unfold dysR; rw [if_neg c7, if_neg (by rw [c22]; decide), if_pos c34]; rfl
        · unfold dysR; rw [if_neg c7, if_neg (by rw [c22]; decide), if_pos c34]
    · replace c22 := bI_z c22
      refine x_iconst C dX4_takeDays_25 (v := 0) (by decide) ?_
      refine x_zret C hrt9 (Or.inl rfl) (stepS S N (tkE (S 11) N e)) ?_ rfl dX4_takeDays_26
      refine ⟨?_, ?_⟩
      · unfold dysR; rw [if_neg c7, if_pos c22]; rfl
      · unfold dysR; rw [if_neg c7, if_pos c22]
  · skip
    refine x_iconst C dX4_takeDays_10 (v := 0) (by decide) ?_
    refine x_zret C hrt9 (Or.inl rfl) (stepS S N e) ?_ rfl dX4_takeDays_11
    refine ⟨?_, ?_⟩
    · unfold dysR; rw [if_pos c7]; rfl
    · unfold dysR; rw [if_pos c7]

