/-! statements -/
def ordC (T : Nat → Int32) (N e : Nat) : Int32 := if wrdT T N e 5 = true then 0 else if wrdT T N e 6 = true then 1 else if wrdT T N e 7 = true then 2 else -1
def ordS (S : tf_M) (N e o : Nat) : tf_M := if ordC (S 11) N e = -1 then stepS S N e else s2 (stepS S N e) o 3 (ordC (S 11) N e)
/-- (it goes on, where its last token began to be sought, what it does to a statute) -/
def dysR (nR w : Nat) (T : Nat → Int32) (N e : Nat) : Bool × Nat × (tf_M → tf_M) :=
  if numR T N e = -1 then (false, e, fun S => S)
  else if wrdT T N (tkE T N e) 8 = false then (false, tkE T N e, fun S => S)
  else if numR T N (tkE T N (tkE T N e)) = -1 then (false, tkE T N (tkE T N e), fun S => S)
  else (true, tkE T N (tkE T N e), fun S => alwS nR S w (numR T N e) (numR T N (tkE T N (tkE T N e))))
set_option maxHeartbeats 4000000 in
set_option maxRecDepth 100000 in
theorem k_X4_takeOrder (l : Launch) (G : tf_G) (nR : Nat) (LL : List Nat) (ad : Nat → Nat) (hF : ∀ j ∈ tf_fix, j ∈ LL) (S : tf_M) (N e k : Nat) (hN : S 12 1 = nI N) (he : S 12 3 = nI e) (hk : S 10 1 = nI k) (hNk : N ≤ k) (hk4 : k ≤ 400) (heN : e ≤ N) (o w : Nat) (hq : StOk G nR LL ad o w) (hR : nR ≤ 12) : Ci l yX4_takeOrder wsX4_takeOrder ({ frames := 5, cells := 0, slots := 0, locals := 107 } : Room) G LL ad (pw G nR ad) (pw G nR ad S) [.ref (ad 12), .ref (ad o)] (fun x u => x = bI (!decide (ordC (S 11) N e = -1)) ∧ u = ordS S N e o) := by
  have hin7 : ∀ w ∈ u_ws RX7 TX7 7, w ∈ wsX4_takeOrder := by decide +kernel
  have lk74 : Cond.fieldLink RX4 74 "TributeFleet$Statute" "order" "I" ∈ wsX4_takeOrder := by decide +kernel
  refine ci_of (cc := cX4_takeOrder) (maxL := 2) (ret := (some .boolean)) (by decide +kernel) rfl (Nat.le_of_ble_eq_true rfl) ?_
  intro pv ev sv mv args below meth cv A C hrt9 hnm9
  have C : Cx pv sv mv args meth cv cX4_takeOrder 2 RX4 wsX4_takeOrder G A LL ad := C
  show XJ pv l ev _ sv mv args below meth cv G A LL ad _ 2 0 0 _ 0 [(0, .ref (ad 12)), (1, .ref (ad o))] []
  refine x_aload_n C 0 dX4_takeOrder_0 rfl rfl ?_
  refine x_Vv 12 C (k_X4_step l G nR LL ad hF S N e k hN he hk hNk hk4 heN) gX4_takeOrder_X4_step rfl (by decide +kernel) ⟨(Nat.le_of_ble_eq_true rfl), (Nat.le_of_ble_eq_true rfl)⟩ ⟨(Nat.le_of_ble_eq_true rfl), (Nat.le_of_ble_eq_true rfl)⟩ (hF 12 (by decide)) (pf_12 G nR ad _) (T := TX4) (N := 5) rfl (n := 0) rfl (st := []) (Nat.le_of_ble_eq_true rfl) rfl dX4_takeOrder_1 (fun _ hr9 => ?_)
  subst hr9
  refine x_aload_n C 0 dX4_takeOrder_4 rfl rfl ?_
  refine x_ldcS C (i := 5) (by decide) rfl rfl dX4_takeOrder_5 ?_
  refine x_Vi 12 C (k_X4_isWord l G nR LL ad hF (stepS S N e) (tkS (S 11) N e) (tkE (S 11) N e) k rfl rfl hk (tk_le heN).2.1 (Nat.le_trans (tk_le heN).2.2 hNk) hk4 5 (by decide)) gX4_takeOrder_X4_isWord rfl (by decide +kernel) ⟨(Nat.le_of_ble_eq_true rfl), (Nat.le_of_ble_eq_true rfl)⟩ ⟨(Nat.le_of_ble_eq_true rfl), (Nat.le_of_ble_eq_true rfl)⟩ (hF 12 (by decide)) (pf_12 G nR ad _) (T := TX4) (N := 5) rfl (n := 1) rfl (st := []) (Nat.le_of_ble_eq_true rfl) rfl dX4_takeOrder_7 (fun r9 _ hr9 => ?_)
  obtain rfl : r9 = bI (wrdT (S 11) N e 5) := hr9
  refine x_if_eq C (tgt := 21) dX4_takeOrder_10 (by decide) (fun c10 => ?_) (fun c10 => ?_)
  · replace c10 := bI_z c10
    refine x_aload_n C 0 dX4_takeOrder_21 rfl rfl ?_
    refine x_ldcS C (i := 6) (by decide) rfl rfl dX4_takeOrder_22 ?_
    refine x_Vi 12 C (k_X4_isWord l G nR LL ad hF (stepS S N e) (tkS (S 11) N e) (tkE (S 11) N e) k rfl rfl hk (tk_le heN).2.1 (Nat.le_trans (tk_le heN).2.2 hNk) hk4 6 (by decide)) gX4_takeOrder_X4_isWord rfl (by decide +kernel) ⟨(Nat.le_of_ble_eq_true rfl), (Nat.le_of_ble_eq_true rfl)⟩ ⟨(Nat.le_of_ble_eq_true rfl), (Nat.le_of_ble_eq_true rfl)⟩ (hF 12 (by decide)) (pf_12 G nR ad _) (T := TX4) (N := 5) rfl (n := 1) rfl (st := []) (Nat.le_of_ble_eq_true rfl) rfl dX4_takeOrder_24 (fun r9 _ hr9 => ?_)
    obtain rfl : r9 = bI (wrdT (S 11) N e 6) := hr9
    refine x_if_eq C (tgt := 38) dX4_takeOrder_27 (by decide) (fun c27 => ?_) (fun c27 => ?_)
    · replace c27 := bI_z c27
      refine x_aload_n C 0 dX4_takeOrder_38 rfl rfl ?_
      refine x_ldcS C (i := 7) (by decide) rfl rfl dX4_takeOrder_39 ?_
      refine x_Vi 12 C (k_X4_isWord l G nR LL ad hF (stepS S N e) (tkS (S 11) N e) (tkE (S 11) N e) k rfl rfl hk (tk_le heN).2.1 (Nat.le_trans (tk_le heN).2.2 hNk) hk4 7 (by decide)) gX4_takeOrder_X4_isWord rfl (by decide +kernel) ⟨(Nat.le_of_ble_eq_true rfl), (Nat.le_of_ble_eq_true rfl)⟩ ⟨(Nat.le_of_ble_eq_true rfl), (Nat.le_of_ble_eq_true rfl)⟩ (hF 12 (by decide)) (pf_12 G nR ad _) (T := TX4) (N := 5) rfl (n := 1) rfl (st := []) (Nat.le_of_ble_eq_true rfl) rfl dX4_takeOrder_41 (fun r9 _ hr9 => ?_)
      obtain rfl : r9 = bI (wrdT (S 11) N e 7) := hr9
      refine x_if_eq C (tgt := 55) dX4_takeOrder_44 (by decide) (fun c44 => ?_) (fun c44 => ?_)
      · replace c44 := bI_z c44
        refine x_iconst C dX4_takeOrder_55 (v := 0) (by decide) ?_
        refine x_zret C hrt9 (Or.inl rfl) (stepS S N e) ?_ rfl dX4_takeOrder_56
        have e1 : ordC (S 11) N e = -1 := by unfold ordC; rw [if_neg (by rw [c10]; decide), if_neg (by rw [c27]; decide), if_neg (by rw [c44]; decide)]
        refine ⟨?_, ?_⟩
        · rw [e1]; rfl
        · unfold ordS; rw [e1]; rfl
      · replace c44 := bI_nz c44
        refine x_aload_n C 1 dX4_takeOrder_47 rfl rfl ?_
        refine x_iconst C dX4_takeOrder_48 (v := 2) (by decide) ?_
        refine y_put C (T := TX7) (N := 7) (ty := .int) o 3 hin7 tyX7 tyX7_ok nmX7 hq.2.2.1 (hq.1 _) (hq.1 _) rfl (by decide) lk74 rfl rfl (by decide +kernel) rfl rfl (Nat.le_of_ble_eq_true rfl) dX4_takeOrder_49 ?_
        refine x_goto C (tgt := 57) dX4_takeOrder_52 (by decide) ?_
        refine x_iconst C dX4_takeOrder_57 (v := 1) (by decide) ?_
        refine x_zret C hrt9 (Or.inr rfl) (s2 (stepS S N e) o 3 2) ?_ rfl dX4_takeOrder_58
        have e1 : ordC (S 11) N e = 2 := by unfold ordC; rw [if_neg (by rw [c10]; decide), if_neg (by rw [c27]; decide), if_pos c44]
        refine ⟨?_, ?_⟩
        · rw [e1]; rfl
        · unfold ordS; rw [e1]; rfl
    · replace c27 := bI_nz c27
      refine x_aload_n C 1 dX4_takeOrder_30 rfl rfl ?_
      refine x_iconst C dX4_takeOrder_31 (v := 1) (by decide) ?_
      refine y_put C (T := TX7) (N := 7) (ty := .int) o 3 hin7 tyX7 tyX7_ok nmX7 hq.2.2.1 (hq.1 _) (hq.1 _) rfl (by decide) lk74 rfl rfl (by decide +kernel) rfl rfl (Nat.le_of_ble_eq_true rfl) dX4_takeOrder_32 ?_
      refine x_goto C (tgt := 57) dX4_takeOrder_35 (by decide) ?_
      refine x_iconst C dX4_takeOrder_57 (v := 1) (by decide) ?_
      refine x_zret C hrt9 (Or.inr rfl) (s2 (stepS S N e) o 3 1) ?_ rfl dX4_takeOrder_58
      have e1 : ordC (S 11) N e = 1 := by unfold ordC; rw [if_neg (by rw [c10]; decide), if_pos c27]
      refine ⟨?_, ?_⟩
      · rw [e1]; rfl
      · unfold ordS; rw [e1]; rfl
  · replace c10 := bI_nz c10
    refine x_aload_n C 1 dX4_takeOrder_13 rfl rfl ?_
    refine x_iconst C dX4_takeOrder_14 (v := 0) (by decide) ?_
    refine y_put C (T := TX7) (N := 7) (ty := .int) o 3 hin7 tyX7 tyX7_ok nmX7 hq.2.2.1 (hq.1 _) (hq.1 _) rfl (by decide) lk74 rfl rfl (by decide +kernel) rfl rfl (Nat.le_of_ble_eq_true rfl) dX4_takeOrder_15 ?_
    refine x_goto C (tgt := 57) dX4_takeOrder_18 (by decide) ?_
    refine x_iconst C dX4_takeOrder_57 (v := 1) (by decide) ?_
    refine x_zret C hrt9 (Or.inr rfl) (s2 (stepS S N e) o 3 0) ?_ rfl dX4_takeOrder_58
    have e1 : ordC (S 11) N e = 0 := by unfold ordC; rw [if_pos c10]
    refine ⟨?_, ?_⟩
    · rw [e1]; rfl
    · unfold ordS; rw [e1]; rfl

set_option maxHeartbeats 4000000 in
set_option maxRecDepth 100000 in
theorem k_X4_takeDays (l : Launch) (G : tf_G) (nR : Nat) (LL : List Nat) (ad : Nat → Nat) (hF : ∀ j ∈ tf_fix, j ∈ LL) (S : tf_M) (N e k : Nat) (hN : S 12 1 = nI N) (he : S 12 3 = nI e) (hk : S 10 1 = nI k) (hNk : N ≤ k) (hk4 : k ≤ 400) (heN : e ≤ N) (o w : Nat) (hq : StOk G nR LL ad o w) (hR : nR ≤ 12) : Ci l yX4_takeDays wsX4_takeDays ({ frames := 5, cells := 0, slots := 0, locals := 107 } : Room) G LL ad (pw G nR ad) (pw G nR ad S) [.ref (ad 12), .ref (ad o)] (fun x u => x = bI (dysR nR w (S 11) N e).1 ∧ u = (dysR nR w (S 11) N e).2.2 (stepS S N (dysR nR w (S 11) N e).2.1)) := by
  refine ci_of (cc := cX4_takeDays) (maxL := 4) (ret := (some .boolean)) (by decide +kernel) rfl (Nat.le_of_ble_eq_true rfl) ?_
  intro pv ev sv mv args below meth cv A C hrt9 hnm9
  have C : Cx pv sv mv args meth cv cX4_takeDays 4 RX4 wsX4_takeDays G A LL ad := C
  show XJ pv l ev _ sv mv args below meth cv G A LL ad _ 4 0 0 _ 0 [(0, .ref (ad 12)), (1, .ref (ad o))] []
  refine x_aload_n C 0 dX4_takeDays_0 rfl rfl ?_
  refine x_Vi 12 C (k_X4_takeNumber l G nR LL ad hF S N e k hN he hk hNk hk4 heN) gX4_takeDays_X4_takeNumber rfl (by decide +kernel) ⟨(Nat.le_of_ble_eq_true rfl), (Nat.le_of_ble_eq_true rfl)⟩ ⟨(Nat.le_of_ble_eq_true rfl), (Nat.le_of_ble_eq_true rfl)⟩ (hF 12 (by decide)) (pf_12 G nR ad _) (T := TX4) (N := 5) rfl (n := 0) rfl (st := []) (Nat.le_of_ble_eq_true rfl) rfl dX4_takeDays_1 (fun _ _ hr9 => ?_)
  obtain ⟨rfl, rfl⟩ := hr9
  refine x_istore_n C (L1 := [(2, .int (numR (S 11) N e)), (0, .ref (ad 12)), (1, .ref (ad o))]) dX4_takeDays_4 rfl (by decide) rfl ?_
  refine x_iload_n C 0 dX4_takeDays_5 rfl rfl ?_
  refine x_iconst C dX4_takeDays_6 (v := -1) (by decide) ?_
  refine x_icmp_ne C (tgt := 12) dX4_takeDays_7 (by decide) (fun c7 => ?_) (fun c7 => ?_)
  · skip
    refine x_aload_n C 1 dX4_takeDays_12 rfl rfl ?_
    refine x_Vv 12 C (k_X4_step l G nR LL ad hF (stepS S N e) N (tkE (S 11) N e) k hN rfl hk hNk hk4 (tk_le heN).2.2) gX4_takeDays_X4_step rfl (by decide +kernel) ⟨(Nat.le_of_ble_eq_true rfl), (Nat.le_of_ble_eq_true rfl)⟩ ⟨(Nat.le_of_ble_eq_true rfl), (Nat.le_of_ble_eq_true rfl)⟩ (hF 12 (by decide)) (pf_12 G nR ad _) (T := TX4) (N := 5) rfl (n := 0) rfl (st := []) (Nat.le_of_ble_eq_true rfl) rfl dX4_takeDays_13 (fun _ hr9 => ?_)
    subst hr9
    rw [stepS_stepS]
    refine x_aload_n C 1 dX4_takeDays_16 rfl rfl ?_
    refine x_ldcS C (i := 8) (by decide) rfl rfl dX4_takeDays_17 ?_
    refine x_Vi 12 C (k_X4_isWord l G nR LL ad hF (stepS S N (tkE (S 11) N e)) (tkS (S 11) N (tkE (S 11) N e)) (tkE (S 11) N (tkE (S 11) N e)) k rfl rfl hk (tk_le (tk_le heN).2.2).2.1 (Nat.le_trans (tk_le (tk_le heN).2.2).2.2 hNk) hk4 8 (by decide)) gX4_takeDays_X4_isWord rfl (by decide +kernel) ⟨(Nat.le_of_ble_eq_true rfl), (Nat.le_of_ble_eq_true rfl)⟩ ⟨(Nat.le_of_ble_eq_true rfl), (Nat.le_of_ble_eq_true rfl)⟩ (hF 12 (by decide)) (pf_12 G nR ad _) (T := TX4) (N := 5) rfl (n := 1) rfl (st := []) (Nat.le_of_ble_eq_true rfl) rfl dX4_takeDays_19 (fun r9 _ hr9 => ?_)
    obtain rfl : r9 = bI (wrdT (S 11) N (tkE (S 11) N e) 8) := hr9
    refine x_if_ne C (tgt := 27) dX4_takeDays_22 (by decide) (fun c22 => ?_) (fun c22 => ?_)
    · replace c22 := bI_nz c22
      refine x_aload_n C 1 dX4_takeDays_27 rfl rfl ?_
      refine x_Vi 12 C (k_X4_takeNumber l G nR LL ad hF (stepS S N (tkE (S 11) N e)) N (tkE (S 11) N (tkE (S 11) N e)) k hN rfl hk hNk hk4 (tk_le (tk_le heN).2.2).2.2) gX4_takeDays_X4_takeNumber rfl (by decide +kernel) ⟨(Nat.le_of_ble_eq_true rfl), (Nat.le_of_ble_eq_true rfl)⟩ ⟨(Nat.le_of_ble_eq_true rfl), (Nat.le_of_ble_eq_true rfl)⟩ (hF 12 (by decide)) (pf_12 G nR ad _) (T := TX4) (N := 5) rfl (n := 0) rfl (st := []) (Nat.le_of_ble_eq_true rfl) rfl dX4_takeDays_28 (fun r9 u9 hr9 => ?_)
      obtain ⟨rfl, rfl⟩ : r9 = numR (S 11) N (tkE (S 11) N (tkE (S 11) N e)) ∧ u9 = stepS S N (tkE (S 11) N (tkE (S 11) N e)) := ⟨hr9.1, by rw [hr9.2, stepS_stepS]⟩
      refine x_istore_n C (L1 := [(3, .int (numR (S 11) N (tkE (S 11) N (tkE (S 11) N e)))), (2, .int (numR (S 11) N e)), (0, .ref (ad 12)), (1, .ref (ad o))]) dX4_takeDays_31 rfl (by decide) rfl ?_
      refine x_iload_n C 0 dX4_takeDays_32 rfl rfl ?_
      refine x_iconst C dX4_takeDays_33 (v := -1) (by decide) ?_
      refine x_icmp_ne C (tgt := 39) dX4_takeDays_34 (by decide) (fun c34 => ?_) (fun c34 => ?_)
      · skip
        refine x_aload_n C 3 dX4_takeDays_39 rfl rfl ?_
        refine x_iload_n C 1 dX4_takeDays_40 rfl rfl ?_
        refine x_iload_n C 0 dX4_takeDays_41 rfl rfl ?_
        refine x_Vv o C (k_X7_allow l G nR LL ad hF (stepS S N (tkE (S 11) N (tkE (S 11) N e))) o w hq hR (numR (S 11) N e) (numR (S 11) N (tkE (S 11) N (tkE (S 11) N e)))) gX4_takeDays_X7_allow rfl (by decide +kernel) ⟨(Nat.le_of_ble_eq_true rfl), (Nat.le_of_ble_eq_true rfl)⟩ ⟨(Nat.le_of_ble_eq_true rfl), (Nat.le_of_ble_eq_true rfl)⟩ hq.2.2.1 (hq.1 _) (T := TX7) (N := 7) rfl (n := 2) rfl (st := []) (Nat.le_of_ble_eq_true rfl) rfl dX4_takeDays_42 (fun _ hr9 => ?_)
        subst hr9
        refine x_iconst C dX4_takeDays_45 (v := 1) (by decide) ?_
        refine x_zret C hrt9 (Or.inr rfl) (alwS nR (stepS S N (tkE (S 11) N (tkE (S 11) N e))) w (numR (S 11) N e) (numR (S 11) N (tkE (S 11) N (tkE (S 11) N e)))) ?_ rfl dX4_takeDays_46
        refine ⟨?_, ?_⟩
        · unfold dysR; rw [if_neg c7, if_neg (by rw [c22]; decide), if_neg c34]; rfl
        · unfold dysR; rw [if_neg c7, if_neg (by rw [c22]; decide), if_neg c34]
      · skip
        refine x_iconst C dX4_takeDays_37 (v := 0) (by decide) ?_
        refine x_zret C hrt9 (Or.inl rfl) (stepS S N (tkE (S 11) N (tkE (S 11) N e))) ?_ rfl dX4_takeDays_38
        refine ⟨?_, ?_⟩
        · unfold dysR; rw [if_neg c7, if_neg (by rw [c22]; decide), if_pos c34]; rfl
        · unfold dysR; rw [if_neg c7, if_neg (by rw [c22]; decide), if_pos c34]
    · replace c22 := bI_z c22
      refine x_iconst C dX4_takeDays_25 (v := 0) (by decide) ?_
      refine x_zret C hrt9 (Or.inl rfl) (stepS S N (tkE (S 11) N e)) ?_ rfl dX4_takeDays_26
      refine ⟨?_, ?_⟩
      · unfold dysR; rw [if_neg c7, if_pos c22]; rfl
      · unfold dysR; rw [if_neg c7, if_pos c22]
  · skip
    refine x_iconst C dX4_takeDays_10 (v := 0) (by decide) ?_
    refine x_zret C hrt9 (Or.inl rfl) (stepS S N e) ?_ rfl dX4_takeDays_11
    refine ⟨?_, ?_⟩
    · unfold dysR; rw [if_pos c7]; rfl
    · unfold dysR; rw [if_pos c7]

def trOk (f : tf_M → tf_M) : Prop := (∀ (S : tf_M) (N a b : Nat), stepS (f (stepS S N a)) N b = f (stepS S N b)) ∧ ∀ (S : tf_M) (x : Nat), x ≤ 12 → f S x = S x
theorem trOk_id : trOk (fun S => S) := ⟨fun _ _ _ _ => stepS_stepS, fun _ _ _ => rfl⟩
theorem trOk_s2 {o f : Nat} {v : Int32} (ho : 12 < o) : trOk (fun S => s2 S o f v) := ⟨fun _ _ _ _ => stepS_put (by omega) (by omega), fun _ _ h => s2_ne (by omega)⟩
theorem trOk_alw {nR w : Nat} {x v : Int32} (hw : 12 < w) : trOk (fun S => alwS nR S w x v) := by
  unfold alwS
  by_cases h : isP x (nI nR) = true
  · simp only [if_pos h]; exact trOk_s2 hw
  · simp only [if_neg h]; exact trOk_id
theorem trOk_dys {nR w : Nat} {T : Nat → Int32} {N e : Nat} (hw : 12 < w) : trOk (dysR nR w T N e).2.2 := by
  unfold dysR
  split
  · exact trOk_id
  · split
    · exact trOk_id
    · split
      · exact trOk_id
      · exact trOk_alw hw
theorem dysR_le {nR w : Nat} {T : Nat → Int32} {N e : Nat} (h : e ≤ N) : (dysR nR w T N e).2.1 ≤ N := by
  unfold dysR
  have h1 := (tk_le (T := T) h).2.2
  have h2 := (tk_le (T := T) h1).2.2
  split
  · exact h
  · split
    · exact h1
    · split
      · exact h2
      · exact h2
def nmbR (o f : Nat) (T : Nat → Int32) (N e : Nat) : Bool × Nat × (tf_M → tf_M) := (!decide (numR T N e = -1) && decide (tkK T N (tkE T N e) = 3), if numR T N e = -1 then e else tkE T N e, fun S => s2 S o f (numR T N e))
def ordR (o : Nat) (T : Nat → Int32) (N e : Nat) : Bool × Nat × (tf_M → tf_M) := if ordC T N e = -1 then (false, e, fun S => S) else (decide (tkK T N (tkE T N e) = 3), tkE T N e, fun S => s2 S o 3 (ordC T N e))
def dayR (nR w : Nat) (T : Nat → Int32) (N e : Nat) : Bool × Nat × (tf_M → tf_M) := ((dysR nR w T N e).1 && decide (tkK T N (tkE T N (dysR nR w T N e).2.1) = 3), if (dysR nR w T N e).1 = true then tkE T N (dysR nR w T N e).2.1 else (dysR nR w T N e).2.1, (dysR nR w T N e).2.2)
def stm (nR o w : Nat) (T : Nat → Int32) (N e : Nat) : Bool × Nat × (tf_M → tf_M) :=
  if wrdT T N e 0 = true then ordR o T N (tkE T N e)
  else if wrdT T N e 1 = true then dayR nR w T N (tkE T N e)
  else if wrdT T N e 2 = true then nmbR o 4 T N (tkE T N e)
  else if wrdT T N e 3 = true then nmbR o 5 T N (tkE T N e)
  else if wrdT T N e 4 = true then nmbR o 6 T N (tkE T N e)
  else (false, e, fun S => S)
theorem stm_ok {nR o w : Nat} {T : Nat → Int32} {N e : Nat} (ho : 12 < o) (hw : 12 < w) (h : e ≤ N) : trOk (stm nR o w T N e).2.2 ∧ (stm nR o w T N e).2.1 ≤ N := by
  have h1 := (tk_le (T := T) h).2.2
  have h2 := (tk_le (T := T) h1).2.2
  have hn : ∀ f, trOk (nmbR o f T N (tkE T N e)).2.2 ∧ (nmbR o f T N (tkE T N e)).2.1 ≤ N := fun f => ⟨trOk_s2 ho, by unfold nmbR; dsimp only; split; exact h1; exact h2⟩
  unfold stm
  split
  · unfold ordR; split
    · exact ⟨trOk_id, h1⟩
    · exact ⟨trOk_s2 ho, h2⟩
  · split
    · unfold dayR; dsimp only
      refine ⟨trOk_dys hw, ?_⟩
      have h3 := dysR_le (nR := nR) (w := w) (T := T) h1
      have h4 := (tk_le (T := T) h3).2.2
      split
      · exact h4
      · exact h3
    · split
      · exact hn 4
      · split
        · exact hn 5
        · split
          · exact hn 6
          · exact ⟨trOk_id, h⟩
set_option maxHeartbeats 4000000 in
set_option maxRecDepth 100000 in
theorem k_X4_takeStatement (l : Launch) (G : tf_G) (nR : Nat) (LL : List Nat) (ad : Nat → Nat) (hF : ∀ j ∈ tf_fix, j ∈ LL) (S : tf_M) (N e k : Nat) (hN : S 12 1 = nI N) (hk : S 10 1 = nI k) (hNk : N ≤ k) (hk4 : k ≤ 400) (heN : e ≤ N) (o w : Nat) (hq : StOk G nR LL ad o w) (hR : nR ≤ 12) (ho : 12 < o) (hw : 12 < w) : Ci l yX4_takeStatement wsX4_takeStatement ({ frames := 6, cells := 0, slots := 0, locals := 130 } : Room) G LL ad (pw G nR ad) (pw G nR ad (stepS S N e)) [.ref (ad 12), .ref (ad o)] (fun x u => x = bI (stm nR o w (S 11) N e).1 ∧ u = (stm nR o w (S 11) N e).2.2 (stepS S N (stm nR o w (S 11) N e).2.1)) := by
  have hin7 : ∀ w ∈ u_ws RX7 TX7 7, w ∈ wsX4_takeStatement := by decide +kernel
  have lk70 : Cond.fieldLink RX4 70 "TributeFleet$Statute" "fine" "I" ∈ wsX4_takeStatement := by decide +kernel
  have lk65 : Cond.fieldLink RX4 65 "TributeFleet$Statute" "goodsABoat" "I" ∈ wsX4_takeStatement := by decide +kernel
  have lk59 : Cond.fieldLink RX4 59 "TributeFleet$Statute" "loss" "I" ∈ wsX4_takeStatement := by decide +kernel
  refine ci_of (cc := cX4_takeStatement) (maxL := 2) (ret := (some .boolean)) (by decide +kernel) rfl (Nat.le_of_ble_eq_true rfl) ?_
  intro pv ev sv mv args below meth cv A C hrt9 hnm9
  have C : Cx pv sv mv args meth cv cX4_takeStatement 2 RX4 wsX4_takeStatement G A LL ad := C
  show XJ pv l ev _ sv mv args below meth cv G A LL ad _ 2 0 0 _ 0 [(0, .ref (ad 12)), (1, .ref (ad o))] []
  refine x_aload_n C 0 dX4_takeStatement_0 rfl rfl ?_
  refine x_ldcS C (i := 0) (by decide) rfl rfl dX4_takeStatement_1 ?_
  refine x_Vi 12 C (k_X4_isWord l G nR LL ad hF (stepS S N e) (tkS (S 11) N e) (tkE (S 11) N e) k rfl rfl hk (tk_le heN).2.1 (Nat.le_trans (tk_le heN).2.2 hNk) hk4 0 (by decide)) gX4_takeStatement_X4_isWord rfl (by decide +kernel) ⟨(Nat.le_of_ble_eq_true rfl), (Nat.le_of_ble_eq_true rfl)⟩ ⟨(Nat.le_of_ble_eq_true rfl), (Nat.le_of_ble_eq_true rfl)⟩ (hF 12 (by decide)) (pf_12 G nR ad _) (T := TX4) (N := 5) rfl (n := 1) rfl (st := []) (Nat.le_of_ble_eq_true rfl) rfl dX4_takeStatement_3 (fun r9 _ hr9 => ?_)
  obtain rfl : r9 = bI (wrdT (S 11) N e 0) := hr9
  refine x_if_eq C (tgt := 30) dX4_takeStatement_6 (by decide) (fun c6 => ?_) (fun c6 => ?_)
  · replace c6 := bI_z c6
    refine x_aload_n C 0 dX4_takeStatement_30 rfl rfl ?_
    refine x_ldcS C (i := 1) (by decide) rfl rfl dX4_takeStatement_31 ?_
    refine x_Vi 12 C (k_X4_isWord l G nR LL ad hF (stepS S N e) (tkS (S 11) N e) (tkE (S 11) N e) k rfl rfl hk (tk_le heN).2.1 (Nat.le_trans (tk_le heN).2.2 hNk) hk4 1 (by decide)) gX4_takeStatement_X4_isWord rfl (by decide +kernel) ⟨(Nat.le_of_ble_eq_true rfl), (Nat.le_of_ble_eq_true rfl)⟩ ⟨(Nat.le_of_ble_eq_true rfl), (Nat.le_of_ble_eq_true rfl)⟩ (hF 12 (by decide)) (pf_12 G nR ad _) (T := TX4) (N := 5) rfl (n := 1) rfl (st := []) (Nat.le_of_ble_eq_true rfl) rfl dX4_takeStatement_33 (fun r9 _ hr9 => ?_)
    obtain rfl : r9 = bI (wrdT (S 11) N e 1) := hr9
    refine x_if_eq C (tgt := 60) dX4_takeStatement_36 (by decide) (fun c36 => ?_) (fun c36 => ?_)
    · replace c36 := bI_z c36
      refine x_aload_n C 0 dX4_takeStatement_60 rfl rfl ?_
      refine x_ldcS C (i := 2) (by decide) rfl rfl dX4_takeStatement_61 ?_
      refine x_Vi 12 C (k_X4_isWord l G nR LL ad hF (stepS S N e) (tkS (S 11) N e) (tkE (S 11) N e) k rfl rfl hk (tk_le heN).2.1 (Nat.le_trans (tk_le heN).2.2 hNk) hk4 2 (by decide)) gX4_takeStatement_X4_isWord rfl (by decide +kernel) ⟨(Nat.le_of_ble_eq_true rfl), (Nat.le_of_ble_eq_true rfl)⟩ ⟨(Nat.le_of_ble_eq_true rfl), (Nat.le_of_ble_eq_true rfl)⟩ (hF 12 (by decide)) (pf_12 G nR ad _) (T := TX4) (N := 5) rfl (n := 1) rfl (st := []) (Nat.le_of_ble_eq_true rfl) rfl dX4_takeStatement_63 (fun r9 _ hr9 => ?_)
      obtain rfl : r9 = bI (wrdT (S 11) N e 2) := hr9
      refine x_if_eq C (tgt := 98) dX4_takeStatement_66 (by decide) (fun c66 => ?_) (fun c66 => ?_)
      · replace c66 := bI_z c66
        refine x_aload_n C 0 dX4_takeStatement_98 rfl rfl ?_
        refine x_ldcS C (i := 3) (by decide) rfl rfl dX4_takeStatement_99 ?_
        refine x_Vi 12 C (k_X4_isWord l G nR LL ad hF (stepS S N e) (tkS (S 11) N e) (tkE (S 11) N e) k rfl rfl hk (tk_le heN).2.1 (Nat.le_trans (tk_le heN).2.2 hNk) hk4 3 (by decide)) gX4_takeStatement_X4_isWord rfl (by decide +kernel) ⟨(Nat.le_of_ble_eq_true rfl), (Nat.le_of_ble_eq_true rfl)⟩ ⟨(Nat.le_of_ble_eq_true rfl), (Nat.le_of_ble_eq_true rfl)⟩ (hF 12 (by decide)) (pf_12 G nR ad _) (T := TX4) (N := 5) rfl (n := 1) rfl (st := []) (Nat.le_of_ble_eq_true rfl) rfl dX4_takeStatement_101 (fun r9 _ hr9 => ?_)
        obtain rfl : r9 = bI (wrdT (S 11) N e 3) := hr9
        refine x_if_eq C (tgt := 136) dX4_takeStatement_104 (by decide) (fun c104 => ?_) (fun c104 => ?_)
        · replace c104 := bI_z c104
          refine x_aload_n C 0 dX4_takeStatement_136 rfl rfl ?_
          refine x_ldcS C (i := 4) (by decide) rfl rfl dX4_takeStatement_137 ?_
          refine x_Vi 12 C (k_X4_isWord l G nR LL ad hF (stepS S N e) (tkS (S 11) N e) (tkE (S 11) N e) k rfl rfl hk (tk_le heN).2.1 (Nat.le_trans (tk_le heN).2.2 hNk) hk4 4 (by decide)) gX4_takeStatement_X4_isWord rfl (by decide +kernel) ⟨(Nat.le_of_ble_eq_true rfl), (Nat.le_of_ble_eq_true rfl)⟩ ⟨(Nat.le_of_ble_eq_true rfl), (Nat.le_of_ble_eq_true rfl)⟩ (hF 12 (by decide)) (pf_12 G nR ad _) (T := TX4) (N := 5) rfl (n := 1) rfl (st := []) (Nat.le_of_ble_eq_true rfl) rfl dX4_takeStatement_139 (fun r9 _ hr9 => ?_)
          obtain rfl : r9 = bI (wrdT (S 11) N e 4) := hr9
          refine x_if_eq C (tgt := 174) dX4_takeStatement_142 (by decide) (fun c142 => ?_) (fun c142 => ?_)
          · replace c142 := bI_z c142
            refine x_iconst C dX4_takeStatement_174 (v := 0) (by decide) ?_
            refine x_zret C hrt9 (Or.inl rfl) (stepS S N e) ?_ rfl dX4_takeStatement_175
            have e1 := show stm nR o w (S 11) N e = _ from by unfold stm; rw [if_neg (by rw [c6]; decide), if_neg (by rw [c36]; decide), if_neg (by rw [c66]; decide), if_neg (by rw [c104]; decide), if_neg (by rw [c142]; decide)]
            rw [e1]
            exact ⟨rfl, rfl⟩
          · replace c142 := bI_nz c142
            refine x_aload_n C 1 dX4_takeStatement_145 rfl rfl ?_
            refine x_aload_n C 0 dX4_takeStatement_146 rfl rfl ?_
            refine x_Vi 12 C (k_X4_takeNumber l G nR LL ad hF (stepS S N e) N (tkE (S 11) N e) k hN rfl hk hNk hk4 (tk_le heN).2.2) gX4_takeStatement_X4_takeNumber rfl (by decide +kernel) ⟨(Nat.le_of_ble_eq_true rfl), (Nat.le_of_ble_eq_true rfl)⟩ ⟨(Nat.le_of_ble_eq_true rfl), (Nat.le_of_ble_eq_true rfl)⟩ (hF 12 (by decide)) (pf_12 G nR ad _) (T := TX4) (N := 5) rfl (n := 0) rfl (st := [.ref (ad o)]) (Nat.le_of_ble_eq_true rfl) rfl dX4_takeStatement_147 (fun r9 u9 hr9 => ?_)
            obtain ⟨rfl, rfl⟩ : r9 = numR (S 11) N (tkE (S 11) N e) ∧ u9 = stepS S N (tkE (S 11) N e) := ⟨hr9.1, by rw [hr9.2, stepS_stepS]⟩
            refine y_put C (T := TX7) (N := 7) (ty := .int) o 6 hin7 tyX7 tyX7_ok nmX7 hq.2.2.1 (hq.1 _) (hq.1 _) rfl (by decide) lk70 rfl rfl (by decide +kernel) rfl rfl (Nat.le_of_ble_eq_true rfl) dX4_takeStatement_150 ?_
            show XJ _ _ _ _ _ _ _ _ _ _ _ _ _ _ _ _ _ _ (pw G nR ad ((fun Z => s2 Z o 6 (numR (S 11) N (tkE (S 11) N e))) (stepS S N (tkE (S 11) N e)))) _ _ _
            refine x_aload_n C 1 dX4_takeStatement_153 rfl rfl ?_
            refine x_get C (T := TX7) (N := 7) (v := .int (((fun Z => s2 Z o 6 (numR (S 11) N (tkE (S 11) N e))) (stepS S N (tkE (S 11) N e))) (o) 6)) o 6 hin7 hq.2.2.1 (hq.1 _) rfl (by decide) lk70 rfl rfl dX4_takeStatement_154 ?_
            rw [show ((fun Z => s2 Z o 6 (numR (S 11) N (tkE (S 11) N e))) (stepS S N (tkE (S 11) N e))) (o) 6 = numR (S 11) N (tkE (S 11) N e) from s2_eq]
            refine x_iconst C dX4_takeStatement_157 (v := -1) (by decide) ?_
            refine x_icmp_eq C (tgt := 172) dX4_takeStatement_158 (by decide) (fun c158 => ?_) (fun c158 => ?_)
            · skip
              refine x_iconst C dX4_takeStatement_172 (v := 0) (by decide) ?_
              refine x_zret C hrt9 (Or.inl rfl) ((fun Z => s2 Z o 6 (numR (S 11) N (tkE (S 11) N e))) (stepS S N (tkE (S 11) N e))) ?_ rfl dX4_takeStatement_173
              have e1 := show stm nR o w (S 11) N e = _ from by unfold stm; rw [if_neg (by rw [c6]; decide), if_neg (by rw [c36]; decide), if_neg (by rw [c66]; decide), if_neg (by rw [c104]; decide), if_pos c142]
              rw [e1]
              unfold nmbR
              dsimp only
              rw [decide_eq_true c158, if_pos c158]
              exact ⟨rfl, rfl⟩
            · skip
              refine x_aload_n C 0 dX4_takeStatement_161 rfl rfl ?_
              refine x_Vi 12 C (k_X4_takeSemicolon l G nR LL ad hF ((fun Z => s2 Z o 6 (numR (S 11) N (tkE (S 11) N e))) (stepS S N (tkE (S 11) N e))) N (tkE (S 11) N (tkE (S 11) N e)) k (by rw [(trOk_s2 (o := o) (f := 6) (v := numR (S 11) N (tkE (S 11) N e)) ho).2 _ 12 (by decide)]; exact hN) (by rw [(trOk_s2 (o := o) (f := 6) (v := numR (S 11) N (tkE (S 11) N e)) ho).2 _ 12 (by decide)]; rfl) (by rw [(trOk_s2 (o := o) (f := 6) (v := numR (S 11) N (tkE (S 11) N e)) ho).2 _ 10 (by decide)]; exact hk) hNk hk4 (tk_le (tk_le heN).2.2).2.2) gX4_takeStatement_X4_takeSemicolon rfl (by decide +kernel) ⟨(Nat.le_of_ble_eq_true rfl), (Nat.le_of_ble_eq_true rfl)⟩ ⟨(Nat.le_of_ble_eq_true rfl), (Nat.le_of_ble_eq_true rfl)⟩ (hF 12 (by decide)) (pf_12 G nR ad _) (T := TX4) (N := 5) rfl (n := 0) rfl (st := []) (Nat.le_of_ble_eq_true rfl) rfl dX4_takeStatement_162 (fun r9 u9 hr9 => ?_)
              obtain ⟨rfl, rfl⟩ : r9 = bI (decide (tkK (S 11) N (tkE (S 11) N (tkE (S 11) N e)) = 3)) ∧ u9 = ((fun Z => s2 Z o 6 (numR (S 11) N (tkE (S 11) N e))) (stepS S N (tkE (S 11) N (tkE (S 11) N e)))) := ⟨by rw [hr9.1, (trOk_s2 (o := o) (f := 6) (v := numR (S 11) N (tkE (S 11) N e)) ho).2 _ 11 (by decide)]; rfl, by rw [hr9.2]; exact (trOk_s2 (o := o) (f := 6) (v := numR (S 11) N (tkE (S 11) N e)) ho).1 S N (tkE (S 11) N e) (tkE (S 11) N (tkE (S 11) N e))⟩
              refine x_if_eq C (tgt := 172) dX4_takeStatement_165 (by decide) (fun c165 => ?_) (fun c165 => ?_)
              · replace c165 := bI_z c165
                refine x_iconst C dX4_takeStatement_172 (v := 0) (by decide) ?_
                refine x_zret C hrt9 (Or.inl rfl) ((fun Z => s2 Z o 6 (numR (S 11) N (tkE (S 11) N e))) (stepS S N (tkE (S 11) N (tkE (S 11) N e)))) ?_ rfl dX4_takeStatement_173
                have e1 := show stm nR o w (S 11) N e = _ from by unfold stm; rw [if_neg (by rw [c6]; decide), if_neg (by rw [c36]; decide), if_neg (by rw [c66]; decide), if_neg (by rw [c104]; decide), if_pos c142]
                rw [e1]
                unfold nmbR
                dsimp only
                rw [decide_eq_false c158, c165, if_neg c158]
                exact ⟨rfl, rfl⟩
              · replace c165 := bI_nz c165
                refine x_iconst C dX4_takeStatement_168 (v := 1) (by decide) ?_
                refine x_goto C (tgt := 173) dX4_takeStatement_169 (by decide) ?_
                refine x_zret C hrt9 (Or.inr rfl) ((fun Z => s2 Z o 6 (numR (S 11) N (tkE (S 11) N e))) (stepS S N (tkE (S 11) N (tkE (S 11) N e)))) ?_ rfl dX4_takeStatement_173
                have e1 := show stm nR o w (S 11) N e = _ from by unfold stm; rw [if_neg (by rw [c6]; decide), if_neg (by rw [c36]; decide), if_neg (by rw [c66]; decide), if_neg (by rw [c104]; decide), if_pos c142]
                rw [e1]
                unfold nmbR
                dsimp only
                rw [decide_eq_false c158, c165, if_neg c158]
                exact ⟨rfl, rfl⟩
        · replace c104 := bI_nz c104
          refine x_aload_n C 1 dX4_takeStatement_107 rfl rfl ?_
          refine x_aload_n C 0 dX4_takeStatement_108 rfl rfl ?_
          refine x_Vi 12 C (k_X4_takeNumber l G nR LL ad hF (stepS S N e) N (tkE (S 11) N e) k hN rfl hk hNk hk4 (tk_le heN).2.2) gX4_takeStatement_X4_takeNumber rfl (by decide +kernel) ⟨(Nat.le_of_ble_eq_true rfl), (Nat.le_of_ble_eq_true rfl)⟩ ⟨(Nat.le_of_ble_eq_true rfl), (Nat.le_of_ble_eq_true rfl)⟩ (hF 12 (by decide)) (pf_12 G nR ad _) (T := TX4) (N := 5) rfl (n := 0) rfl (st := [.ref (ad o)]) (Nat.le_of_ble_eq_true rfl) rfl dX4_takeStatement_109 (fun r9 u9 hr9 => ?_)
          obtain ⟨rfl, rfl⟩ : r9 = numR (S 11) N (tkE (S 11) N e) ∧ u9 = stepS S N (tkE (S 11) N e) := ⟨hr9.1, by rw [hr9.2, stepS_stepS]⟩
          refine y_put C (T := TX7) (N := 7) (ty := .int) o 5 hin7 tyX7 tyX7_ok nmX7 hq.2.2.1 (hq.1 _) (hq.1 _) rfl (by decide) lk65 rfl rfl (by decide +kernel) rfl rfl (Nat.le_of_ble_eq_true rfl) dX4_takeStatement_112 ?_
          show XJ _ _ _ _ _ _ _ _ _ _ _ _ _ _ _ _ _ _ (pw G nR ad ((fun Z => s2 Z o 5 (numR (S 11) N (tkE (S 11) N e))) (stepS S N (tkE (S 11) N e)))) _ _ _
          refine x_aload_n C 1 dX4_takeStatement_115 rfl rfl ?_
          refine x_get C (T := TX7) (N := 7) (v := .int (((fun Z => s2 Z o 5 (numR (S 11) N (tkE (S 11) N e))) (stepS S N (tkE (S 11) N e))) (o) 5)) o 5 hin7 hq.2.2.1 (hq.1 _) rfl (by decide) lk65 rfl rfl dX4_takeStatement_116 ?_
          rw [show ((fun Z => s2 Z o 5 (numR (S 11) N (tkE (S 11) N e))) (stepS S N (tkE (S 11) N e))) (o) 5 = numR (S 11) N (tkE (S 11) N e) from s2_eq]
          refine x_iconst C dX4_takeStatement_119 (v := -1) (by decide) ?_
          refine x_icmp_eq C (tgt := 134) dX4_takeStatement_120 (by decide) (fun c120 => ?_) (fun c120 => ?_)
          · skip
            refine x_iconst C dX4_takeStatement_134 (v := 0) (by decide) ?_
            refine x_zret C hrt9 (Or.inl rfl) ((fun Z => s2 Z o 5 (numR (S 11) N (tkE (S 11) N e))) (stepS S N (tkE (S 11) N e))) ?_ rfl dX4_takeStatement_135
            have e1 := show stm nR o w (S 11) N e = _ from by unfold stm; rw [if_neg (by rw [c6]; decide), if_neg (by rw [c36]; decide), if_neg (by rw [c66]; decide), if_pos c104]
            rw [e1]
            unfold nmbR
            dsimp only
            rw [decide_eq_true c120, if_pos c120]
            exact ⟨rfl, rfl⟩
          · skip
            refine x_aload_n C 0 dX4_takeStatement_123 rfl rfl ?_
            refine x_Vi 12 C (k_X4_takeSemicolon l G nR LL ad hF ((fun Z => s2 Z o 5 (numR (S 11) N (tkE (S 11) N e))) (stepS S N (tkE (S 11) N e))) N (tkE (S 11) N (tkE (S 11) N e)) k (by rw [(trOk_s2 (o := o) (f := 5) (v := numR (S 11) N (tkE (S 11) N e)) ho).2 _ 12 (by decide)]; exact hN) (by rw [(trOk_s2 (o := o) (f := 5) (v := numR (S 11) N (tkE (S 11) N e)) ho).2 _ 12 (by decide)]; rfl) (by rw [(trOk_s2 (o := o) (f := 5) (v := numR (S 11) N (tkE (S 11) N e)) ho).2 _ 10 (by decide)]; exact hk) hNk hk4 (tk_le (tk_le heN).2.2).2.2) gX4_takeStatement_X4_takeSemicolon rfl (by decide +kernel) ⟨(Nat.le_of_ble_eq_true rfl), (Nat.le_of_ble_eq_true rfl)⟩ ⟨(Nat.le_of_ble_eq_true rfl), (Nat.le_of_ble_eq_true rfl)⟩ (hF 12 (by decide)) (pf_12 G nR ad _) (T := TX4) (N := 5) rfl (n := 0) rfl (st := []) (Nat.le_of_ble_eq_true rfl) rfl dX4_takeStatement_124 (fun r9 u9 hr9 => ?_)
            obtain ⟨rfl, rfl⟩ : r9 = bI (decide (tkK (S 11) N (tkE (S 11) N (tkE (S 11) N e)) = 3)) ∧ u9 = ((fun Z => s2 Z o 5 (numR (S 11) N (tkE (S 11) N e))) (stepS S N (tkE (S 11) N (tkE (S 11) N e)))) := ⟨by rw [hr9.1, (trOk_s2 (o := o) (f := 5) (v := numR (S 11) N (tkE (S 11) N e)) ho).2 _ 11 (by decide)]; rfl, by rw [hr9.2]; exact (trOk_s2 (o := o) (f := 5) (v := numR (S 11) N (tkE (S 11) N e)) ho).1 S N (tkE (S 11) N e) (tkE (S 11) N (tkE (S 11) N e))⟩
            refine x_if_eq C (tgt := 134) dX4_takeStatement_127 (by decide) (fun c127 => ?_) (fun c127 => ?_)
            · replace c127 := bI_z c127
              refine x_iconst C dX4_takeStatement_134 (v := 0) (by decide) ?_
              refine x_zret C hrt9 (Or.inl rfl) ((fun Z => s2 Z o 5 (numR (S 11) N (tkE (S 11) N e))) (stepS S N (tkE (S 11) N (tkE (S 11) N e)))) ?_ rfl dX4_takeStatement_135
              have e1 := show stm nR o w (S 11) N e = _ from by unfold stm; rw [if_neg (by rw [c6]; decide), if_neg (by rw [c36]; decide), if_neg (by rw [c66]; decide), if_pos c104]
              rw [e1]
              unfold nmbR
              dsimp only
              rw [decide_eq_false c120, c127, if_neg c120]
              exact ⟨rfl, rfl⟩
            · replace c127 := bI_nz c127
              refine x_iconst C dX4_takeStatement_130 (v := 1) (by decide) ?_
              refine x_goto C (tgt := 135) dX4_takeStatement_131 (by decide) ?_
              refine x_zret C hrt9 (Or.inr rfl) ((fun Z => s2 Z o 5 (numR (S 11) N (tkE (S 11) N e))) (stepS S N (tkE (S 11) N (tkE (S 11) N e)))) ?_ rfl dX4_takeStatement_135
              have e1 := show stm nR o w (S 11) N e = _ from by unfold stm; rw [if_neg (by rw [c6]; decide), if_neg (by rw [c36]; decide), if_neg (by rw [c66]; decide), if_pos c104]
              rw [e1]
              unfold nmbR
              dsimp only
              rw [decide_eq_false c120, c127, if_neg c120]
              exact ⟨rfl, rfl⟩
      · replace c66 := bI_nz c66
        refine x_aload_n C 1 dX4_takeStatement_69 rfl rfl ?_
        refine x_aload_n C 0 dX4_takeStatement_70 rfl rfl ?_
        refine x_Vi 12 C (k_X4_takeNumber l G nR LL ad hF (stepS S N e) N (tkE (S 11) N e) k hN rfl hk hNk hk4 (tk_le heN).2.2) gX4_takeStatement_X4_takeNumber rfl (by decide +kernel) ⟨(Nat.le_of_ble_eq_true rfl), (Nat.le_of_ble_eq_true rfl)⟩ ⟨(Nat.le_of_ble_eq_true rfl), (Nat.le_of_ble_eq_true rfl)⟩ (hF 12 (by decide)) (pf_12 G nR ad _) (T := TX4) (N := 5) rfl (n := 0) rfl (st := [.ref (ad o)]) (Nat.le_of_ble_eq_true rfl) rfl dX4_takeStatement_71 (fun r9 u9 hr9 => ?_)
        obtain ⟨rfl, rfl⟩ : r9 = numR (S 11) N (tkE (S 11) N e) ∧ u9 = stepS S N (tkE (S 11) N e) := ⟨hr9.1, by rw [hr9.2, stepS_stepS]⟩
        refine y_put C (T := TX7) (N := 7) (ty := .int) o 4 hin7 tyX7 tyX7_ok nmX7 hq.2.2.1 (hq.1 _) (hq.1 _) rfl (by decide) lk59 rfl rfl (by decide +kernel) rfl rfl (Nat.le_of_ble_eq_true rfl) dX4_takeStatement_74 ?_
        show XJ _ _ _ _ _ _ _ _ _ _ _ _ _ _ _ _ _ _ (pw G nR ad ((fun Z => s2 Z o 4 (numR (S 11) N (tkE (S 11) N e))) (stepS S N (tkE (S 11) N e)))) _ _ _
        refine x_aload_n C 1 dX4_takeStatement_77 rfl rfl ?_
        refine x_get C (T := TX7) (N := 7) (v := .int (((fun Z => s2 Z o 4 (numR (S 11) N (tkE (S 11) N e))) (stepS S N (tkE (S 11) N e))) (o) 4)) o 4 hin7 hq.2.2.1 (hq.1 _) rfl (by decide) lk59 rfl rfl dX4_takeStatement_78 ?_
        rw [show ((fun Z => s2 Z o 4 (numR (S 11) N (tkE (S 11) N e))) (stepS S N (tkE (S 11) N e))) (o) 4 = numR (S 11) N (tkE (S 11) N e) from s2_eq]
        refine x_iconst C dX4_takeStatement_81 (v := -1) (by decide) ?_
        refine x_icmp_eq C (tgt := 96) dX4_takeStatement_82 (by decide) (fun c82 => ?_) (fun c82 => ?_)
        · skip
          refine x_iconst C dX4_takeStatement_96 (v := 0) (by decide) ?_
          refine x_zret C hrt9 (Or.inl rfl) ((fun Z => s2 Z o 4 (numR (S 11) N (tkE (S 11) N e))) (stepS S N (tkE (S 11) N e))) ?_ rfl dX4_takeStatement_97
          have e1 := show stm nR o w (S 11) N e = _ from by unfold stm; rw [if_neg (by rw [c6]; decide), if_neg (by rw [c36]; decide), if_pos c66]
          rw [e1]
          unfold nmbR
          dsimp only
          rw [decide_eq_true c82, if_pos c82]
          exact ⟨rfl, rfl⟩
        · skip
          refine x_aload_n C 0 dX4_takeStatement_85 rfl rfl ?_
          refine x_Vi 12 C (k_X4_takeSemicolon l G nR LL ad hF ((fun Z => s2 Z o 4 (numR (S 11) N (tkE (S 11) N e))) (stepS S N (tkE (S 11) N e))) N (tkE (S 11) N (tkE (S 11) N e)) k (by rw [(trOk_s2 (o := o) (f := 4) (v := numR (S 11) N (tkE (S 11) N e)) ho).2 _ 12 (by decide)]; exact hN) (by rw [(trOk_s2 (o := o) (f := 4) (v := numR (S 11) N (tkE (S 11) N e)) ho).2 _ 12 (by decide)]; rfl) (by rw [(trOk_s2 (o := o) (f := 4) (v := numR (S 11) N (tkE (S 11) N e)) ho).2 _ 10 (by decide)]; exact hk) hNk hk4 (tk_le (tk_le heN).2.2).2.2) gX4_takeStatement_X4_takeSemicolon rfl (by decide +kernel) ⟨(Nat.le_of_ble_eq_true rfl), (Nat.le_of_ble_eq_true rfl)⟩ ⟨(Nat.le_of_ble_eq_true rfl), (Nat.le_of_ble_eq_true rfl)⟩ (hF 12 (by decide)) (pf_12 G nR ad _) (T := TX4) (N := 5) rfl (n := 0) rfl (st := []) (Nat.le_of_ble_eq_true rfl) rfl dX4_takeStatement_86 (fun r9 u9 hr9 => ?_)
          obtain ⟨rfl, rfl⟩ : r9 = bI (decide (tkK (S 11) N (tkE (S 11) N (tkE (S 11) N e)) = 3)) ∧ u9 = ((fun Z => s2 Z o 4 (numR (S 11) N (tkE (S 11) N e))) (stepS S N (tkE (S 11) N (tkE (S 11) N e)))) := ⟨by rw [hr9.1, (trOk_s2 (o := o) (f := 4) (v := numR (S 11) N (tkE (S 11) N e)) ho).2 _ 11 (by decide)]; rfl, by rw [hr9.2]; exact (trOk_s2 (o := o) (f := 4) (v := numR (S 11) N (tkE (S 11) N e)) ho).1 S N (tkE (S 11) N e) (tkE (S 11) N (tkE (S 11) N e))⟩
          refine x_if_eq C (tgt := 96) dX4_takeStatement_89 (by decide) (fun c89 => ?_) (fun c89 => ?_)
          · replace c89 := bI_z c89
            refine x_iconst C dX4_takeStatement_96 (v := 0) (by decide) ?_
            refine x_zret C hrt9 (Or.inl rfl) ((fun Z => s2 Z o 4 (numR (S 11) N (tkE (S 11) N e))) (stepS S N (tkE (S 11) N (tkE (S 11) N e)))) ?_ rfl dX4_takeStatement_97
            have e1 := show stm nR o w (S 11) N e = _ from by unfold stm; rw [if_neg (by rw [c6]; decide), if_neg (by rw [c36]; decide), if_pos c66]
            rw [e1]
            unfold nmbR
            dsimp only
            rw [decide_eq_false c82, c89, if_neg c82]
            exact ⟨rfl, rfl⟩
          · replace c89 := bI_nz c89
            refine x_iconst C dX4_takeStatement_92 (v := 1) (by decide) ?_
            refine x_goto C (tgt := 97) dX4_takeStatement_93 (by decide) ?_
            refine x_zret C hrt9 (Or.inr rfl) ((fun Z => s2 Z o 4 (numR (S 11) N (tkE (S 11) N e))) (stepS S N (tkE (S 11) N (tkE (S 11) N e)))) ?_ rfl dX4_takeStatement_97
            have e1 := show stm nR o w (S 11) N e = _ from by unfold stm; rw [if_neg (by rw [c6]; decide), if_neg (by rw [c36]; decide), if_pos c66]
            rw [e1]
            unfold nmbR
            dsimp only
            rw [decide_eq_false c82, c89, if_neg c82]
            exact ⟨rfl, rfl⟩
    · replace c36 := bI_nz c36
      refine x_aload_n C 0 dX4_takeStatement_39 rfl rfl ?_
      refine x_aload_n C 1 dX4_takeStatement_40 rfl rfl ?_
      refine x_Vi 12 C (k_X4_takeDays l G nR LL ad hF (stepS S N e) N (tkE (S 11) N e) k hN rfl hk hNk hk4 (tk_le heN).2.2 o w hq hR) gX4_takeStatement_X4_takeDays rfl (by decide +kernel) ⟨(Nat.le_of_ble_eq_true rfl), (Nat.le_of_ble_eq_true rfl)⟩ ⟨(Nat.le_of_ble_eq_true rfl), (Nat.le_of_ble_eq_true rfl)⟩ (hF 12 (by decide)) (pf_12 G nR ad _) (T := TX4) (N := 5) rfl (n := 1) rfl (st := []) (Nat.le_of_ble_eq_true rfl) rfl dX4_takeStatement_41 (fun r9 u9 hr9 => ?_)
      obtain ⟨rfl, rfl⟩ : r9 = bI (dysR nR w (S 11) N (tkE (S 11) N e)).1 ∧ u9 = (dysR nR w (S 11) N (tkE (S 11) N e)).2.2 (stepS S N (dysR nR w (S 11) N (tkE (S 11) N e)).2.1) := ⟨hr9.1, by rw [hr9.2]; rw [stepS_stepS]; rfl⟩
      refine x_if_eq C (tgt := 58) dX4_takeStatement_44 (by decide) (fun c44 => ?_) (fun c44 => ?_)
      · replace c44 := bI_z c44
        refine x_iconst C dX4_takeStatement_58 (v := 0) (by decide) ?_
        refine x_zret C hrt9 (Or.inl rfl) ((dysR nR w (S 11) N (tkE (S 11) N e)).2.2 (stepS S N (dysR nR w (S 11) N (tkE (S 11) N e)).2.1)) ?_ rfl dX4_takeStatement_59
        have e1 := show stm nR o w (S 11) N e = _ from by unfold stm; rw [if_neg (by rw [c6]; decide), if_pos c36]
        rw [e1]
        unfold dayR
        dsimp only
        rw [c44]
        exact ⟨rfl, rfl⟩
      · replace c44 := bI_nz c44
        refine x_aload_n C 0 dX4_takeStatement_47 rfl rfl ?_
        refine x_Vi 12 C (k_X4_takeSemicolon l G nR LL ad hF ((dysR nR w (S 11) N (tkE (S 11) N e)).2.2 (stepS S N (dysR nR w (S 11) N (tkE (S 11) N e)).2.1)) N (tkE (S 11) N (dysR nR w (S 11) N (tkE (S 11) N e)).2.1) k (by rw [(trOk_dys (nR := nR) (w := w) (T := S 11) (N := N) (e := (tkE (S 11) N e)) hw).2 _ 12 (by decide)]; exact hN) (by rw [(trOk_dys (nR := nR) (w := w) (T := S 11) (N := N) (e := (tkE (S 11) N e)) hw).2 _ 12 (by decide)]; rfl) (by rw [(trOk_dys (nR := nR) (w := w) (T := S 11) (N := N) (e := (tkE (S 11) N e)) hw).2 _ 10 (by decide)]; exact hk) hNk hk4 (tk_le (dysR_le (tk_le heN).2.2)).2.2) gX4_takeStatement_X4_takeSemicolon rfl (by decide +kernel) ⟨(Nat.le_of_ble_eq_true rfl), (Nat.le_of_ble_eq_true rfl)⟩ ⟨(Nat.le_of_ble_eq_true rfl), (Nat.le_of_ble_eq_true rfl)⟩ (hF 12 (by decide)) (pf_12 G nR ad _) (T := TX4) (N := 5) rfl (n := 0) rfl (st := []) (Nat.le_of_ble_eq_true rfl) rfl dX4_takeStatement_48 (fun r9 u9 hr9 => ?_)
        obtain ⟨rfl, rfl⟩ : r9 = bI (decide (tkK (S 11) N (tkE (S 11) N (dysR nR w (S 11) N (tkE (S 11) N e)).2.1) = 3)) ∧ u9 = ((dysR nR w (S 11) N (tkE (S 11) N e)).2.2 (stepS S N (tkE (S 11) N (dysR nR w (S 11) N (tkE (S 11) N e)).2.1))) := ⟨by rw [hr9.1, (trOk_dys (nR := nR) (w := w) (T := S 11) (N := N) (e := (tkE (S 11) N e)) hw).2 _ 11 (by decide)]; rfl, by rw [hr9.2]; exact (trOk_dys (nR := nR) (w := w) (T := S 11) (N := N) (e := (tkE (S 11) N e)) hw).1 S N (dysR nR w (S 11) N (tkE (S 11) N e)).2.1 (tkE (S 11) N (dysR nR w (S 11) N (tkE (S 11) N e)).2.1)⟩
        refine x_if_eq C (tgt := 58) dX4_takeStatement_51 (by decide) (fun c51 => ?_) (fun c51 => ?_)
        · replace c51 := bI_z c51
          refine x_iconst C dX4_takeStatement_58 (v := 0) (by decide) ?_
          refine x_zret C hrt9 (Or.inl rfl) ((dysR nR w (S 11) N (tkE (S 11) N e)).2.2 (stepS S N (tkE (S 11) N (dysR nR w (S 11) N (tkE (S 11) N e)).2.1))) ?_ rfl dX4_takeStatement_59
          have e1 := show stm nR o w (S 11) N e = _ from by unfold stm; rw [if_neg (by rw [c6]; decide), if_pos c36]
          rw [e1]
          unfold dayR
          dsimp only
          rw [c44, c51]
          exact ⟨rfl, rfl⟩
        · replace c51 := bI_nz c51
          refine x_iconst C dX4_takeStatement_54 (v := 1) (by decide) ?_
          refine x_goto C (tgt := 59) dX4_takeStatement_55 (by decide) ?_
          refine x_zret C hrt9 (Or.inr rfl) ((dysR nR w (S 11) N (tkE (S 11) N e)).2.2 (stepS S N (tkE (S 11) N (dysR nR w (S 11) N (tkE (S 11) N e)).2.1))) ?_ rfl dX4_takeStatement_59
          have e1 := show stm nR o w (S 11) N e = _ from by unfold stm; rw [if_neg (by rw [c6]; decide), if_pos c36]
          rw [e1]
          unfold dayR
          dsimp only
          rw [c44, c51]
          exact ⟨rfl, rfl⟩
  · replace c6 := bI_nz c6
    refine x_aload_n C 0 dX4_takeStatement_9 rfl rfl ?_
    refine x_aload_n C 1 dX4_takeStatement_10 rfl rfl ?_
    refine x_Vi 12 C (k_X4_takeOrder l G nR LL ad hF (stepS S N e) N (tkE (S 11) N e) k hN rfl hk hNk hk4 (tk_le heN).2.2 o w hq hR) gX4_takeStatement_X4_takeOrder rfl (by decide +kernel) ⟨(Nat.le_of_ble_eq_true rfl), (Nat.le_of_ble_eq_true rfl)⟩ ⟨(Nat.le_of_ble_eq_true rfl), (Nat.le_of_ble_eq_true rfl)⟩ (hF 12 (by decide)) (pf_12 G nR ad _) (T := TX4) (N := 5) rfl (n := 1) rfl (st := []) (Nat.le_of_ble_eq_true rfl) rfl dX4_takeStatement_11 (fun r9 u9 hr9 => ?_)
    obtain ⟨rfl, rfl⟩ : r9 = bI (!decide (ordC (S 11) N (tkE (S 11) N e) = -1)) ∧ u9 = ordS S N (tkE (S 11) N e) o := ⟨hr9.1, by rw [hr9.2]; unfold ordS; rw [stepS_stepS]; rfl⟩
    refine x_if_eq C (tgt := 28) dX4_takeStatement_14 (by decide) (fun c14 => ?_) (fun c14 => ?_)
    · replace c14 := bI_z c14
      refine x_iconst C dX4_takeStatement_28 (v := 0) (by decide) ?_
      refine x_zret C hrt9 (Or.inl rfl) (ordS S N (tkE (S 11) N e) o) ?_ rfl dX4_takeStatement_29
      have e1 := show stm nR o w (S 11) N e = _ from by unfold stm; rw [if_pos c6]
      rw [e1]
      have ho9 : ordC (S 11) N (tkE (S 11) N e) = -1 := by simpa using c14
      unfold ordR ordS
      rw [if_pos ho9, if_pos ho9]
      exact ⟨rfl, rfl⟩
    · replace c14 := bI_nz c14
      have ho9 : ¬ ordC (S 11) N (tkE (S 11) N e) = -1 := by simpa using c14
      rw [show (ordS S N (tkE (S 11) N e) o) = ((fun Z => s2 Z o 3 (ordC (S 11) N (tkE (S 11) N e))) (stepS S N (tkE (S 11) N e))) from if_neg ho9]
      refine x_aload_n C 0 dX4_takeStatement_17 rfl rfl ?_
      refine x_Vi 12 C (k_X4_takeSemicolon l G nR LL ad hF ((fun Z => s2 Z o 3 (ordC (S 11) N (tkE (S 11) N e))) (stepS S N (tkE (S 11) N e))) N (tkE (S 11) N (tkE (S 11) N e)) k (by rw [(trOk_s2 (o := o) (f := 3) (v := ordC (S 11) N (tkE (S 11) N e)) ho).2 _ 12 (by decide)]; exact hN) (by rw [(trOk_s2 (o := o) (f := 3) (v := ordC (S 11) N (tkE (S 11) N e)) ho).2 _ 12 (by decide)]; rfl) (by rw [(trOk_s2 (o := o) (f := 3) (v := ordC (S 11) N (tkE (S 11) N e)) ho).2 _ 10 (by decide)]; exact hk) hNk hk4 (tk_le (tk_le heN).2.2).2.2) gX4_takeStatement_X4_takeSemicolon rfl (by decide +kernel) ⟨(Nat.le_of_ble_eq_true rfl), (Nat.le_of_ble_eq_true rfl)⟩ ⟨(Nat.le_of_ble_eq_true rfl), (Nat.le_of_ble_eq_true rfl)⟩ (hF 12 (by decide)) (pf_12 G nR ad _) (T := TX4) (N := 5) rfl (n := 0) rfl (st := []) (Nat.le_of_ble_eq_true rfl) rfl dX4_takeStatement_18 (fun r9 u9 hr9 => ?_)
      obtain ⟨rfl, rfl⟩ : r9 = bI (decide (tkK (S 11) N (tkE (S 11) N (tkE (S 11) N e)) = 3)) ∧ u9 = ((fun Z => s2 Z o 3 (ordC (S 11) N (tkE (S 11) N e))) (stepS S N (tkE (S 11) N (tkE (S 11) N e)))) := ⟨by rw [hr9.1, (trOk_s2 (o := o) (f := 3) (v := ordC (S 11) N (tkE (S 11) N e)) ho).2 _ 11 (by decide)]; rfl, by rw [hr9.2]; exact (trOk_s2 (o := o) (f := 3) (v := ordC (S 11) N (tkE (S 11) N e)) ho).1 S N (tkE (S 11) N e) (tkE (S 11) N (tkE (S 11) N e))⟩
      refine x_if_eq C (tgt := 28) dX4_takeStatement_21 (by decide) (fun c21 => ?_) (fun c21 => ?_)
      · replace c21 := bI_z c21
        refine x_iconst C dX4_takeStatement_28 (v := 0) (by decide) ?_
        refine x_zret C hrt9 (Or.inl rfl) ((fun Z => s2 Z o 3 (ordC (S 11) N (tkE (S 11) N e))) (stepS S N (tkE (S 11) N (tkE (S 11) N e)))) ?_ rfl dX4_takeStatement_29
        have e1 := show stm nR o w (S 11) N e = _ from by unfold stm; rw [if_pos c6]
        rw [e1]
        unfold ordR
        rw [if_neg ho9]
        exact ⟨by rw [c21]; rfl, rfl⟩
      · replace c21 := bI_nz c21
        refine x_iconst C dX4_takeStatement_24 (v := 1) (by decide) ?_
        refine x_goto C (tgt := 29) dX4_takeStatement_25 (by decide) ?_
        refine x_zret C hrt9 (Or.inr rfl) ((fun Z => s2 Z o 3 (ordC (S 11) N (tkE (S 11) N e))) (stepS S N (tkE (S 11) N (tkE (S 11) N e)))) ?_ rfl dX4_takeStatement_29
        have e1 := show stm nR o w (S 11) N e = _ from by unfold stm; rw [if_pos c6]
        rw [e1]
        unfold ordR
        rw [if_neg ho9]
        exact ⟨by rw [c21]; rfl, rfl⟩

