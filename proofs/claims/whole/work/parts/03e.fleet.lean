/-! the statutes, the fleet -/
def CdOk (G : tf_G) (nR : Nat) (LL : List Nat) (ad : Nat → Nat) (S : tf_M) (n : Nat) : Prop := S 13 2 = nI n ∧ n ≤ 10 ∧ (∀ k, k < n → StOk G nR LL ad (400 + k) (500 + k)) ∧ (∀ k, k < n → ¬ S 14 k = 0) ∧ StOk G nR LL ad 15 16
def FlOk (G : tf_G) (nR : Nat) (LL : List Nat) (ad : Nat → Nat) (S : tf_M) (n : Nat) : Prop := S 7 2 = nI n ∧ n ≤ 12 ∧ (∀ k, k < n → SqOk G nR LL ad (100 + k) (200 + k) (300 + k)) ∧ (∀ k, k < n → ¬ S 8 k = 0)
/-- the statute in force on a day, by its id -/
def frc (S : tf_M) (day : Int32) : Nat → Nat
  | 0 => 15
  | k + 1 => if S (400 + k) 1 ≤ day then 400 + k else frc S day k
def frw (o : Nat) : Nat := if o = 15 then 16 else o + 100
theorem frc_ok {G : tf_G} {nR : Nat} {LL : List Nat} {ad : Nat → Nat} {S : tf_M} {n : Nat} (h : CdOk G nR LL ad S n) (day : Int32) : StOk G nR LL ad (frc S day n) (frw (frc S day n)) := by
  obtain ⟨-, h10, h1, -, h15⟩ := h
  have : ∀ k, k ≤ n → StOk G nR LL ad (frc S day k) (frw (frc S day k)) := by
    intro k
    induction k with
    | zero => exact fun _ => h15
    | succ k ih =>
      intro hk
      unfold frc
      by_cases g : S (400 + k) 1 ≤ day
      · rw [if_pos g]
        have e : frw (400 + k) = 500 + k := by unfold frw; rw [if_neg (by omega)]; omega
        rw [e]
        exact h1 k (by omega)
      · rw [if_neg g]
        exact ih (by omega)
  exact this n (Nat.le_refl n)
theorem isP_k {k n : Nat} (h : k < n) (hn : n < 2 ^ 31) : isP (nI k) (nI n) = true := by
  simp only [isP, Bool.and_eq_true, decide_eq_true_eq]
  exact ⟨nI_pos' (by omega), nI_lt h hn⟩
set_option maxHeartbeats 4000000 in
set_option maxRecDepth 100000 in
theorem k_X1_isFull (l : Launch) (G : tf_G) (nR : Nat) (LL : List Nat) (ad : Nat → Nat) (hF : ∀ j ∈ tf_fix, j ∈ LL) (S : tf_M) : Ci l yX1_isFull wsX1_isFull ({ frames := 0, cells := 0, slots := 0, locals := 0 } : Room) G LL ad (fun (_ : Unit) => pw G nR ad S) (pw G nR ad S) [.ref (ad 13)] (fun x _ => x = bI (decide (10 ≤ S 13 2))) := by
  have hin1 : ∀ w ∈ u_ws RX1 TX1 3, w ∈ wsX1_isFull := by decide +kernel
  have lk24 : Cond.fieldLink RX1 24 "TributeFleet$Code" "size" "I" ∈ wsX1_isFull := by decide +kernel
  refine ci_of (cc := cX1_isFull) (maxL := 1) (ret := (some .boolean)) (by decide +kernel) rfl (Nat.le_of_ble_eq_true rfl) ?_
  intro pv ev sv mv args below meth cv A C hrt9 hnm9
  have C : Cx pv sv mv args meth cv cX1_isFull 1 RX1 wsX1_isFull G A LL ad := C
  show XJ pv l ev _ sv mv args below meth cv G A LL ad _ 1 0 0 _ 0 [(0, .ref (ad 13))] []
  refine x_aload_n C 0 dX1_isFull_0 rfl rfl ?_
  refine x_get C (T := TX1) (N := 3) (v := .int (S 13 2)) 13 2 hin1 (hF 13 (by decide)) (pf_13 G nR ad _) rfl (by decide) lk24 rfl rfl dX1_isFull_1 ?_
  refine x_bipush C dX1_isFull_4 (v := 10) (by decide) ?_
  refine x_icmp_lt C (tgt := 13) dX1_isFull_6 (by decide) (fun c6 => ?_) (fun c6 => ?_)
  · skip
    refine x_iconst C dX1_isFull_13 (v := 0) (by decide) ?_
    refine x_zret C hrt9 (Or.inl rfl) () ?_ rfl dX1_isFull_14
    show _ = _
    simp [bI, ← Int32.not_lt]; simp_all
  · skip
    refine x_iconst C dX1_isFull_9 (v := 1) (by decide) ?_
    refine x_goto C (tgt := 14) dX1_isFull_10 (by decide) ?_
    refine x_zret C hrt9 (Or.inr rfl) () ?_ rfl dX1_isFull_14
    show _ = _
    simp [bI, ← Int32.not_lt]; simp_all

set_option maxHeartbeats 4000000 in
set_option maxRecDepth 100000 in
theorem k_X1_inForce (l : Launch) (G : tf_G) (nR : Nat) (LL : List Nat) (ad : Nat → Nat) (hF : ∀ j ∈ tf_fix, j ∈ LL) (S : tf_M) (n : Nat) (hcd : CdOk G nR LL ad S n) (day : Int32) : Cq l yX1_inForce wsX1_inForce ({ frames := 0, cells := 0, slots := 0, locals := 0 } : Room) G LL ad (fun (_ : Unit) => pw G nR ad S) (pw G nR ad S) [.ref (ad 13), .int day] (fun x _ => x = some (ad (frc S day n))) := by
  have hin1 : ∀ w ∈ u_ws RX1 TX1 3, w ∈ wsX1_inForce := by decide +kernel
  have lk24 : Cond.fieldLink RX1 24 "TributeFleet$Code" "size" "I" ∈ wsX1_inForce := by decide +kernel
  have lk20 : Cond.fieldLink RX1 20 "TributeFleet$Code" "unwritten" "LTributeFleet$Statute;" ∈ wsX1_inForce := by decide +kernel
  have lk13 : Cond.fieldLink RX1 13 "TributeFleet$Code" "taken" "[LTributeFleet$Statute;" ∈ wsX1_inForce := by decide +kernel
  have hin7 : ∀ w ∈ u_ws RX7 TX7 7, w ∈ wsX1_inForce := by decide +kernel
  have lk32 : Cond.fieldLink RX1 32 "TributeFleet$Statute" "fromDay" "I" ∈ wsX1_inForce := by decide +kernel
  refine cq_of (cc := cX1_inForce) (maxL := 4) (ret := (some (.object "TributeFleet$Statute"))) (by decide +kernel) rfl (Nat.le_of_ble_eq_true rfl) ?_
  intro pv ev sv mv args below meth cv A C hrt9 hnm9
  have C : Cx pv sv mv args meth cv cX1_inForce 4 RX1 wsX1_inForce G A LL ad := C
  show XJ pv l ev _ sv mv args below meth cv G A LL ad _ 4 0 0 _ 0 [(0, .ref (ad 13)), (1, .int day)] []
  refine x_aload_n C 0 dX1_inForce_0 rfl rfl ?_
  refine x_get C (T := TX1) (N := 3) (v := .int (S 13 2)) 13 2 hin1 (hF 13 (by decide)) (pf_13 G nR ad _) rfl (by decide) lk24 rfl rfl dX1_inForce_1 ?_
  refine x_iconst C dX1_inForce_4 (v := 1) (by decide) ?_
  refine x_isub C dX1_inForce_5 ?_
  refine x_istore_n C (L1 := [(2, .int ((S 13 2) - 1)), (0, .ref (ad 13)), (1, .int day)]) dX1_inForce_6 rfl (by decide) rfl ?_
  have lp7 : ∀ (k : Nat) , (k ≤ n) → (frc S day n = frc S day k) → XJ pv l ev ({ frames := 0, cells := 0, slots := 0, locals := 0 } : Room) sv mv args below meth cv G A LL ad (MQ below (va_Qq (fun x _ => x = some (ad (frc S day n))) (tf_B G LL ad (fun (_ : Unit) => pw G nR ad S)) A) args sv 0 0 A) 4 0 0 (pw G nR ad S) 7 [(0, .ref (ad 13)), (1, .int day), (2, .int (nI k - 1))] [] := by
    intro k
    induction k with
    | zero =>
      intro  hkn hf
      rw [show nI 0 - 1 = -1 from rfl]
      refine x_iload_n C 2 dX1_inForce_7 rfl rfl ?_
      refine x_if_lt C (tgt := 38) dX1_inForce_8 (by decide) (fun c8 => ?_) (fun c8 => ?_)
      rotate_left
      · exact absurd (by decide) c8
      refine x_aload_n C 0 dX1_inForce_38 rfl rfl ?_
      refine x_get C (T := TX1) (N := 3) (v := .ref (ad 15)) 13 1 hin1 (hF 13 (by decide)) (pf_13 G nR ad _) rfl (by decide) lk20 rfl rfl dX1_inForce_39 ?_
      refine x_aret C (r := some (ad (15))) hrt9 (Or.inl ⟨_, rfl⟩) () ?_ rfl dX1_inForce_42
      show _ = _
      rw [hf]
      rfl
    | succ k ih7 =>
      intro  hkn hf
      have ih := ih7
      have h10 := hcd.2.1
      have hq := hcd.2.2.1 k (by omega)
      rw [nI_pred]
      refine x_iload_n C 2 dX1_inForce_7 rfl rfl ?_
      refine x_if_lt C (tgt := 38) dX1_inForce_8 (by decide) (fun c8 => ?_) (fun c8 => ?_)
      · skip
        exact absurd c8 (nI_pos (by omega))
      · skip
        refine x_aload_n C 0 dX1_inForce_11 rfl rfl ?_
        refine x_get C (T := TX1) (N := 3) (v := .ref (ad 14)) 13 0 hin1 (hF 13 (by decide)) (pf_13 G nR ad _) rfl (by decide) lk13 rfl rfl dX1_inForce_12 ?_
        refine x_iload_n C 2 dX1_inForce_15 rfl rfl ?_
        refine x_aaldS C 14 4 (hF 14 (by decide)) (pf_14 G nR ad _) rfl (nI_in (show k < 10 by omega) (by decide)) (kk := k) (nI_clamp (by omega)) (a := ad (400 + k)) (if_neg (hcd.2.2.2.1 k (by omega))) dX1_inForce_16 ?_
        refine x_astore_n C (L1 := [(3, .ref (ad (400 + k))), (0, .ref (ad 13)), (1, .int day), (2, .int (nI k))]) dX1_inForce_17 rfl (by decide) rfl ?_
        refine x_aload_n C 0 dX1_inForce_18 rfl rfl ?_
        refine x_ifnull C dX1_inForce_19 ?_
        refine x_aload_n C 0 dX1_inForce_22 rfl rfl ?_
        refine x_get C (T := TX7) (N := 7) (v := .int (S (400 + k) 1)) (400 + k) 1 hin7 hq.2.2.1 (hq.1 _) rfl (by decide) lk32 rfl rfl dX1_inForce_23 ?_
        refine x_iload_n C 2 dX1_inForce_26 rfl rfl ?_
        refine x_icmp_gt C (tgt := 32) dX1_inForce_27 (by decide) (fun c27 => ?_) (fun c27 => ?_)
        · skip
          refine x_iinc C (L1 := [(2, .int ((nI k) - 1)), (3, .ref (ad (400 + k))), (0, .ref (ad 13)), (1, .int day)]) 3 dX1_inForce_32 rfl (i_dec1 _) (by decide) rfl ?_
          refine x_goto C (tgt := 7) dX1_inForce_35 (by decide) ?_
          refine x_sub [2, 3, 0] (L1 := [(0, .ref (ad 13)), (1, .int day), (2, .int ((nI k) - 1))]) rfl ?_
          exact ih (by omega) (by rw [hf]; simp only [frc, if_neg (Int32.not_le.mpr c27)])
        · skip
          refine x_aload_n C 0 dX1_inForce_30 rfl rfl ?_
          refine x_aret C (r := some (ad (400 + k))) hrt9 (Or.inl ⟨_, rfl⟩) () ?_ rfl dX1_inForce_31
          show _ = _
          rw [hf]
          simp only [frc, if_pos (Int32.not_lt.mp c27)]
  refine x_sub [1, 2, 0] (L1 := [(0, .ref (ad 13)), (1, .int day), (2, .int ((S 13 2) - 1))]) rfl ?_
  rw [hcd.1]
  exact lp7 n (Nat.le_refl n) rfl

set_option maxHeartbeats 4000000 in
set_option maxRecDepth 100000 in
theorem k_X3_isFull (l : Launch) (G : tf_G) (nR : Nat) (LL : List Nat) (ad : Nat → Nat) (hF : ∀ j ∈ tf_fix, j ∈ LL) (S : tf_M) : Ci l yX3_isFull wsX3_isFull ({ frames := 0, cells := 0, slots := 0, locals := 0 } : Room) G LL ad (fun (_ : Unit) => pw G nR ad S) (pw G nR ad S) [.ref (ad 7)] (fun x _ => x = bI (decide (12 ≤ S 7 2))) := by
  have hin3 : ∀ w ∈ u_ws RX3 TX3 3, w ∈ wsX3_isFull := by decide +kernel
  have lk21 : Cond.fieldLink RX3 21 "TributeFleet$Fleet" "size" "I" ∈ wsX3_isFull := by decide +kernel
  refine ci_of (cc := cX3_isFull) (maxL := 1) (ret := (some .boolean)) (by decide +kernel) rfl (Nat.le_of_ble_eq_true rfl) ?_
  intro pv ev sv mv args below meth cv A C hrt9 hnm9
  have C : Cx pv sv mv args meth cv cX3_isFull 1 RX3 wsX3_isFull G A LL ad := C
  show XJ pv l ev _ sv mv args below meth cv G A LL ad _ 1 0 0 _ 0 [(0, .ref (ad 7))] []
  refine x_aload_n C 0 dX3_isFull_0 rfl rfl ?_
  refine x_get C (T := TX3) (N := 3) (v := .int (S 7 2)) 7 2 hin3 (hF 7 (by decide)) (pf_7 G nR ad _) rfl (by decide) lk21 rfl rfl dX3_isFull_1 ?_
  refine x_bipush C dX3_isFull_4 (v := 12) (by decide) ?_
  refine x_icmp_lt C (tgt := 13) dX3_isFull_6 (by decide) (fun c6 => ?_) (fun c6 => ?_)
  · skip
    refine x_iconst C dX3_isFull_13 (v := 0) (by decide) ?_
    refine x_zret C hrt9 (Or.inl rfl) () ?_ rfl dX3_isFull_14
    show _ = _
    simp [bI, ← Int32.not_lt]; simp_all
  · skip
    refine x_iconst C dX3_isFull_9 (v := 1) (by decide) ?_
    refine x_goto C (tgt := 14) dX3_isFull_10 (by decide) ?_
    refine x_zret C hrt9 (Or.inr rfl) () ?_ rfl dX3_isFull_14
    show _ = _
    simp [bI, ← Int32.not_lt]; simp_all

set_option maxHeartbeats 4000000 in
set_option maxRecDepth 100000 in
theorem k_X3_find (l : Launch) (G : tf_G) (nR : Nat) (LL : List Nat) (ad : Nat → Nat) (hF : ∀ j ∈ tf_fix, j ∈ LL) (S : tf_M) (n : Nat) (hfl : FlOk G nR LL ad S n) (q : Int32) : Cq l yX3_find wsX3_find ({ frames := 1, cells := 0, slots := 0, locals := 21 } : Room) G LL ad (fun (_ : Unit) => pw G nR ad S) (pw G nR ad S) [.ref (ad 7), .int q] (fun x _ => (isP q (S 7 2) = true ∧ x = some (ad (100 + q.toNatClampNeg))) ∨ (isP q (S 7 2) = false ∧ x = none)) := by
  have hin3 : ∀ w ∈ u_ws RX3 TX3 3, w ∈ wsX3_find := by decide +kernel
  have lk21 : Cond.fieldLink RX3 21 "TributeFleet$Fleet" "size" "I" ∈ wsX3_find := by decide +kernel
  have ini9 : Cond.initialized RX9 ∈ wsX3_find := by decide +kernel
  have sttX9_isPlace : Cond.static yX9_isPlace ∈ wsX3_find := by decide +kernel
  have lk13 : Cond.fieldLink RX3 13 "TributeFleet$Fleet" "squadrons" "[LTributeFleet$Squadron;" ∈ wsX3_find := by decide +kernel
  refine cq_of (cc := cX3_find) (maxL := 2) (ret := (some (.object "TributeFleet$Squadron"))) (by decide +kernel) rfl (Nat.le_of_ble_eq_true rfl) ?_
  intro pv ev sv mv args below meth cv A C hrt9 hnm9
  have C : Cx pv sv mv args meth cv cX3_find 2 RX3 wsX3_find G A LL ad := C
  show XJ pv l ev _ sv mv args below meth cv G A LL ad _ 2 0 0 _ 0 [(0, .ref (ad 7)), (1, .int q)] []
  refine x_iload_n C 1 dX3_find_0 rfl rfl ?_
  refine x_aload_n C 0 dX3_find_1 rfl rfl ?_
  refine x_get C (T := TX3) (N := 3) (v := .int (S 7 2)) 7 2 hin3 (hF 7 (by decide)) (pf_7 G nR ad _) rfl (by decide) lk21 rfl rfl dX3_find_2 ?_
  refine x_Ni C (k_X9_isPlace l G LL ad _ q (S 7 2)) gX3_find_X9_isPlace_n29 rfl (by decide +kernel) C.2.2.1.2.1.2.2.1 ini9 sttX9_isPlace ⟨(Nat.le_of_ble_eq_true rfl), (Nat.le_of_ble_eq_true rfl)⟩ ⟨(Nat.le_of_ble_eq_true rfl), (Nat.le_of_ble_eq_true rfl)⟩ (n := 2) rfl (st := []) (Nat.le_of_ble_eq_true rfl) rfl dX3_find_5 (fun _ _ hr9 => ?_)
  subst hr9
  refine x_if_eq C (tgt := 20) dX3_find_8 (by decide) (fun c8 => ?_) (fun c8 => ?_)
  · replace c8 := bI_z c8
    refine x_null C dX3_find_20 ?_
    refine x_aret C (r := none) hrt9 (Or.inl ⟨_, rfl⟩) () ?_ rfl dX3_find_21
    exact Or.inr ⟨c8, rfl⟩
  · replace c8 := bI_nz c8
    refine x_aload_n C 0 dX3_find_11 rfl rfl ?_
    refine x_get C (T := TX3) (N := 3) (v := .ref (ad 8)) 7 0 hin3 (hF 7 (by decide)) (pf_7 G nR ad _) rfl (by decide) lk13 rfl rfl dX3_find_12 ?_
    refine x_iload_n C 1 dX3_find_15 rfl rfl ?_
    refine x_aaldS C 8 3 (hF 8 (by decide)) (pf_8 G nR ad _) rfl (vp_ok (by rw [← hfl.1]; exact c8) hfl.2.1 (by decide)) (kk := q.toNatClampNeg) rfl (a := ad (100 + q.toNatClampNeg)) (if_neg (hfl.2.2.2 _ (isP_nat (by rw [← hfl.1]; exact c8) (by have := hfl.2.1; omega)).1)) dX3_find_16 ?_
    refine x_goto C (tgt := 21) dX3_find_17 (by decide) ?_
    refine x_aret C (r := some (ad (100 + q.toNatClampNeg))) hrt9 (Or.inl ⟨_, rfl⟩) () ?_ rfl dX3_find_21
    exact Or.inl ⟨c8, rfl⟩

def boatsF (S : tf_M) (r : Int32) (k : Nat) : Int32 := if S (100 + k) 6 = r then S (100 + k) 1 else 0
def bagsF (S : tf_M) (c : Int32) (k : Nat) : Int32 := if S (100 + k) 0 = c ∧ come S (100 + k) = true then S (100 + k) 2 - S (100 + k) 8 else 0
def comeF (S : tf_M) (k : Nat) : Int32 := if come S (100 + k) = true then 1 else 0
set_option maxHeartbeats 4000000 in
set_option maxRecDepth 100000 in
theorem k_X3_boatsIn (l : Launch) (G : tf_G) (nR : Nat) (LL : List Nat) (ad : Nat → Nat) (hF : ∀ j ∈ tf_fix, j ∈ LL) (S : tf_M) (n : Nat) (hfl : FlOk G nR LL ad S n) (hR : nR ≤ 12) (r : Int32) : Ci l yX3_boatsIn wsX3_boatsIn ({ frames := 2, cells := 0, slots := 0, locals := 42 } : Room) G LL ad (fun (_ : Unit) => pw G nR ad S) (pw G nR ad S) [.ref (ad 7), .int r] (fun x _ => x = sumI (boatsF S r) n) := by
  have hin3 : ∀ w ∈ u_ws RX3 TX3 3, w ∈ wsX3_boatsIn := by decide +kernel
  have lk21 : Cond.fieldLink RX3 21 "TributeFleet$Fleet" "size" "I" ∈ wsX3_boatsIn := by decide +kernel
  have hin6 : ∀ w ∈ u_ws RX6 TX6 12, w ∈ wsX3_boatsIn := by decide +kernel
  have lk50 : Cond.fieldLink RX3 50 "TributeFleet$Squadron" "reach" "I" ∈ wsX3_boatsIn := by decide +kernel
  have lk47 : Cond.fieldLink RX3 47 "TributeFleet$Squadron" "boats" "I" ∈ wsX3_boatsIn := by decide +kernel
  refine ci_of (cc := cX3_boatsIn) (maxL := 5) (ret := (some .int)) (by decide +kernel) rfl (Nat.le_of_ble_eq_true rfl) ?_
  intro pv ev sv mv args below meth cv A C hrt9 hnm9
  have C : Cx pv sv mv args meth cv cX3_boatsIn 5 RX3 wsX3_boatsIn G A LL ad := C
  show XJ pv l ev _ sv mv args below meth cv G A LL ad _ 5 0 0 _ 0 [(0, .ref (ad 7)), (1, .int r)] []
  refine x_iconst C dX3_boatsIn_0 (v := 0) (by decide) ?_
  refine x_istore_n C (L1 := [(2, .int 0), (0, .ref (ad 7)), (1, .int r)]) dX3_boatsIn_1 rfl (by decide) rfl ?_
  refine x_iconst C dX3_boatsIn_2 (v := 0) (by decide) ?_
  refine x_istore_n C (L1 := [(3, .int 0), (2, .int 0), (0, .ref (ad 7)), (1, .int r)]) dX3_boatsIn_3 rfl (by decide) rfl ?_
  have lp4 : ∀ (d9 : Nat) (k : Nat) (sm : Int32), (k ≤ n) → (sm = sumI (boatsF S r) k) → n - k < d9 → XJ pv l ev ({ frames := 2, cells := 0, slots := 0, locals := 42 } : Room) sv mv args below meth cv G A LL ad (MQ below (va_Qi (fun x _ => x = sumI (boatsF S r) n) (tf_B G LL ad (fun (_ : Unit) => pw G nR ad S)) A) args sv 0 0 A) 5 0 0 (pw G nR ad S) 4 [(0, .ref (ad 7)), (1, .int r), (2, .int sm), (3, .int (nI k))] [] := by
    intro d9
    induction d9 with
    | zero => intro k sm hkn e0 hd9; omega
    | succ d9 ih4 =>
      intro k sm hkn e0 hd9
      have ih := ih4
      refine x_iload_n C 3 dX3_boatsIn_4 rfl rfl ?_
      refine x_aload_n C 0 dX3_boatsIn_5 rfl rfl ?_
      refine x_get C (T := TX3) (N := 3) (v := .int (S 7 2)) 7 2 hin3 (hF 7 (by decide)) (pf_7 G nR ad _) rfl (by decide) lk21 rfl rfl dX3_boatsIn_6 ?_
      refine x_icmp_ge C (tgt := 47) dX3_boatsIn_9 (by decide) (fun c9 => ?_) (fun c9 => ?_)
      · skip
        have hge : n ≤ k := nI_ge' (by rw [← hfl.1]; exact c9) (by have := hfl.2.1; omega)
        refine x_iload_n C 2 dX3_boatsIn_47 rfl rfl ?_
        refine x_iret C hrt9 () ?_ rfl dX3_boatsIn_48
        show _ = _
        rw [e0, show k = n by omega]
      · skip
        have hlt : k < n := nI_lt' (by rw [← hfl.1]; exact c9) (by have := hfl.2.1; omega)
        have hq := hfl.2.2.1 k hlt
        refine x_aload_n C 0 dX3_boatsIn_12 rfl rfl ?_
        refine x_iload_n C 3 dX3_boatsIn_13 rfl rfl ?_
        refine x_Vq 7 C (k_X3_find l G nR LL ad hF S n hfl (nI k)) gX3_boatsIn_X3_find rfl (by decide +kernel) ⟨(Nat.le_of_ble_eq_true rfl), (Nat.le_of_ble_eq_true rfl)⟩ ⟨(Nat.le_of_ble_eq_true rfl), (Nat.le_of_ble_eq_true rfl)⟩ (hF 7 (by decide)) (pf_7 G nR ad _) (T := TX3) (N := 3) rfl (n := 1) rfl (st := []) (Nat.le_of_ble_eq_true rfl) rfl dX3_boatsIn_14 (fun r9 _ hr9 => ?_)
        obtain rfl : r9 = some (ad (100 + k)) := by
          rcases hr9 with ⟨-, g9⟩ | ⟨g9, -⟩
          · rw [g9, nI_clamp (by have := hfl.2.1; have := hlt; omega)]
          · rw [hfl.1, isP_k hlt (by have := hfl.2.1; omega)] at g9; cases g9
        refine x_astore C (L1 := [(4, .ref (ad (100 + k))), (0, .ref (ad 7)), (1, .int r), (2, .int sm), (3, .int (nI k))]) dX3_boatsIn_17 (by decide) rfl ?_
        refine x_aload C 0 dX3_boatsIn_19 rfl ?_
        refine x_ifnull C dX3_boatsIn_21 ?_
        refine x_aload C 0 dX3_boatsIn_24 rfl ?_
        refine x_get C (T := TX6) (N := 12) (v := .int (S (100 + k) 6)) (100 + k) 6 hin6 hq.2.2.2.1 (hq.1 _) rfl (by decide) lk50 rfl rfl dX3_boatsIn_26 ?_
        refine x_iload_n C 2 dX3_boatsIn_29 rfl rfl ?_
        refine x_icmp_ne C (tgt := 41) dX3_boatsIn_30 (by decide) (fun c30 => ?_) (fun c30 => ?_)
        · skip
          refine x_iinc C (L1 := [(3, .int ((nI k) + 1)), (4, .ref (ad (100 + k))), (0, .ref (ad 7)), (1, .int r), (2, .int sm)]) 4 dX3_boatsIn_41 rfl rfl (by decide) rfl ?_
          refine x_goto C (tgt := 4) dX3_boatsIn_44 (by decide) ?_
          refine x_sub [2, 3, 4, 0] (L1 := [(0, .ref (ad 7)), (1, .int r), (2, .int sm), (3, .int ((nI k) + 1))]) rfl ?_
          rw [← nI_succ]
          exact ih (k + 1) _ (by omega) (by show _ = _ + _; rw [← e0]; simp [boatsF, c30]) (by omega)
        · skip
          refine x_iload_n C 3 dX3_boatsIn_33 rfl rfl ?_
          refine x_aload C 0 dX3_boatsIn_34 rfl ?_
          refine x_get C (T := TX6) (N := 12) (v := .int (S (100 + k) 1)) (100 + k) 1 hin6 hq.2.2.2.1 (hq.1 _) rfl (by decide) lk47 rfl rfl dX3_boatsIn_36 ?_
          refine x_iadd C dX3_boatsIn_39 ?_
          refine x_istore_n C (L1 := [(2, .int (sm + (S (100 + k) 1))), (4, .ref (ad (100 + k))), (0, .ref (ad 7)), (1, .int r), (3, .int (nI k))]) dX3_boatsIn_40 rfl (by decide) rfl ?_
          refine x_iinc C (L1 := [(3, .int ((nI k) + 1)), (2, .int (sm + (S (100 + k) 1))), (4, .ref (ad (100 + k))), (0, .ref (ad 7)), (1, .int r)]) 4 dX3_boatsIn_41 rfl rfl (by decide) rfl ?_
          refine x_goto C (tgt := 4) dX3_boatsIn_44 (by decide) ?_
          refine x_sub [3, 4, 1, 0] (L1 := [(0, .ref (ad 7)), (1, .int r), (2, .int (sm + (S (100 + k) 1))), (3, .int ((nI k) + 1))]) rfl ?_
          rw [← nI_succ]
          exact ih (k + 1) _ (by omega) (by show _ = _ + _; rw [← e0]; simp [boatsF, c30]) (by omega)
  refine x_sub [2, 3, 1, 0] (L1 := [(0, .ref (ad 7)), (1, .int r), (2, .int 0), (3, .int 0)]) rfl ?_
  exact lp4 (n + 1) 0 0 (Nat.zero_le _) rfl (by omega)

set_option maxHeartbeats 4000000 in
set_option maxRecDepth 100000 in
theorem k_X3_bagsComeOf (l : Launch) (G : tf_G) (nR : Nat) (LL : List Nat) (ad : Nat → Nat) (hF : ∀ j ∈ tf_fix, j ∈ LL) (S : tf_M) (n : Nat) (hfl : FlOk G nR LL ad S n) (hR : nR ≤ 12) (r : Int32) : Ci l yX3_bagsComeOf wsX3_bagsComeOf ({ frames := 2, cells := 0, slots := 0, locals := 42 } : Room) G LL ad (fun (_ : Unit) => pw G nR ad S) (pw G nR ad S) [.ref (ad 7), .int r] (fun x _ => x = sumI (bagsF S r) n) := by
  have hin3 : ∀ w ∈ u_ws RX3 TX3 3, w ∈ wsX3_bagsComeOf := by decide +kernel
  have lk21 : Cond.fieldLink RX3 21 "TributeFleet$Fleet" "size" "I" ∈ wsX3_bagsComeOf := by decide +kernel
  have hin6 : ∀ w ∈ u_ws RX6 TX6 12, w ∈ wsX3_bagsComeOf := by decide +kernel
  have lk44 : Cond.fieldLink RX3 44 "TributeFleet$Squadron" "county" "I" ∈ wsX3_bagsComeOf := by decide +kernel
  refine ci_of (cc := cX3_bagsComeOf) (maxL := 5) (ret := (some .int)) (by decide +kernel) rfl (Nat.le_of_ble_eq_true rfl) ?_
  intro pv ev sv mv args below meth cv A C hrt9 hnm9
  have C : Cx pv sv mv args meth cv cX3_bagsComeOf 5 RX3 wsX3_bagsComeOf G A LL ad := C
  show XJ pv l ev _ sv mv args below meth cv G A LL ad _ 5 0 0 _ 0 [(0, .ref (ad 7)), (1, .int r)] []
  refine x_iconst C dX3_bagsComeOf_0 (v := 0) (by decide) ?_
  refine x_istore_n C (L1 := [(2, .int 0), (0, .ref (ad 7)), (1, .int r)]) dX3_bagsComeOf_1 rfl (by decide) rfl ?_
  refine x_iconst C dX3_bagsComeOf_2 (v := 0) (by decide) ?_
  refine x_istore_n C (L1 := [(3, .int 0), (2, .int 0), (0, .ref (ad 7)), (1, .int r)]) dX3_bagsComeOf_3 rfl (by decide) rfl ?_
  have lp4 : ∀ (d9 : Nat) (k : Nat) (sm : Int32), (k ≤ n) → (sm = sumI (bagsF S r) k) → n - k < d9 → XJ pv l ev ({ frames := 2, cells := 0, slots := 0, locals := 42 } : Room) sv mv args below meth cv G A LL ad (MQ below (va_Qi (fun x _ => x = sumI (bagsF S r) n) (tf_B G LL ad (fun (_ : Unit) => pw G nR ad S)) A) args sv 0 0 A) 5 0 0 (pw G nR ad S) 4 [(0, .ref (ad 7)), (1, .int r), (2, .int sm), (3, .int (nI k))] [] := by
    intro d9
    induction d9 with
    | zero => intro k sm hkn e0 hd9; omega
    | succ d9 ih4 =>
      intro k sm hkn e0 hd9
      have ih := ih4
      refine x_iload_n C 3 dX3_bagsComeOf_4 rfl rfl ?_
      refine x_aload_n C 0 dX3_bagsComeOf_5 rfl rfl ?_
      refine x_get C (T := TX3) (N := 3) (v := .int (S 7 2)) 7 2 hin3 (hF 7 (by decide)) (pf_7 G nR ad _) rfl (by decide) lk21 rfl rfl dX3_bagsComeOf_6 ?_
      refine x_icmp_ge C (tgt := 55) dX3_bagsComeOf_9 (by decide) (fun c9 => ?_) (fun c9 => ?_)
      · skip
        have hge : n ≤ k := nI_ge' (by rw [← hfl.1]; exact c9) (by have := hfl.2.1; omega)
        refine x_iload_n C 2 dX3_bagsComeOf_55 rfl rfl ?_
        refine x_iret C hrt9 () ?_ rfl dX3_bagsComeOf_56
        show _ = _
        rw [e0, show k = n by omega]
      · skip
        have hlt : k < n := nI_lt' (by rw [← hfl.1]; exact c9) (by have := hfl.2.1; omega)
        have hq := hfl.2.2.1 k hlt
        refine x_aload_n C 0 dX3_bagsComeOf_12 rfl rfl ?_
        refine x_iload_n C 3 dX3_bagsComeOf_13 rfl rfl ?_
        refine x_Vq 7 C (k_X3_find l G nR LL ad hF S n hfl (nI k)) gX3_bagsComeOf_X3_find rfl (by decide +kernel) ⟨(Nat.le_of_ble_eq_true rfl), (Nat.le_of_ble_eq_true rfl)⟩ ⟨(Nat.le_of_ble_eq_true rfl), (Nat.le_of_ble_eq_true rfl)⟩ (hF 7 (by decide)) (pf_7 G nR ad _) (T := TX3) (N := 3) rfl (n := 1) rfl (st := []) (Nat.le_of_ble_eq_true rfl) rfl dX3_bagsComeOf_14 (fun r9 _ hr9 => ?_)
        obtain rfl : r9 = some (ad (100 + k)) := by
          rcases hr9 with ⟨-, g9⟩ | ⟨g9, -⟩
          · rw [g9, nI_clamp (by have := hfl.2.1; have := hlt; omega)]
          · rw [hfl.1, isP_k hlt (by have := hfl.2.1; omega)] at g9; cases g9
        refine x_astore C (L1 := [(4, .ref (ad (100 + k))), (0, .ref (ad 7)), (1, .int r), (2, .int sm), (3, .int (nI k))]) dX3_bagsComeOf_17 (by decide) rfl ?_
        refine x_aload C 0 dX3_bagsComeOf_19 rfl ?_
        refine x_ifnull C dX3_bagsComeOf_21 ?_
        refine x_aload C 0 dX3_bagsComeOf_24 rfl ?_
        refine x_get C (T := TX6) (N := 12) (v := .int (S (100 + k) 0)) (100 + k) 0 hin6 hq.2.2.2.1 (hq.1 _) rfl (by decide) lk44 rfl rfl dX3_bagsComeOf_26 ?_
        refine x_iload_n C 2 dX3_bagsComeOf_29 rfl rfl ?_
        refine x_icmp_ne C (tgt := 49) dX3_bagsComeOf_30 (by decide) (fun c30 => ?_) (fun c30 => ?_)
        · skip
          refine x_iinc C (L1 := [(3, .int ((nI k) + 1)), (4, .ref (ad (100 + k))), (0, .ref (ad 7)), (1, .int r), (2, .int sm)]) 4 dX3_bagsComeOf_49 rfl rfl (by decide) rfl ?_
          refine x_goto C (tgt := 4) dX3_bagsComeOf_52 (by decide) ?_
          refine x_sub [2, 3, 4, 0] (L1 := [(0, .ref (ad 7)), (1, .int r), (2, .int sm), (3, .int ((nI k) + 1))]) rfl ?_
          rw [← nI_succ]
          exact ih (k + 1) _ (by omega) (by show _ = _ + _; rw [← e0]; simp [bagsF, c30]) (by omega)
        · skip
          refine x_aload C 0 dX3_bagsComeOf_33 rfl ?_
          refine x_Vi (100 + k) C (k_X6_hasCome l G nR LL ad hF S (100 + k) (200 + k) (300 + k) hq  hR ) gX3_bagsComeOf_X6_hasCome rfl (by decide +kernel) ⟨(Nat.le_of_ble_eq_true rfl), (Nat.le_of_ble_eq_true rfl)⟩ ⟨(Nat.le_of_ble_eq_true rfl), (Nat.le_of_ble_eq_true rfl)⟩ hq.2.2.2.1 (hq.1 _) (T := TX6) (N := 12) rfl (n := 0) rfl (st := []) (Nat.le_of_ble_eq_true rfl) rfl dX3_bagsComeOf_35 (fun _ _ hr9 => ?_)
          subst hr9
          refine x_if_eq C (tgt := 49) dX3_bagsComeOf_38 (by decide) (fun c38 => ?_) (fun c38 => ?_)
          · replace c38 := bI_z c38
            refine x_iinc C (L1 := [(3, .int ((nI k) + 1)), (4, .ref (ad (100 + k))), (0, .ref (ad 7)), (1, .int r), (2, .int sm)]) 4 dX3_bagsComeOf_49 rfl rfl (by decide) rfl ?_
            refine x_goto C (tgt := 4) dX3_bagsComeOf_52 (by decide) ?_
            refine x_sub [2, 3, 4, 0] (L1 := [(0, .ref (ad 7)), (1, .int r), (2, .int sm), (3, .int ((nI k) + 1))]) rfl ?_
            rw [← nI_succ]
            exact ih (k + 1) _ (by omega) (by show _ = _ + _; rw [← e0]; simp [bagsF, c38]) (by omega)
          · replace c38 := bI_nz c38
            refine x_iload_n C 3 dX3_bagsComeOf_41 rfl rfl ?_
            refine x_aload C 0 dX3_bagsComeOf_42 rfl ?_
            refine x_Vi (100 + k) C (k_X6_bagsLeft l G nR LL ad hF S (100 + k) (200 + k) (300 + k) hq  hR ) gX3_bagsComeOf_X6_bagsLeft rfl (by decide +kernel) ⟨(Nat.le_of_ble_eq_true rfl), (Nat.le_of_ble_eq_true rfl)⟩ ⟨(Nat.le_of_ble_eq_true rfl), (Nat.le_of_ble_eq_true rfl)⟩ hq.2.2.2.1 (hq.1 _) (T := TX6) (N := 12) rfl (n := 0) rfl (st := [.int sm]) (Nat.le_of_ble_eq_true rfl) rfl dX3_bagsComeOf_44 (fun _ _ hr9 => ?_)
            subst hr9
            refine x_iadd C dX3_bagsComeOf_47 ?_
            refine x_istore_n C (L1 := [(2, .int (sm + (S (100 + k) 2 - S (100 + k) 8))), (4, .ref (ad (100 + k))), (0, .ref (ad 7)), (1, .int r), (3, .int (nI k))]) dX3_bagsComeOf_48 rfl (by decide) rfl ?_
            refine x_iinc C (L1 := [(3, .int ((nI k) + 1)), (2, .int (sm + (S (100 + k) 2 - S (100 + k) 8))), (4, .ref (ad (100 + k))), (0, .ref (ad 7)), (1, .int r)]) 4 dX3_bagsComeOf_49 rfl rfl (by decide) rfl ?_
            refine x_goto C (tgt := 4) dX3_bagsComeOf_52 (by decide) ?_
            refine x_sub [3, 4, 1, 0] (L1 := [(0, .ref (ad 7)), (1, .int r), (2, .int (sm + (S (100 + k) 2 - S (100 + k) 8))), (3, .int ((nI k) + 1))]) rfl ?_
            rw [← nI_succ]
            exact ih (k + 1) _ (by omega) (by show _ = _ + _; rw [← e0]; simp [bagsF, c30, c38]) (by omega)
  refine x_sub [2, 3, 1, 0] (L1 := [(0, .ref (ad 7)), (1, .int r), (2, .int 0), (3, .int 0)]) rfl ?_
  exact lp4 (n + 1) 0 0 (Nat.zero_le _) rfl (by omega)

set_option maxHeartbeats 4000000 in
set_option maxRecDepth 100000 in
theorem k_X3_come (l : Launch) (G : tf_G) (nR : Nat) (LL : List Nat) (ad : Nat → Nat) (hF : ∀ j ∈ tf_fix, j ∈ LL) (S : tf_M) (n : Nat) (hfl : FlOk G nR LL ad S n) (hR : nR ≤ 12) : Ci l yX3_come wsX3_come ({ frames := 2, cells := 0, slots := 0, locals := 42 } : Room) G LL ad (fun (_ : Unit) => pw G nR ad S) (pw G nR ad S) [.ref (ad 7)] (fun x _ => x = sumI (comeF S) n) := by
  have hin3 : ∀ w ∈ u_ws RX3 TX3 3, w ∈ wsX3_come := by decide +kernel
  have lk21 : Cond.fieldLink RX3 21 "TributeFleet$Fleet" "size" "I" ∈ wsX3_come := by decide +kernel
  refine ci_of (cc := cX3_come) (maxL := 4) (ret := (some .int)) (by decide +kernel) rfl (Nat.le_of_ble_eq_true rfl) ?_
  intro pv ev sv mv args below meth cv A C hrt9 hnm9
  have C : Cx pv sv mv args meth cv cX3_come 4 RX3 wsX3_come G A LL ad := C
  show XJ pv l ev _ sv mv args below meth cv G A LL ad _ 4 0 0 _ 0 [(0, .ref (ad 7))] []
  refine x_iconst C dX3_come_0 (v := 0) (by decide) ?_
  refine x_istore_n C (L1 := [(1, .int 0), (0, .ref (ad 7))]) dX3_come_1 rfl (by decide) rfl ?_
  refine x_iconst C dX3_come_2 (v := 0) (by decide) ?_
  refine x_istore_n C (L1 := [(2, .int 0), (1, .int 0), (0, .ref (ad 7))]) dX3_come_3 rfl (by decide) rfl ?_
  have lp4 : ∀ (d9 : Nat) (k : Nat) (sm : Int32), (k ≤ n) → (sm = sumI (comeF S) k) → n - k < d9 → XJ pv l ev ({ frames := 2, cells := 0, slots := 0, locals := 42 } : Room) sv mv args below meth cv G A LL ad (MQ below (va_Qi (fun x _ => x = sumI (comeF S) n) (tf_B G LL ad (fun (_ : Unit) => pw G nR ad S)) A) args sv 0 0 A) 4 0 0 (pw G nR ad S) 4 [(0, .ref (ad 7)), (1, .int sm), (2, .int (nI k))] [] := by
    intro d9
    induction d9 with
    | zero => intro k sm hkn e0 hd9; omega
    | succ d9 ih4 =>
      intro k sm hkn e0 hd9
      have ih := ih4
      refine x_iload_n C 2 dX3_come_4 rfl rfl ?_
      refine x_aload_n C 0 dX3_come_5 rfl rfl ?_
      refine x_get C (T := TX3) (N := 3) (v := .int (S 7 2)) 7 2 hin3 (hF 7 (by decide)) (pf_7 G nR ad _) rfl (by decide) lk21 rfl rfl dX3_come_6 ?_
      refine x_icmp_ge C (tgt := 38) dX3_come_9 (by decide) (fun c9 => ?_) (fun c9 => ?_)
      · skip
        have hge : n ≤ k := nI_ge' (by rw [← hfl.1]; exact c9) (by have := hfl.2.1; omega)
        refine x_iload_n C 1 dX3_come_38 rfl rfl ?_
        refine x_iret C hrt9 () ?_ rfl dX3_come_39
        show _ = _
        rw [e0, show k = n by omega]
      · skip
        have hlt : k < n := nI_lt' (by rw [← hfl.1]; exact c9) (by have := hfl.2.1; omega)
        have hq := hfl.2.2.1 k hlt
        refine x_aload_n C 0 dX3_come_12 rfl rfl ?_
        refine x_iload_n C 2 dX3_come_13 rfl rfl ?_
        refine x_Vq 7 C (k_X3_find l G nR LL ad hF S n hfl (nI k)) gX3_come_X3_find rfl (by decide +kernel) ⟨(Nat.le_of_ble_eq_true rfl), (Nat.le_of_ble_eq_true rfl)⟩ ⟨(Nat.le_of_ble_eq_true rfl), (Nat.le_of_ble_eq_true rfl)⟩ (hF 7 (by decide)) (pf_7 G nR ad _) (T := TX3) (N := 3) rfl (n := 1) rfl (st := []) (Nat.le_of_ble_eq_true rfl) rfl dX3_come_14 (fun r9 _ hr9 => ?_)
        obtain rfl : r9 = some (ad (100 + k)) := by
          rcases hr9 with ⟨-, g9⟩ | ⟨g9, -⟩
          · rw [g9, nI_clamp (by have := hfl.2.1; have := hlt; omega)]
          · rw [hfl.1, isP_k hlt (by have := hfl.2.1; omega)] at g9; cases g9
        refine x_astore_n C (L1 := [(3, .ref (ad (100 + k))), (0, .ref (ad 7)), (1, .int sm), (2, .int (nI k))]) dX3_come_17 rfl (by decide) rfl ?_
        refine x_aload_n C 0 dX3_come_18 rfl rfl ?_
        refine x_ifnull C dX3_come_19 ?_
        refine x_aload_n C 0 dX3_come_22 rfl rfl ?_
        refine x_Vi (100 + k) C (k_X6_hasCome l G nR LL ad hF S (100 + k) (200 + k) (300 + k) hq  hR ) gX3_come_X6_hasCome rfl (by decide +kernel) ⟨(Nat.le_of_ble_eq_true rfl), (Nat.le_of_ble_eq_true rfl)⟩ ⟨(Nat.le_of_ble_eq_true rfl), (Nat.le_of_ble_eq_true rfl)⟩ hq.2.2.2.1 (hq.1 _) (T := TX6) (N := 12) rfl (n := 0) rfl (st := []) (Nat.le_of_ble_eq_true rfl) rfl dX3_come_23 (fun _ _ hr9 => ?_)
        subst hr9
        refine x_if_eq C (tgt := 32) dX3_come_26 (by decide) (fun c26 => ?_) (fun c26 => ?_)
        · replace c26 := bI_z c26
          refine x_iinc C (L1 := [(2, .int ((nI k) + 1)), (3, .ref (ad (100 + k))), (0, .ref (ad 7)), (1, .int sm)]) 3 dX3_come_32 rfl rfl (by decide) rfl ?_
          refine x_goto C (tgt := 4) dX3_come_35 (by decide) ?_
          refine x_sub [2, 3, 0] (L1 := [(0, .ref (ad 7)), (1, .int sm), (2, .int ((nI k) + 1))]) rfl ?_
          rw [← nI_succ]
          exact ih (k + 1) _ (by omega) (by show _ = _ + _; rw [← e0]; simp [comeF, c26]) (by omega)
        · replace c26 := bI_nz c26
          refine x_iinc C (L1 := [(1, .int (sm + 1)), (3, .ref (ad (100 + k))), (0, .ref (ad 7)), (2, .int (nI k))]) 2 dX3_come_29 rfl rfl (by decide) rfl ?_
          refine x_iinc C (L1 := [(2, .int ((nI k) + 1)), (1, .int (sm + 1)), (3, .ref (ad (100 + k))), (0, .ref (ad 7))]) 3 dX3_come_32 rfl rfl (by decide) rfl ?_
          refine x_goto C (tgt := 4) dX3_come_35 (by decide) ?_
          refine x_sub [3, 1, 0] (L1 := [(0, .ref (ad 7)), (1, .int (sm + 1)), (2, .int ((nI k) + 1))]) rfl ?_
          rw [← nI_succ]
          exact ih (k + 1) _ (by omega) (by show _ = _ + _; rw [← e0]; simp [comeF, c26]) (by omega)
  refine x_sub [2, 1, 0] (L1 := [(0, .ref (ad 7)), (1, .int 0), (2, .int 0)]) rfl ?_
  exact lp4 (n + 1) 0 0 (Nat.zero_le _) rfl (by omega)

def hasAllB (S : tf_M) (x : Int32) : Bool := decide (us x (S 7 2) = 0)
def bgAll (nR : Nat) (S : tf_M) : Nat → tf_M
  | 0 => S
  | k + 1 => sqBegin nR (bgAll nR S k) (100 + k) (200 + k)
theorem s2_ne {S : tf_M} {j k i : Nat} {v : Int32} (h : i ≠ j) : s2 S j k v i = S i := by simp [s2, tf_u, h]
theorem sqBegin_ne {nR : Nat} {S : tf_M} {o d i : Nat} (h1 : i ≠ o) (h2 : i ≠ d) : sqBegin nR S o d i = S i := by
  unfold sqBegin
  split
  · rw [s2_ne h2, s2_ne h1]
  · rw [s2_ne h1]
theorem FlOk.keep {G : tf_G} {nR : Nat} {LL : List Nat} {ad : Nat → Nat} {S S1 : tf_M} {n : Nat} (h : FlOk G nR LL ad S n) (h7 : S1 7 = S 7) (h8 : S1 8 = S 8) : FlOk G nR LL ad S1 n := ⟨by rw [h7]; exact h.1, h.2.1, h.2.2.1, fun k hk => by rw [h8]; exact h.2.2.2 k hk⟩
theorem CdOk.keep {G : tf_G} {nR : Nat} {LL : List Nat} {ad : Nat → Nat} {S S1 : tf_M} {n : Nat} (h : CdOk G nR LL ad S n) (h7 : S1 13 = S 13) (h8 : S1 14 = S 14) : CdOk G nR LL ad S1 n := ⟨by rw [h7]; exact h.1, h.2.1, h.2.2.1, fun k hk => by rw [h8]; exact h.2.2.2.1 k hk, h.2.2.2.2⟩
set_option maxHeartbeats 4000000 in
set_option maxRecDepth 100000 in
theorem k_X3_hasAll (l : Launch) (G : tf_G) (nR : Nat) (LL : List Nat) (ad : Nat → Nat) (hF : ∀ j ∈ tf_fix, j ∈ LL) (S : tf_M) (x : Int32) : Ci l yX3_hasAll wsX3_hasAll ({ frames := 0, cells := 0, slots := 0, locals := 0 } : Room) G LL ad (fun (_ : Unit) => pw G nR ad S) (pw G nR ad S) [.ref (ad 7), .int x] (fun r _ => r = bI (hasAllB S x)) := by
  have hin3 : ∀ w ∈ u_ws RX3 TX3 3, w ∈ wsX3_hasAll := by decide +kernel
  have lk21 : Cond.fieldLink RX3 21 "TributeFleet$Fleet" "size" "I" ∈ wsX3_hasAll := by decide +kernel
  refine ci_of (cc := cX3_hasAll) (maxL := 2) (ret := (some .boolean)) (by decide +kernel) rfl (Nat.le_of_ble_eq_true rfl) ?_
  intro pv ev sv mv args below meth cv A C hrt9 hnm9
  have C : Cx pv sv mv args meth cv cX3_hasAll 2 RX3 wsX3_hasAll G A LL ad := C
  show XJ pv l ev _ sv mv args below meth cv G A LL ad _ 2 0 0 _ 0 [(0, .ref (ad 7)), (1, .int x)] []
  refine x_iload_n C 1 dX3_hasAll_0 rfl rfl ?_
  refine x_aload_n C 0 dX3_hasAll_1 rfl rfl ?_
  refine x_get C (T := TX3) (N := 3) (v := .int (S 7 2)) 7 2 hin3 (hF 7 (by decide)) (pf_7 G nR ad _) rfl (by decide) lk21 rfl rfl dX3_hasAll_2 ?_
  refine x_iushr C dX3_hasAll_5 ?_
  refine x_if_ne C (tgt := 13) dX3_hasAll_6 (by decide) (fun c6 => ?_) (fun c6 => ?_)
  · skip
    refine x_iconst C dX3_hasAll_13 (v := 0) (by decide) ?_
    refine x_zret C hrt9 (Or.inl rfl) () ?_ rfl dX3_hasAll_14
    show _ = _
    simp [hasAllB, bI, c6]
  · skip
    refine x_iconst C dX3_hasAll_9 (v := 1) (by decide) ?_
    refine x_goto C (tgt := 14) dX3_hasAll_10 (by decide) ?_
    refine x_zret C hrt9 (Or.inr rfl) () ?_ rfl dX3_hasAll_14
    show _ = _
    simp [hasAllB, bI, c6]

set_option maxHeartbeats 4000000 in
set_option maxRecDepth 100000 in
theorem k_X3_beginDay (l : Launch) (G : tf_G) (nR : Nat) (LL : List Nat) (ad : Nat → Nat) (hF : ∀ j ∈ tf_fix, j ∈ LL) (S : tf_M) (n : Nat) (hfl : FlOk G nR LL ad S n) (hR : nR ≤ 12) : Cv l yX3_beginDay wsX3_beginDay ({ frames := 2, cells := 0, slots := 0, locals := 42 } : Room) G LL ad (pw G nR ad) (pw G nR ad S) [.ref (ad 7)] (fun u => u = bgAll nR S n) := by
  have hin3 : ∀ w ∈ u_ws RX3 TX3 3, w ∈ wsX3_beginDay := by decide +kernel
  have lk21 : Cond.fieldLink RX3 21 "TributeFleet$Fleet" "size" "I" ∈ wsX3_beginDay := by decide +kernel
  refine cv_of (cc := cX3_beginDay) (maxL := 3) (ret := none) (by decide +kernel) rfl (Nat.le_of_ble_eq_true rfl) ?_
  intro pv ev sv mv args below meth cv A C hrt9 hnm9
  have C : Cx pv sv mv args meth cv cX3_beginDay 3 RX3 wsX3_beginDay G A LL ad := C
  show XJ pv l ev _ sv mv args below meth cv G A LL ad _ 3 0 0 _ 0 [(0, .ref (ad 7))] []
  refine x_iconst C dX3_beginDay_0 (v := 0) (by decide) ?_
  refine x_istore_n C (L1 := [(1, .int 0), (0, .ref (ad 7))]) dX3_beginDay_1 rfl (by decide) rfl ?_
  have lp2 : ∀ (d9 : Nat) (k : Nat) (S1 : tf_M), (k ≤ n) → (S1 = bgAll nR S k) → (FlOk G nR LL ad S1 n) → n - k < d9 → XJ pv l ev ({ frames := 2, cells := 0, slots := 0, locals := 42 } : Room) sv mv args below meth cv G A LL ad (MQ below (va_Qv (fun u => u = bgAll nR S n) (tf_B G LL ad (pw G nR ad)) A) args sv 0 0 A) 3 0 0 (pw G nR ad S1) 2 [(0, .ref (ad 7)), (1, .int (nI k))] [] := by
    intro d9
    induction d9 with
    | zero => intro k S1 hkn e0 hfl1 hd9; omega
    | succ d9 ih2 =>
      intro k S1 hkn e0 hfl1 hd9
      have ih := ih2
      refine x_iload_n C 1 dX3_beginDay_2 rfl rfl ?_
      refine x_aload_n C 0 dX3_beginDay_3 rfl rfl ?_
      refine x_get C (T := TX3) (N := 3) (v := .int (S1 7 2)) 7 2 hin3 (hF 7 (by decide)) (pf_7 G nR ad _) rfl (by decide) lk21 rfl rfl dX3_beginDay_4 ?_
      refine x_icmp_ge C (tgt := 30) dX3_beginDay_7 (by decide) (fun c7 => ?_) (fun c7 => ?_)
      · skip
        have hge : n ≤ k := nI_ge' (by rw [← hfl1.1]; exact c7) (by have := hfl1.2.1; omega)
        refine x_vret C hrt9 S1 ?_ rfl dX3_beginDay_30
        show _ = _
        rw [e0, show k = n by omega]
      · skip
        have hlt : k < n := nI_lt' (by rw [← hfl1.1]; exact c7) (by have := hfl1.2.1; omega)
        have hq := hfl1.2.2.1 k hlt
        refine x_aload_n C 0 dX3_beginDay_10 rfl rfl ?_
        refine x_iload_n C 1 dX3_beginDay_11 rfl rfl ?_
        refine x_Vq 7 C (k_X3_find l G nR LL ad hF S1 n hfl1 (nI k)) gX3_beginDay_X3_find rfl (by decide +kernel) ⟨(Nat.le_of_ble_eq_true rfl), (Nat.le_of_ble_eq_true rfl)⟩ ⟨(Nat.le_of_ble_eq_true rfl), (Nat.le_of_ble_eq_true rfl)⟩ (hF 7 (by decide)) (pf_7 G nR ad _) (T := TX3) (N := 3) rfl (n := 1) rfl (st := []) (Nat.le_of_ble_eq_true rfl) rfl dX3_beginDay_12 (fun r9 _ hr9 => ?_)
        obtain rfl : r9 = some (ad (100 + k)) := by
          rcases hr9 with ⟨-, g9⟩ | ⟨g9, -⟩
          · rw [g9, nI_clamp (by have := hfl1.2.1; have := hlt; omega)]
          · rw [hfl1.1, isP_k hlt (by have := hfl1.2.1; omega)] at g9; cases g9
        refine x_astore_n C (L1 := [(2, .ref (ad (100 + k))), (0, .ref (ad 7)), (1, .int (nI k))]) dX3_beginDay_15 rfl (by decide) rfl ?_
        refine x_aload_n C 0 dX3_beginDay_16 rfl rfl ?_
        refine x_ifnull C dX3_beginDay_17 ?_
        refine x_aload_n C 0 dX3_beginDay_20 rfl rfl ?_
        refine x_Vv (100 + k) C (k_X6_beginDay l G nR LL ad hF S1 (100 + k) (200 + k) (300 + k) hq  hR ) gX3_beginDay_X6_beginDay rfl (by decide +kernel) ⟨(Nat.le_of_ble_eq_true rfl), (Nat.le_of_ble_eq_true rfl)⟩ ⟨(Nat.le_of_ble_eq_true rfl), (Nat.le_of_ble_eq_true rfl)⟩ hq.2.2.2.1 (hq.1 _) (T := TX6) (N := 12) rfl (n := 0) rfl (st := []) (Nat.le_of_ble_eq_true rfl) rfl dX3_beginDay_21 (fun _ hr9 => ?_)
        subst hr9
        refine x_iinc C (L1 := [(1, .int ((nI k) + 1)), (2, .ref (ad (100 + k))), (0, .ref (ad 7))]) 2 dX3_beginDay_24 rfl rfl (by decide) rfl ?_
        refine x_goto C (tgt := 2) dX3_beginDay_27 (by decide) ?_
        refine x_sub [2, 0] (L1 := [(0, .ref (ad 7)), (1, .int ((nI k) + 1))]) rfl ?_
        rw [← nI_succ]
        exact ih (k + 1) _ (by omega) (by rw [e0]; rfl) (hfl1.keep (sqBegin_ne (by omega) (by omega)) (sqBegin_ne (by omega) (by omega))) (by omega)
  refine x_sub [1, 0] (L1 := [(0, .ref (ad 7)), (1, .int 0)]) rfl ?_
  exact lp2 (n + 1) 0 S (Nat.zero_le _) rfl hfl (by omega)

set_option maxHeartbeats 4000000 in
set_option maxRecDepth 100000 in
theorem k_X3_add (l : Launch) (G : tf_G) (nR : Nat) (LL : List Nat) (ad : Nat → Nat) (hF : ∀ j ∈ tf_fix, j ∈ LL) (S : tf_M) (n : Nat) (hn : S 7 2 = nI n) (h12 : n < 12) (hmv : 100 + n ∈ LL) : Ci l yX3_add wsX3_add ({ frames := 1, cells := 0, slots := 0, locals := 20 } : Room) G LL ad (pw G nR ad) (pw G nR ad S) [.ref (ad 7), .ref (ad (100 + n))] (fun x u => x = nI n ∧ u = s2 (s2 S 8 n 1) 7 2 (nI (n + 1))) := by
  have hin3 : ∀ w ∈ u_ws RX3 TX3 3, w ∈ wsX3_add := by decide +kernel
  have lk13 : Cond.fieldLink RX3 13 "TributeFleet$Fleet" "squadrons" "[LTributeFleet$Squadron;" ∈ wsX3_add := by decide +kernel
  have lk21 : Cond.fieldLink RX3 21 "TributeFleet$Fleet" "size" "I" ∈ wsX3_add := by decide +kernel
  refine ci_of (cc := cX3_add) (maxL := 2) (ret := (some .int)) (by decide +kernel) rfl (Nat.le_of_ble_eq_true rfl) ?_
  intro pv ev sv mv args below meth cv A C hrt9 hnm9
  have C : Cx pv sv mv args meth cv cX3_add 2 RX3 wsX3_add G A LL ad := C
  show XJ pv l ev _ sv mv args below meth cv G A LL ad _ 2 0 0 _ 0 [(0, .ref (ad 7)), (1, .ref (ad (100 + n)))] []
  refine x_aload_n C 0 dX3_add_0 rfl rfl ?_
  refine x_Vi 7 C (k_X3_isFull l G nR LL ad hF S  ) gX3_add_X3_isFull rfl (by decide +kernel) ⟨(Nat.le_of_ble_eq_true rfl), (Nat.le_of_ble_eq_true rfl)⟩ ⟨(Nat.le_of_ble_eq_true rfl), (Nat.le_of_ble_eq_true rfl)⟩ (hF 7 (by decide)) (pf_7 G nR ad _) (T := TX3) (N := 3) rfl (n := 0) rfl (st := []) (Nat.le_of_ble_eq_true rfl) rfl dX3_add_1 (fun _ _ hr9 => ?_)
  subst hr9
  refine x_if_eq C (tgt := 9) dX3_add_4 (by decide) (fun c4 => ?_) (fun c4 => ?_)
  · replace c4 := bI_z c4
    refine x_aload_n C 0 dX3_add_9 rfl rfl ?_
    refine x_get C (T := TX3) (N := 3) (v := .ref (ad 8)) 7 0 hin3 (hF 7 (by decide)) (pf_7 G nR ad _) rfl (by decide) lk13 rfl rfl dX3_add_10 ?_
    refine x_aload_n C 0 dX3_add_13 rfl rfl ?_
    refine x_get C (T := TX3) (N := 3) (v := .int (S 7 2)) 7 2 hin3 (hF 7 (by decide)) (pf_7 G nR ad _) rfl (by decide) lk21 rfl rfl dX3_add_14 ?_
    refine x_aload_n C 1 dX3_add_17 rfl rfl ?_
    refine y_aast8 C (hF 8 (by decide)) hmv rfl (pf_sq G nR ad _ (by omega)) (r := (RX6, TX6, 12)) rfl (by rw [hn]; exact nI_in h12 (by decide)) (by rw [hn]; exact nI_clamp (by omega)) dX3_add_18 ?_
    refine x_aload_n C 0 dX3_add_19 rfl rfl ?_
    refine x_dup C dX3_add_20 rfl ?_
    refine x_get C (T := TX3) (N := 3) (v := .int (S 7 2)) 7 2 hin3 (hF 7 (by decide)) (pf_7 G nR ad _) rfl (by decide) lk21 rfl rfl dX3_add_21 ?_
    refine x_iconst C dX3_add_24 (v := 1) (by decide) ?_
    refine x_iadd C dX3_add_25 ?_
    refine y_put C (T := TX3) (N := 3) (ty := .int) 7 2 hin3 tyX3 tyX3_ok nmX3 (hF 7 (by decide)) (pf_7 G nR ad _) (pf_7 G nR ad _) rfl (by decide) lk21 rfl rfl (by decide +kernel) rfl rfl (Nat.le_of_ble_eq_true rfl) dX3_add_26 ?_
    refine x_aload_n C 0 dX3_add_29 rfl rfl ?_
    refine x_get C (T := TX3) (N := 3) (v := .int ((S 7 2) + 1)) 7 2 hin3 (hF 7 (by decide)) (pf_7 G nR ad _) rfl (by decide) lk21 rfl rfl dX3_add_30 ?_
    refine x_iconst C dX3_add_33 (v := 1) (by decide) ?_
    refine x_isub C dX3_add_34 ?_
    refine x_iret C hrt9 (s2 (s2 S 8 n 1) 7 2 ((S 7 2) + 1)) ?_ rfl dX3_add_35
    refine ⟨?_, ?_⟩
    · rw [hn, ← nI_succ, nI_pred]
    · rw [hn, nI_succ]
  · replace c4 := bI_nz c4
    rw [hn] at c4
    simp only [decide_eq_true_eq] at c4
    exact absurd c4 (nI_ge (b := 12) h12 (by decide))

set_option maxHeartbeats 4000000 in
set_option maxRecDepth 100000 in
theorem k_X1_take (l : Launch) (G : tf_G) (nR : Nat) (LL : List Nat) (ad : Nat → Nat) (hF : ∀ j ∈ tf_fix, j ∈ LL) (S : tf_M) (n : Nat) (hn : S 13 2 = nI n) (h12 : n < 10) (hmv : 400 + n ∈ LL) : Ci l yX1_take wsX1_take ({ frames := 1, cells := 0, slots := 0, locals := 20 } : Room) G LL ad (pw G nR ad) (pw G nR ad S) [.ref (ad 13), .ref (ad (400 + n))] (fun x u => x = nI n ∧ u = s2 (s2 S 14 n 1) 13 2 (nI (n + 1))) := by
  have hin1 : ∀ w ∈ u_ws RX1 TX1 3, w ∈ wsX1_take := by decide +kernel
  have lk13 : Cond.fieldLink RX1 13 "TributeFleet$Code" "taken" "[LTributeFleet$Statute;" ∈ wsX1_take := by decide +kernel
  have lk24 : Cond.fieldLink RX1 24 "TributeFleet$Code" "size" "I" ∈ wsX1_take := by decide +kernel
  refine ci_of (cc := cX1_take) (maxL := 2) (ret := (some .int)) (by decide +kernel) rfl (Nat.le_of_ble_eq_true rfl) ?_
  intro pv ev sv mv args below meth cv A C hrt9 hnm9
  have C : Cx pv sv mv args meth cv cX1_take 2 RX1 wsX1_take G A LL ad := C
  show XJ pv l ev _ sv mv args below meth cv G A LL ad _ 2 0 0 _ 0 [(0, .ref (ad 13)), (1, .ref (ad (400 + n)))] []
  refine x_aload_n C 0 dX1_take_0 rfl rfl ?_
  refine x_Vi 13 C (k_X1_isFull l G nR LL ad hF S  ) gX1_take_X1_isFull rfl (by decide +kernel) ⟨(Nat.le_of_ble_eq_true rfl), (Nat.le_of_ble_eq_true rfl)⟩ ⟨(Nat.le_of_ble_eq_true rfl), (Nat.le_of_ble_eq_true rfl)⟩ (hF 13 (by decide)) (pf_13 G nR ad _) (T := TX1) (N := 3) rfl (n := 0) rfl (st := []) (Nat.le_of_ble_eq_true rfl) rfl dX1_take_1 (fun _ _ hr9 => ?_)
  subst hr9
  refine x_if_eq C (tgt := 9) dX1_take_4 (by decide) (fun c4 => ?_) (fun c4 => ?_)
  · replace c4 := bI_z c4
    refine x_aload_n C 0 dX1_take_9 rfl rfl ?_
    refine x_get C (T := TX1) (N := 3) (v := .ref (ad 14)) 13 0 hin1 (hF 13 (by decide)) (pf_13 G nR ad _) rfl (by decide) lk13 rfl rfl dX1_take_10 ?_
    refine x_aload_n C 0 dX1_take_13 rfl rfl ?_
    refine x_get C (T := TX1) (N := 3) (v := .int (S 13 2)) 13 2 hin1 (hF 13 (by decide)) (pf_13 G nR ad _) rfl (by decide) lk24 rfl rfl dX1_take_14 ?_
    refine x_aload_n C 1 dX1_take_17 rfl rfl ?_
    refine y_aast14 C (hF 14 (by decide)) hmv rfl (pf_st G nR ad _ (by omega)) (r := (RX7, TX7, 7)) rfl (by rw [hn]; exact nI_in h12 (by decide)) (by rw [hn]; exact nI_clamp (by omega)) dX1_take_18 ?_
    refine x_aload_n C 0 dX1_take_19 rfl rfl ?_
    refine x_dup C dX1_take_20 rfl ?_
    refine x_get C (T := TX1) (N := 3) (v := .int (S 13 2)) 13 2 hin1 (hF 13 (by decide)) (pf_13 G nR ad _) rfl (by decide) lk24 rfl rfl dX1_take_21 ?_
    refine x_iconst C dX1_take_24 (v := 1) (by decide) ?_
    refine x_iadd C dX1_take_25 ?_
    refine y_put C (T := TX1) (N := 3) (ty := .int) 13 2 hin1 tyX1 tyX1_ok nmX1 (hF 13 (by decide)) (pf_13 G nR ad _) (pf_13 G nR ad _) rfl (by decide) lk24 rfl rfl (by decide +kernel) rfl rfl (Nat.le_of_ble_eq_true rfl) dX1_take_26 ?_
    refine x_aload_n C 0 dX1_take_29 rfl rfl ?_
    refine x_get C (T := TX1) (N := 3) (v := .int ((S 13 2) + 1)) 13 2 hin1 (hF 13 (by decide)) (pf_13 G nR ad _) rfl (by decide) lk24 rfl rfl dX1_take_30 ?_
    refine x_iconst C dX1_take_33 (v := 1) (by decide) ?_
    refine x_isub C dX1_take_34 ?_
    refine x_iret C hrt9 (s2 (s2 S 14 n 1) 13 2 ((S 13 2) + 1)) ?_ rfl dX1_take_35
    refine ⟨?_, ?_⟩
    · rw [hn, ← nI_succ, nI_pred]
    · rw [hn, nI_succ]
  · replace c4 := bI_nz c4
    rw [hn] at c4
    simp only [decide_eq_true_eq] at c4
    exact absurd c4 (nI_ge (b := 10) h12 (by decide))

