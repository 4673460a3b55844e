/-! the schedule -/
def bit1 (x : Int32) (k : Nat) : Int32 := (x >>> (nI k &&& 31)) &&& 1
def endL (S : tf_M) (x : Int32) : Nat → Int32
  | 0 => S 21 5
  | k + 1 => if bit1 x k = 1 then endL S x k + S 23 k else endL S x k
def aftr (x y : Int32) : Int32 := x ||| ((1 : Int32) <<< (y &&& 31))
def restW (S : tf_M) (n : Nat) (x y : Int32) : Int32 := if isP y (nI n) = true ∧ isP (aftr x y) 64 = true then imax 0 (endL S (aftr x y) n - S 24 y.toNatClampNeg) + S 25 (aftr x y).toNatClampNeg else 0
def bestN (S : tf_M) (n : Nat) (x : Int32) : Nat → Int32
  | 0 => -1
  | k + 1 => if bit1 x k = 0 ∧ (bestN S n x k = -1 ∨ restW S n x (nI k) < restW S n x (bestN S n x k)) then nI k else bestN S n x k
def wgStep (S : tf_M) (n k : Nat) : tf_M := s2 S 25 k (if bestN S n (nI k) n = -1 then 0 else restW S n (nI k) (bestN S n (nI k) n))
def wgAll (n : Nat) : Nat → tf_M → tf_M
  | 0, S => S
  | k + 1, S => wgAll n k (wgStep S n k)
def ipL (S : tf_M) (n : Nat) : Nat → Int32 × Int32
  | 0 => (0, bestN S n 0 n)
  | j + 1 => if (ipL S n j).2 = -1 then ipL S n j else (aftr (ipL S n j).1 (ipL S n j).2, bestN S n (aftr (ipL S n j).1 (ipL S n j).2) n)
def inPl (S : tf_M) (n : Nat) (x : Int32) : Int32 := if isP x (nI n) = true then (if isP (ipL S n x.toNatClampNeg).2 (nI n) = true then S 22 (ipL S n x.toNatClampNeg).2.toNatClampNeg else -1) else -1
theorem vp_ok64 {v : Int32} (h : isP v 64 = true) : vp_in v 64 := vp_ok (n := 64) h (Nat.le_refl 64) (by decide)
theorem pow6 : ∀ n, n < 7 → (1 : Int32) <<< (nI n &&& 31) - 1 = nI (2 ^ n) - 1 := by decide +kernel
theorem pow6le : ∀ n, n < 7 → 2 ^ n ≤ 64 := by decide +kernel
set_option maxHeartbeats 4000000 in
set_option maxRecDepth 100000 in
theorem k_X5_clear (l : Launch) (G : tf_G) (nR : Nat) (LL : List Nat) (ad : Nat → Nat) (hF : ∀ j ∈ tf_fix, j ∈ LL) (S : tf_M) : Cv l yX5_clear wsX5_clear ({ frames := 0, cells := 0, slots := 0, locals := 0 } : Room) G LL ad (pw G nR ad) (pw G nR ad S) [.ref (ad 21)] (fun u => u = s2 S 21 4 0) := by
  have hin5 : ∀ w ∈ u_ws RX5 TX5 6, w ∈ wsX5_clear := by decide +kernel
  have lk24 : Cond.fieldLink RX5 24 "TributeFleet$Schedule" "size" "I" ∈ wsX5_clear := by decide +kernel
  refine cv_of (cc := cX5_clear) (maxL := 1) (ret := none) (by decide +kernel) rfl (Nat.le_of_ble_eq_true rfl) ?_
  intro pv ev sv mv args below meth cv A C hrt9 hnm9
  have C : Cx pv sv mv args meth cv cX5_clear 1 RX5 wsX5_clear G A LL ad := C
  show XJ pv l ev _ sv mv args below meth cv G A LL ad _ 1 0 0 _ 0 [(0, .ref (ad 21))] []
  refine x_aload_n C 0 dX5_clear_0 rfl rfl ?_
  refine x_iconst C dX5_clear_1 (v := 0) (by decide) ?_
  refine y_put C (T := TX5) (N := 6) (ty := .int) 21 4 hin5 tyX5 tyX5_ok nmX5 (hF 21 (by decide)) (pf_21 G nR ad _) (pf_21 G nR ad _) rfl (by decide) lk24 rfl rfl (by decide +kernel) rfl rfl (Nat.le_of_ble_eq_true rfl) dX5_clear_2 ?_
  refine x_vret C hrt9 (s2 S 21 4 0) ?_ rfl dX5_clear_5
  rfl

def schAdd (S : tf_M) (n : Nat) (a b d : Int32) : tf_M := s2 (s2 (s2 (s2 S 22 n a) 23 n b) 24 n d) 21 4 (nI (n + 1))
set_option maxHeartbeats 4000000 in
set_option maxRecDepth 100000 in
theorem k_X5_add (l : Launch) (G : tf_G) (nR : Nat) (LL : List Nat) (ad : Nat → Nat) (hF : ∀ j ∈ tf_fix, j ∈ LL) (S : tf_M) (n : Nat) (hm : S 21 4 = nI n) (h6 : n < 6) (a b d : Int32) : Cv l yX5_add wsX5_add ({ frames := 0, cells := 0, slots := 0, locals := 0 } : Room) G LL ad (pw G nR ad) (pw G nR ad S) [.ref (ad 21), .int a, .int b, .int d] (fun u => u = schAdd S n a b d) := by
  have hin5 : ∀ w ∈ u_ws RX5 TX5 6, w ∈ wsX5_add := by decide +kernel
  have lk24 : Cond.fieldLink RX5 24 "TributeFleet$Schedule" "size" "I" ∈ wsX5_add := by decide +kernel
  have lk11 : Cond.fieldLink RX5 11 "TributeFleet$Schedule" "numbers" "[I" ∈ wsX5_add := by decide +kernel
  have lk15 : Cond.fieldLink RX5 15 "TributeFleet$Schedule" "takes" "[I" ∈ wsX5_add := by decide +kernel
  have lk18 : Cond.fieldLink RX5 18 "TributeFleet$Schedule" "dueDays" "[I" ∈ wsX5_add := by decide +kernel
  refine cv_of (cc := cX5_add) (maxL := 4) (ret := none) (by decide +kernel) rfl (Nat.le_of_ble_eq_true rfl) ?_
  intro pv ev sv mv args below meth cv A C hrt9 hnm9
  have C : Cx pv sv mv args meth cv cX5_add 4 RX5 wsX5_add G A LL ad := C
  show XJ pv l ev _ sv mv args below meth cv G A LL ad _ 4 0 0 _ 0 [(0, .ref (ad 21)), (1, .int a), (2, .int b), (3, .int d)] []
  refine x_aload_n C 0 dX5_add_0 rfl rfl ?_
  refine x_get C (T := TX5) (N := 6) (v := .int (S 21 4)) 21 4 hin5 (hF 21 (by decide)) (pf_21 G nR ad _) rfl (by decide) lk24 rfl rfl dX5_add_1 ?_
  refine x_bipush C dX5_add_4 (v := 6) (by decide) ?_
  refine x_icmp_ge C (tgt := 49) dX5_add_6 (by decide) (fun c6 => ?_) (fun c6 => ?_)
  · skip
    exact absurd c6 (by rw [hm]; exact nI_ge (b := 6) h6 (by decide))
  · skip
    refine x_aload_n C 0 dX5_add_9 rfl rfl ?_
    refine x_get C (T := TX5) (N := 6) (v := .ref (ad 22)) 21 0 hin5 (hF 21 (by decide)) (pf_21 G nR ad _) rfl (by decide) lk11 rfl rfl dX5_add_10 ?_
    refine x_aload_n C 0 dX5_add_13 rfl rfl ?_
    refine x_get C (T := TX5) (N := 6) (v := .int (S 21 4)) 21 4 hin5 (hF 21 (by decide)) (pf_21 G nR ad _) rfl (by decide) lk24 rfl rfl dX5_add_14 ?_
    refine x_iload_n C 1 dX5_add_17 rfl rfl ?_
    refine y_iast C 22 (hF 22 (by decide)) (fun f => (pf_22 G nR ad f)) (by show vp_in (S 21 4) 6; rw [hm]; exact nI_in h6 (by decide)) (kk := n) (by show (S 21 4).toNatClampNeg = n; rw [hm]; exact nI_clamp (by omega)) dX5_add_18 ?_
    refine x_aload_n C 0 dX5_add_19 rfl rfl ?_
    refine x_get C (T := TX5) (N := 6) (v := .ref (ad 23)) 21 1 hin5 (hF 21 (by decide)) (pf_21 G nR ad _) rfl (by decide) lk15 rfl rfl dX5_add_20 ?_
    refine x_aload_n C 0 dX5_add_23 rfl rfl ?_
    refine x_get C (T := TX5) (N := 6) (v := .int (S 21 4)) 21 4 hin5 (hF 21 (by decide)) (pf_21 G nR ad _) rfl (by decide) lk24 rfl rfl dX5_add_24 ?_
    refine x_iload_n C 2 dX5_add_27 rfl rfl ?_
    refine y_iast C 23 (hF 23 (by decide)) (fun f => (pf_23 G nR ad f)) (by show vp_in (S 21 4) 6; rw [hm]; exact nI_in h6 (by decide)) (kk := n) (by show (S 21 4).toNatClampNeg = n; rw [hm]; exact nI_clamp (by omega)) dX5_add_28 ?_
    refine x_aload_n C 0 dX5_add_29 rfl rfl ?_
    refine x_get C (T := TX5) (N := 6) (v := .ref (ad 24)) 21 2 hin5 (hF 21 (by decide)) (pf_21 G nR ad _) rfl (by decide) lk18 rfl rfl dX5_add_30 ?_
    refine x_aload_n C 0 dX5_add_33 rfl rfl ?_
    refine x_get C (T := TX5) (N := 6) (v := .int (S 21 4)) 21 4 hin5 (hF 21 (by decide)) (pf_21 G nR ad _) rfl (by decide) lk24 rfl rfl dX5_add_34 ?_
    refine x_iload_n C 3 dX5_add_37 rfl rfl ?_
    refine y_iast C 24 (hF 24 (by decide)) (fun f => (pf_24 G nR ad f)) (by show vp_in (S 21 4) 6; rw [hm]; exact nI_in h6 (by decide)) (kk := n) (by show (S 21 4).toNatClampNeg = n; rw [hm]; exact nI_clamp (by omega)) dX5_add_38 ?_
    refine x_aload_n C 0 dX5_add_39 rfl rfl ?_
    refine x_dup C dX5_add_40 rfl ?_
    refine x_get C (T := TX5) (N := 6) (v := .int (S 21 4)) 21 4 hin5 (hF 21 (by decide)) (pf_21 G nR ad _) rfl (by decide) lk24 rfl rfl dX5_add_41 ?_
    refine x_iconst C dX5_add_44 (v := 1) (by decide) ?_
    refine x_iadd C dX5_add_45 ?_
    refine y_put C (T := TX5) (N := 6) (ty := .int) 21 4 hin5 tyX5 tyX5_ok nmX5 (hF 21 (by decide)) (pf_21 G nR ad _) (pf_21 G nR ad _) rfl (by decide) lk24 rfl rfl (by decide +kernel) rfl rfl (Nat.le_of_ble_eq_true rfl) dX5_add_46 ?_
    refine x_vret C hrt9 (s2 (s2 (s2 (s2 S 22 n a) 23 n b) 24 n d) 21 4 ((S 21 4) + 1)) ?_ rfl dX5_add_49
    show _ = _
    rw [hm, ← nI_succ]
    rfl

set_option maxHeartbeats 4000000 in
set_option maxRecDepth 100000 in
theorem k_X5_endOf (l : Launch) (G : tf_G) (nR : Nat) (LL : List Nat) (ad : Nat → Nat) (hF : ∀ j ∈ tf_fix, j ∈ LL) (S : tf_M) (n : Nat) (hm : S 21 4 = nI n) (h6 : n ≤ 6) (x : Int32) : Ci l yX5_endOf wsX5_endOf ({ frames := 0, cells := 0, slots := 0, locals := 0 } : Room) G LL ad (fun (_ : Unit) => pw G nR ad S) (pw G nR ad S) [.ref (ad 21), .int x] (fun r _ => r = endL S x n) := by
  have hin5 : ∀ w ∈ u_ws RX5 TX5 6, w ∈ wsX5_endOf := by decide +kernel
  have lk28 : Cond.fieldLink RX5 28 "TributeFleet$Schedule" "firstDay" "I" ∈ wsX5_endOf := by decide +kernel
  have lk24 : Cond.fieldLink RX5 24 "TributeFleet$Schedule" "size" "I" ∈ wsX5_endOf := by decide +kernel
  have lk15 : Cond.fieldLink RX5 15 "TributeFleet$Schedule" "takes" "[I" ∈ wsX5_endOf := by decide +kernel
  refine ci_of (cc := cX5_endOf) (maxL := 4) (ret := (some .int)) (by decide +kernel) rfl (Nat.le_of_ble_eq_true rfl) ?_
  intro pv ev sv mv args below meth cv A C hrt9 hnm9
  have C : Cx pv sv mv args meth cv cX5_endOf 4 RX5 wsX5_endOf G A LL ad := C
  show XJ pv l ev _ sv mv args below meth cv G A LL ad _ 4 0 0 _ 0 [(0, .ref (ad 21)), (1, .int x)] []
  refine x_aload_n C 0 dX5_endOf_0 rfl rfl ?_
  refine x_get C (T := TX5) (N := 6) (v := .int (S 21 5)) 21 5 hin5 (hF 21 (by decide)) (pf_21 G nR ad _) rfl (by decide) lk28 rfl rfl dX5_endOf_1 ?_
  refine x_istore_n C (L1 := [(2, .int (S 21 5)), (0, .ref (ad 21)), (1, .int x)]) dX5_endOf_4 rfl (by decide) rfl ?_
  refine x_iconst C dX5_endOf_5 (v := 0) (by decide) ?_
  refine x_istore_n C (L1 := [(3, .int 0), (2, .int (S 21 5)), (0, .ref (ad 21)), (1, .int x)]) dX5_endOf_6 rfl (by decide) rfl ?_
  have lp7 : ∀ (d9 : Nat) (k : Nat) (sm : Int32), (k ≤ n) → (sm = endL S x k) → n - k < d9 → XJ pv l ev ({ frames := 0, cells := 0, slots := 0, locals := 0 } : Room) sv mv args below meth cv G A LL ad (MQ below (va_Qi (fun r _ => r = endL S x n) (tf_B G LL ad (fun (_ : Unit) => pw G nR ad S)) A) args sv 0 0 A) 4 0 0 (pw G nR ad S) 7 [(0, .ref (ad 21)), (1, .int x), (2, .int sm), (3, .int (nI k))] [] := by
    intro d9
    induction d9 with
    | zero => intro k sm hkn e0 hd9; omega
    | succ d9 ih7 =>
      intro k sm hkn e0 hd9
      have ih := ih7
      refine x_iload_n C 3 dX5_endOf_7 rfl rfl ?_
      refine x_aload_n C 0 dX5_endOf_8 rfl rfl ?_
      refine x_get C (T := TX5) (N := 6) (v := .int (S 21 4)) 21 4 hin5 (hF 21 (by decide)) (pf_21 G nR ad _) rfl (by decide) lk24 rfl rfl dX5_endOf_9 ?_
      refine x_icmp_ge C (tgt := 39) dX5_endOf_12 (by decide) (fun c12 => ?_) (fun c12 => ?_)
      · skip
        have hge : n ≤ k := nI_ge' (by rw [← hm]; exact c12) (by omega)
        refine x_iload_n C 2 dX5_endOf_39 rfl rfl ?_
        refine x_iret C hrt9 () ?_ rfl dX5_endOf_40
        show _ = _
        rw [e0, show k = n by omega]
      · skip
        have hlt : k < n := nI_lt' (by rw [← hm]; exact c12) (by omega)
        refine x_iload_n C 1 dX5_endOf_15 rfl rfl ?_
        refine x_iload_n C 3 dX5_endOf_16 rfl rfl ?_
        refine x_ishr C dX5_endOf_17 ?_
        refine x_iconst C dX5_endOf_18 (v := 1) (by decide) ?_
        refine x_iand C dX5_endOf_19 ?_
        refine x_iconst C dX5_endOf_20 (v := 1) (by decide) ?_
        refine x_icmp_ne C (tgt := 33) dX5_endOf_21 (by decide) (fun c21 => ?_) (fun c21 => ?_)
        · skip
          refine x_iinc C (L1 := [(3, .int ((nI k) + 1)), (0, .ref (ad 21)), (1, .int x), (2, .int sm)]) 3 dX5_endOf_33 rfl rfl (by decide) rfl ?_
          refine x_goto C (tgt := 7) dX5_endOf_36 (by decide) ?_
          refine x_sub [1, 2, 3, 0] (L1 := [(0, .ref (ad 21)), (1, .int x), (2, .int sm), (3, .int ((nI k) + 1))]) rfl ?_
          rw [← nI_succ]
          exact ih (k + 1) _ (by omega) (by rw [endL, if_neg (show ¬ bit1 x k = 1 from c21)]; exact e0) (by omega)
        · skip
          refine x_iload_n C 2 dX5_endOf_24 rfl rfl ?_
          refine x_aload_n C 0 dX5_endOf_25 rfl rfl ?_
          refine x_get C (T := TX5) (N := 6) (v := .ref (ad 23)) 21 1 hin5 (hF 21 (by decide)) (pf_21 G nR ad _) rfl (by decide) lk15 rfl rfl dX5_endOf_26 ?_
          refine x_iload_n C 3 dX5_endOf_29 rfl rfl ?_
          refine x_iald C 23 (hF 23 (by decide)) (pf_23 G nR ad _) (nI_in (N := 6) (show k < 6 by omega) (by omega)) (kk := k) (nI_clamp (by omega)) dX5_endOf_30 ?_
          refine x_iadd C dX5_endOf_31 ?_
          refine x_istore_n C (L1 := [(2, .int (sm + (S 23 (k)))), (0, .ref (ad 21)), (1, .int x), (3, .int (nI k))]) dX5_endOf_32 rfl (by decide) rfl ?_
          refine x_iinc C (L1 := [(3, .int ((nI k) + 1)), (2, .int (sm + (S 23 (k)))), (0, .ref (ad 21)), (1, .int x)]) 3 dX5_endOf_33 rfl rfl (by decide) rfl ?_
          refine x_goto C (tgt := 7) dX5_endOf_36 (by decide) ?_
          refine x_sub [2, 3, 1, 0] (L1 := [(0, .ref (ad 21)), (1, .int x), (2, .int (sm + (S 23 (k)))), (3, .int ((nI k) + 1))]) rfl ?_
          rw [← nI_succ]
          exact ih (k + 1) _ (by omega) (by rw [endL, if_pos (show bit1 x k = 1 from c21), e0]) (by omega)
  refine x_sub [2, 3, 1, 0] (L1 := [(0, .ref (ad 21)), (1, .int x), (2, .int (S 21 5)), (3, .int 0)]) rfl ?_
  exact lp7 (n + 1) 0 (S 21 5) (Nat.zero_le _) rfl (by omega)

set_option maxHeartbeats 4000000 in
set_option maxRecDepth 100000 in
theorem k_X5_restWith (l : Launch) (G : tf_G) (nR : Nat) (LL : List Nat) (ad : Nat → Nat) (hF : ∀ j ∈ tf_fix, j ∈ LL) (S : tf_M) (n : Nat) (hm : S 21 4 = nI n) (h6 : n ≤ 6) (x y : Int32) : Ci l yX5_restWith wsX5_restWith ({ frames := 1, cells := 0, slots := 0, locals := 23 } : Room) G LL ad (fun (_ : Unit) => pw G nR ad S) (pw G nR ad S) [.ref (ad 21), .int x, .int y] (fun r _ => r = restW S n x y) := by
  have hin5 : ∀ w ∈ u_ws RX5 TX5 6, w ∈ wsX5_restWith := by decide +kernel
  have lk24 : Cond.fieldLink RX5 24 "TributeFleet$Schedule" "size" "I" ∈ wsX5_restWith := by decide +kernel
  have ini9 : Cond.initialized RX9 ∈ wsX5_restWith := by decide +kernel
  have sttX9_isPlace : Cond.static yX9_isPlace ∈ wsX5_restWith := by decide +kernel
  have lk21 : Cond.fieldLink RX5 21 "TributeFleet$Schedule" "rest" "[I" ∈ wsX5_restWith := by decide +kernel
  have lk18 : Cond.fieldLink RX5 18 "TributeFleet$Schedule" "dueDays" "[I" ∈ wsX5_restWith := by decide +kernel
  have hm1max : Cond.methodLink RX5 46 Lib.Math.max.name ∈ wsX5_restWith := by decide +kernel
  have hm2max : Cond.static Lib.Math.max.name ∈ wsX5_restWith := by decide +kernel
  have hm3 : Cond.initialized "java/lang/Math" ∈ wsX5_restWith := by decide +kernel
  have hm4max : Cond.code Lib.Math.max.name Lib.Math.max.code 2 (some .int) ∈ wsX5_restWith := by decide +kernel
  refine ci_of (cc := cX5_restWith) (maxL := 4) (ret := (some .int)) (by decide +kernel) rfl (Nat.le_of_ble_eq_true rfl) ?_
  intro pv ev sv mv args below meth cv A C hrt9 hnm9
  have C : Cx pv sv mv args meth cv cX5_restWith 4 RX5 wsX5_restWith G A LL ad := C
  show XJ pv l ev _ sv mv args below meth cv G A LL ad _ 4 0 0 _ 0 [(0, .ref (ad 21)), (1, .int x), (2, .int y)] []
  refine x_iload_n C 1 dX5_restWith_0 rfl rfl ?_
  refine x_iconst C dX5_restWith_1 (v := 1) (by decide) ?_
  refine x_iload_n C 2 dX5_restWith_2 rfl rfl ?_
  refine x_ishl C dX5_restWith_3 ?_
  refine x_ior C dX5_restWith_4 ?_
  refine x_istore_n C (L1 := [(3, .int (x ||| (1 <<< (y &&& 31)))), (0, .ref (ad 21)), (1, .int x), (2, .int y)]) dX5_restWith_5 rfl (by decide) rfl ?_
  refine x_iload_n C 3 dX5_restWith_6 rfl rfl ?_
  refine x_aload_n C 1 dX5_restWith_7 rfl rfl ?_
  refine x_get C (T := TX5) (N := 6) (v := .int (S 21 4)) 21 4 hin5 (hF 21 (by decide)) (pf_21 G nR ad _) rfl (by decide) lk24 rfl rfl dX5_restWith_8 ?_
  refine x_Ni C (k_X9_isPlace l G LL ad _ y (S 21 4)) gX5_restWith_X9_isPlace_n39 rfl (by decide +kernel) C.2.2.1.2.1.2.2.2.1 ini9 sttX9_isPlace ⟨(Nat.le_of_ble_eq_true rfl), (Nat.le_of_ble_eq_true rfl)⟩ ⟨(Nat.le_of_ble_eq_true rfl), (Nat.le_of_ble_eq_true rfl)⟩ (n := 2) rfl (st := []) (Nat.le_of_ble_eq_true rfl) rfl dX5_restWith_11 (fun _ _ hr9 => ?_)
  subst hr9
  refine x_if_eq C (tgt := 29) dX5_restWith_14 (by decide) (fun c14 => ?_) (fun c14 => ?_)
  · replace c14 := bI_z c14
    refine x_iconst C dX5_restWith_29 (v := 0) (by decide) ?_
    refine x_iret C hrt9 () ?_ rfl dX5_restWith_30
    show _ = _
    unfold restW
    rw [if_neg (fun h => by have h2 := h.1; rw [← hm, c14] at h2; cases h2)]
  · replace c14 := bI_nz c14
    refine x_iload_n C 0 dX5_restWith_17 rfl rfl ?_
    refine x_aload_n C 1 dX5_restWith_18 rfl rfl ?_
    refine x_get C (T := TX5) (N := 6) (v := .ref (ad 25)) 21 3 hin5 (hF 21 (by decide)) (pf_21 G nR ad _) rfl (by decide) lk21 rfl rfl dX5_restWith_19 ?_
    refine x_alen C 25 0 (hF 25 (by decide)) (pf_25 G nR ad _) rfl (v := 64) rfl dX5_restWith_22 ?_
    refine x_Ni C (k_X9_isPlace l G LL ad _ (x ||| (1 <<< (y &&& 31))) 64) gX5_restWith_X9_isPlace_n39 rfl (by decide +kernel) C.2.2.1.2.1.2.2.2.1 ini9 sttX9_isPlace ⟨(Nat.le_of_ble_eq_true rfl), (Nat.le_of_ble_eq_true rfl)⟩ ⟨(Nat.le_of_ble_eq_true rfl), (Nat.le_of_ble_eq_true rfl)⟩ (n := 2) rfl (st := []) (Nat.le_of_ble_eq_true rfl) rfl dX5_restWith_23 (fun _ _ hr9 => ?_)
    subst hr9
    refine x_if_ne C (tgt := 31) dX5_restWith_26 (by decide) (fun c26 => ?_) (fun c26 => ?_)
    · replace c26 := bI_nz c26
      refine x_iconst C dX5_restWith_31 (v := 0) (by decide) ?_
      refine x_aload_n C 1 dX5_restWith_32 rfl rfl ?_
      refine x_iload_n C 0 dX5_restWith_33 rfl rfl ?_
      refine x_Vi 21 C (k_X5_endOf l G nR LL ad hF S n hm h6 (x ||| (1 <<< (y &&& 31)))) gX5_restWith_X5_endOf rfl (by decide +kernel) ⟨(Nat.le_of_ble_eq_true rfl), (Nat.le_of_ble_eq_true rfl)⟩ ⟨(Nat.le_of_ble_eq_true rfl), (Nat.le_of_ble_eq_true rfl)⟩ (hF 21 (by decide)) (pf_21 G nR ad _) (T := TX5) (N := 6) rfl (n := 1) rfl (st := [.int 0]) (Nat.le_of_ble_eq_true rfl) rfl dX5_restWith_34 (fun _ _ hr9 => ?_)
      subst hr9
      refine x_aload_n C 1 dX5_restWith_37 rfl rfl ?_
      refine x_get C (T := TX5) (N := 6) (v := .ref (ad 24)) 21 2 hin5 (hF 21 (by decide)) (pf_21 G nR ad _) rfl (by decide) lk18 rfl rfl dX5_restWith_38 ?_
      refine x_iload_n C 3 dX5_restWith_41 rfl rfl ?_
      refine x_iald C 24 (hF 24 (by decide)) (pf_24 G nR ad _) (vp_ok (n := n) (by rw [← hm]; exact c14) h6 (by decide)) (kk := y.toNatClampNeg) rfl dX5_restWith_42 ?_
      refine x_isub C dX5_restWith_43 ?_
      refine x_mmax C hm1max hm2max hm3 hm4max (Nat.le_of_ble_eq_true rfl) (Nat.le_of_ble_eq_true rfl) (Nat.le_of_ble_eq_true rfl) (Nat.le_of_ble_eq_true rfl) dX5_restWith_44 ?_
      refine x_aload_n C 1 dX5_restWith_47 rfl rfl ?_
      refine x_get C (T := TX5) (N := 6) (v := .ref (ad 25)) 21 3 hin5 (hF 21 (by decide)) (pf_21 G nR ad _) rfl (by decide) lk21 rfl rfl dX5_restWith_48 ?_
      refine x_iload_n C 0 dX5_restWith_51 rfl rfl ?_
      refine x_iald C 25 (hF 25 (by decide)) (pf_25 G nR ad _) (vp_ok64 c26) (kk := (x ||| (1 <<< (y &&& 31))).toNatClampNeg) rfl dX5_restWith_52 ?_
      refine x_iadd C dX5_restWith_53 ?_
      refine x_iret C hrt9 () ?_ rfl dX5_restWith_54
      show _ = _
      rw [restW, if_pos (show isP y (nI n) = true ∧ isP (aftr x y) 64 = true from ⟨by rw [← hm]; exact c14, c26⟩)]
      rfl
    · replace c26 := bI_z c26
      refine x_iconst C dX5_restWith_29 (v := 0) (by decide) ?_
      refine x_iret C hrt9 () ?_ rfl dX5_restWith_30
      show _ = _
      unfold restW
      rw [if_neg (fun h => by have h2 := h.2; rw [show isP (aftr x y) 64 = false from c26] at h2; cases h2)]

set_option maxHeartbeats 4000000 in
set_option maxRecDepth 100000 in
theorem k_X5_bestNext (l : Launch) (G : tf_G) (nR : Nat) (LL : List Nat) (ad : Nat → Nat) (hF : ∀ j ∈ tf_fix, j ∈ LL) (S : tf_M) (n : Nat) (hm : S 21 4 = nI n) (h6 : n ≤ 6) (x : Int32) : Ci l yX5_bestNext wsX5_bestNext ({ frames := 2, cells := 0, slots := 0, locals := 46 } : Room) G LL ad (fun (_ : Unit) => pw G nR ad S) (pw G nR ad S) [.ref (ad 21), .int x] (fun r _ => r = bestN S n x n) := by
  have hin5 : ∀ w ∈ u_ws RX5 TX5 6, w ∈ wsX5_bestNext := by decide +kernel
  have lk24 : Cond.fieldLink RX5 24 "TributeFleet$Schedule" "size" "I" ∈ wsX5_bestNext := by decide +kernel
  refine ci_of (cc := cX5_bestNext) (maxL := 5) (ret := (some .int)) (by decide +kernel) rfl (Nat.le_of_ble_eq_true rfl) ?_
  intro pv ev sv mv args below meth cv A C hrt9 hnm9
  have C : Cx pv sv mv args meth cv cX5_bestNext 5 RX5 wsX5_bestNext G A LL ad := C
  show XJ pv l ev _ sv mv args below meth cv G A LL ad _ 5 0 0 _ 0 [(0, .ref (ad 21)), (1, .int x)] []
  refine x_iconst C dX5_bestNext_0 (v := -1) (by decide) ?_
  refine x_istore_n C (L1 := [(2, .int (-1)), (0, .ref (ad 21)), (1, .int x)]) dX5_bestNext_1 rfl (by decide) rfl ?_
  refine x_iconst C dX5_bestNext_2 (v := 0) (by decide) ?_
  refine x_istore_n C (L1 := [(3, .int 0), (2, .int (-1)), (0, .ref (ad 21)), (1, .int x)]) dX5_bestNext_3 rfl (by decide) rfl ?_
  have lp4 : ∀ (d9 : Nat) (k : Nat) (b : Int32), (k ≤ n) → (b = bestN S n x k) → n - k < d9 → XJ pv l ev ({ frames := 2, cells := 0, slots := 0, locals := 46 } : Room) sv mv args below meth cv G A LL ad (MQ below (va_Qi (fun r _ => r = bestN S n x n) (tf_B G LL ad (fun (_ : Unit) => pw G nR ad S)) A) args sv 0 0 A) 5 0 0 (pw G nR ad S) 4 [(0, .ref (ad 21)), (1, .int x), (2, .int b), (3, .int (nI k))] [] := by
    intro d9
    induction d9 with
    | zero => intro k b hkn e0 hd9; omega
    | succ d9 ih4 =>
      intro k b hkn e0 hd9
      have ih := ih4
      refine x_iload_n C 3 dX5_bestNext_4 rfl rfl ?_
      refine x_aload_n C 0 dX5_bestNext_5 rfl rfl ?_
      refine x_get C (T := TX5) (N := 6) (v := .int (S 21 4)) 21 4 hin5 (hF 21 (by decide)) (pf_21 G nR ad _) rfl (by decide) lk24 rfl rfl dX5_bestNext_6 ?_
      refine x_icmp_ge C (tgt := 60) dX5_bestNext_9 (by decide) (fun c9 => ?_) (fun c9 => ?_)
      · skip
        have hge : n ≤ k := nI_ge' (by rw [← hm]; exact c9) (by omega)
        refine x_iload_n C 2 dX5_bestNext_60 rfl rfl ?_
        refine x_iret C hrt9 () ?_ rfl dX5_bestNext_61
        show _ = _
        rw [e0, show k = n by omega]
      · skip
        have hlt : k < n := nI_lt' (by rw [← hm]; exact c9) (by omega)
        refine x_iload_n C 1 dX5_bestNext_12 rfl rfl ?_
        refine x_iload_n C 3 dX5_bestNext_13 rfl rfl ?_
        refine x_ishr C dX5_bestNext_14 ?_
        refine x_iconst C dX5_bestNext_15 (v := 1) (by decide) ?_
        refine x_iand C dX5_bestNext_16 ?_
        refine x_if_ne C (tgt := 24) dX5_bestNext_17 (by decide) (fun c17 => ?_) (fun c17 => ?_)
        · skip
          refine x_iconst C dX5_bestNext_24 (v := 0) (by decide) ?_
          refine x_istore C (L1 := [(4, .int 0), (0, .ref (ad 21)), (1, .int x), (2, .int b), (3, .int (nI k))]) dX5_bestNext_25 (by decide) rfl ?_
          refine x_iload C 0 dX5_bestNext_27 rfl ?_
          refine x_if_eq C (tgt := 54) dX5_bestNext_29 (by decide) (fun c29 => ?_) (fun c29 => ?_)
          rotate_left
          · exact absurd (by decide) c29
          refine x_iinc C (L1 := [(3, .int ((nI k) + 1)), (4, .int 0), (0, .ref (ad 21)), (1, .int x), (2, .int b)]) 4 dX5_bestNext_54 rfl rfl (by decide) rfl ?_
          refine x_goto C (tgt := 4) dX5_bestNext_57 (by decide) ?_
          refine x_sub [2, 3, 4, 0] (L1 := [(0, .ref (ad 21)), (1, .int x), (2, .int b), (3, .int ((nI k) + 1))]) rfl ?_
          rw [← nI_succ]
          exact ih (k + 1) _ (by omega) (by rw [bestN, ← e0]; simp_all [bit1, ← Int32.not_le]) (by omega)
        · skip
          refine x_iconst C dX5_bestNext_20 (v := 1) (by decide) ?_
          refine x_goto C (tgt := 25) dX5_bestNext_21 (by decide) ?_
          refine x_istore C (L1 := [(4, .int 1), (0, .ref (ad 21)), (1, .int x), (2, .int b), (3, .int (nI k))]) dX5_bestNext_25 (by decide) rfl ?_
          refine x_iload C 0 dX5_bestNext_27 rfl ?_
          refine x_if_eq C (tgt := 54) dX5_bestNext_29 (by decide) (fun c29 => ?_) (fun c29 => ?_)
          · exact absurd c29 (by decide)
          refine x_iload_n C 3 dX5_bestNext_32 rfl rfl ?_
          refine x_iconst C dX5_bestNext_33 (v := -1) (by decide) ?_
          refine x_icmp_eq C (tgt := 52) dX5_bestNext_34 (by decide) (fun c34 => ?_) (fun c34 => ?_)
          · skip
            refine x_iload_n C 4 dX5_bestNext_52 rfl rfl ?_
            refine x_istore_n C (L1 := [(2, .int (nI k)), (4, .int 1), (0, .ref (ad 21)), (1, .int x), (3, .int (nI k))]) dX5_bestNext_53 rfl (by decide) rfl ?_
            refine x_iinc C (L1 := [(3, .int ((nI k) + 1)), (2, .int (nI k)), (4, .int 1), (0, .ref (ad 21)), (1, .int x)]) 4 dX5_bestNext_54 rfl rfl (by decide) rfl ?_
            refine x_goto C (tgt := 4) dX5_bestNext_57 (by decide) ?_
            refine x_sub [3, 4, 1, 0] (L1 := [(0, .ref (ad 21)), (1, .int x), (2, .int (nI k)), (3, .int ((nI k) + 1))]) rfl ?_
            rw [← nI_succ]
            exact ih (k + 1) _ (by omega) (by rw [bestN, ← e0]; simp_all [bit1, ← Int32.not_le]) (by omega)
          · skip
            refine x_aload_n C 1 dX5_bestNext_37 rfl rfl ?_
            refine x_iload_n C 2 dX5_bestNext_38 rfl rfl ?_
            refine x_iload_n C 4 dX5_bestNext_39 rfl rfl ?_
            refine x_Vi 21 C (k_X5_restWith l G nR LL ad hF S n hm h6 x (nI k)) gX5_bestNext_X5_restWith rfl (by decide +kernel) ⟨(Nat.le_of_ble_eq_true rfl), (Nat.le_of_ble_eq_true rfl)⟩ ⟨(Nat.le_of_ble_eq_true rfl), (Nat.le_of_ble_eq_true rfl)⟩ (hF 21 (by decide)) (pf_21 G nR ad _) (T := TX5) (N := 6) rfl (n := 2) rfl (st := []) (Nat.le_of_ble_eq_true rfl) rfl dX5_bestNext_40 (fun _ _ hr9 => ?_)
            subst hr9
            refine x_aload_n C 1 dX5_bestNext_43 rfl rfl ?_
            refine x_iload_n C 2 dX5_bestNext_44 rfl rfl ?_
            refine x_iload_n C 3 dX5_bestNext_45 rfl rfl ?_
            refine x_Vi 21 C (k_X5_restWith l G nR LL ad hF S n hm h6 x b) gX5_bestNext_X5_restWith rfl (by decide +kernel) ⟨(Nat.le_of_ble_eq_true rfl), (Nat.le_of_ble_eq_true rfl)⟩ ⟨(Nat.le_of_ble_eq_true rfl), (Nat.le_of_ble_eq_true rfl)⟩ (hF 21 (by decide)) (pf_21 G nR ad _) (T := TX5) (N := 6) rfl (n := 2) rfl (st := [.int (restW S n x (nI k))]) (Nat.le_of_ble_eq_true rfl) rfl dX5_bestNext_46 (fun _ _ hr9 => ?_)
            subst hr9
            refine x_icmp_ge C (tgt := 54) dX5_bestNext_49 (by decide) (fun c49 => ?_) (fun c49 => ?_)
            · skip
              refine x_iinc C (L1 := [(3, .int ((nI k) + 1)), (4, .int 1), (0, .ref (ad 21)), (1, .int x), (2, .int b)]) 4 dX5_bestNext_54 rfl rfl (by decide) rfl ?_
              refine x_goto C (tgt := 4) dX5_bestNext_57 (by decide) ?_
              refine x_sub [2, 3, 4, 0] (L1 := [(0, .ref (ad 21)), (1, .int x), (2, .int b), (3, .int ((nI k) + 1))]) rfl ?_
              rw [← nI_succ]
              exact ih (k + 1) _ (by omega) (by rw [bestN, ← e0]; simp_all [bit1, ← Int32.not_le]) (by omega)
            · skip
              refine x_iload_n C 4 dX5_bestNext_52 rfl rfl ?_
              refine x_istore_n C (L1 := [(2, .int (nI k)), (4, .int 1), (0, .ref (ad 21)), (1, .int x), (3, .int (nI k))]) dX5_bestNext_53 rfl (by decide) rfl ?_
              refine x_iinc C (L1 := [(3, .int ((nI k) + 1)), (2, .int (nI k)), (4, .int 1), (0, .ref (ad 21)), (1, .int x)]) 4 dX5_bestNext_54 rfl rfl (by decide) rfl ?_
              refine x_goto C (tgt := 4) dX5_bestNext_57 (by decide) ?_
              refine x_sub [3, 4, 1, 0] (L1 := [(0, .ref (ad 21)), (1, .int x), (2, .int (nI k)), (3, .int ((nI k) + 1))]) rfl ?_
              rw [← nI_succ]
              exact ih (k + 1) _ (by omega) (by rw [bestN, ← e0]; simp_all [bit1, ← Int32.not_le]) (by omega)
  refine x_sub [2, 3, 1, 0] (L1 := [(0, .ref (ad 21)), (1, .int x), (2, .int (-1)), (3, .int 0)]) rfl ?_
  exact lp4 (n + 1) 0 (-1) (Nat.zero_le _) rfl (by omega)

set_option maxHeartbeats 4000000 in
set_option maxRecDepth 100000 in
theorem k_X5_leastSum (l : Launch) (G : tf_G) (nR : Nat) (LL : List Nat) (ad : Nat → Nat) (hF : ∀ j ∈ tf_fix, j ∈ LL) (S : tf_M) : Ci l yX5_leastSum wsX5_leastSum ({ frames := 0, cells := 0, slots := 0, locals := 0 } : Room) G LL ad (fun (_ : Unit) => pw G nR ad S) (pw G nR ad S) [.ref (ad 21)] (fun x _ => x = S 25 0) := by
  have hin5 : ∀ w ∈ u_ws RX5 TX5 6, w ∈ wsX5_leastSum := by decide +kernel
  have lk21 : Cond.fieldLink RX5 21 "TributeFleet$Schedule" "rest" "[I" ∈ wsX5_leastSum := by decide +kernel
  refine ci_of (cc := cX5_leastSum) (maxL := 1) (ret := (some .int)) (by decide +kernel) rfl (Nat.le_of_ble_eq_true rfl) ?_
  intro pv ev sv mv args below meth cv A C hrt9 hnm9
  have C : Cx pv sv mv args meth cv cX5_leastSum 1 RX5 wsX5_leastSum G A LL ad := C
  show XJ pv l ev _ sv mv args below meth cv G A LL ad _ 1 0 0 _ 0 [(0, .ref (ad 21))] []
  refine x_aload_n C 0 dX5_leastSum_0 rfl rfl ?_
  refine x_get C (T := TX5) (N := 6) (v := .ref (ad 25)) 21 3 hin5 (hF 21 (by decide)) (pf_21 G nR ad _) rfl (by decide) lk21 rfl rfl dX5_leastSum_1 ?_
  refine x_iconst C dX5_leastSum_4 (v := 0) (by decide) ?_
  refine x_iald C 25 (hF 25 (by decide)) (pf_25 G nR ad _) (nI_in (c := 0) (N := 64) (by decide) (by decide)) (kk := 0) (by rfl) dX5_leastSum_5 ?_
  refine x_iret C hrt9 () ?_ rfl dX5_leastSum_6
  rfl

set_option maxHeartbeats 4000000 in
set_option maxRecDepth 100000 in
theorem k_X5_weigh (l : Launch) (G : tf_G) (nR : Nat) (LL : List Nat) (ad : Nat → Nat) (hF : ∀ j ∈ tf_fix, j ∈ LL) (S : tf_M) (n : Nat) (hm : S 21 4 = nI n) (h6 : n ≤ 6) (t : Int32) : Cv l yX5_weigh wsX5_weigh ({ frames := 3, cells := 0, slots := 0, locals := 70 } : Room) G LL ad (pw G nR ad) (pw G nR ad S) [.ref (ad 21), .int t] (fun u => u = wgAll n (2 ^ n) (s2 S 21 5 t)) := by
  have hin5 : ∀ w ∈ u_ws RX5 TX5 6, w ∈ wsX5_weigh := by decide +kernel
  have lk28 : Cond.fieldLink RX5 28 "TributeFleet$Schedule" "firstDay" "I" ∈ wsX5_weigh := by decide +kernel
  have lk24 : Cond.fieldLink RX5 24 "TributeFleet$Schedule" "size" "I" ∈ wsX5_weigh := by decide +kernel
  have lk21 : Cond.fieldLink RX5 21 "TributeFleet$Schedule" "rest" "[I" ∈ wsX5_weigh := by decide +kernel
  refine cv_of (cc := cX5_weigh) (maxL := 5) (ret := none) (by decide +kernel) rfl (Nat.le_of_ble_eq_true rfl) ?_
  intro pv ev sv mv args below meth cv A C hrt9 hnm9
  have C : Cx pv sv mv args meth cv cX5_weigh 5 RX5 wsX5_weigh G A LL ad := C
  show XJ pv l ev _ sv mv args below meth cv G A LL ad _ 5 0 0 _ 0 [(0, .ref (ad 21)), (1, .int t)] []
  refine x_aload_n C 0 dX5_weigh_0 rfl rfl ?_
  refine x_iload_n C 1 dX5_weigh_1 rfl rfl ?_
  refine y_put C (T := TX5) (N := 6) (ty := .int) 21 5 hin5 tyX5 tyX5_ok nmX5 (hF 21 (by decide)) (pf_21 G nR ad _) (pf_21 G nR ad _) rfl (by decide) lk28 rfl rfl (by decide +kernel) rfl rfl (Nat.le_of_ble_eq_true rfl) dX5_weigh_2 ?_
  refine x_iconst C dX5_weigh_5 (v := 1) (by decide) ?_
  refine x_aload_n C 0 dX5_weigh_6 rfl rfl ?_
  refine x_get C (T := TX5) (N := 6) (v := .int (S 21 4)) 21 4 hin5 (hF 21 (by decide)) (pf_21 G nR ad _) rfl (by decide) lk24 rfl rfl dX5_weigh_7 ?_
  refine x_ishl C dX5_weigh_10 ?_
  refine x_iconst C dX5_weigh_11 (v := 1) (by decide) ?_
  refine x_isub C dX5_weigh_12 ?_
  refine x_istore_n C (L1 := [(2, .int ((1 <<< ((S 21 4) &&& 31)) - 1)), (0, .ref (ad 21)), (1, .int t)]) dX5_weigh_13 rfl (by decide) rfl ?_
  refine x_iload_n C 0 dX5_weigh_14 rfl rfl ?_
  refine x_istore_n C (L1 := [(3, .int ((1 <<< ((S 21 4) &&& 31)) - 1)), (2, .int ((1 <<< ((S 21 4) &&& 31)) - 1)), (0, .ref (ad 21)), (1, .int t)]) dX5_weigh_15 rfl (by decide) rfl ?_
  have lp16 : ∀ (k : Nat) (S1 : tf_M), (k ≤ 64) → (S1 21 4 = nI n) → (wgAll n k S1 = wgAll n (2 ^ n) (s2 S 21 5 t)) → XJ pv l ev ({ frames := 3, cells := 0, slots := 0, locals := 70 } : Room) sv mv args below meth cv G A LL ad (MQ below (va_Qv (fun u => u = wgAll n (2 ^ n) (s2 S 21 5 t)) (tf_B G LL ad (pw G nR ad)) A) args sv 0 0 A) 5 0 0 (pw G nR ad S1) 16 [(0, .ref (ad 21)), (3, .int (nI k - 1))] [] := by
    intro k
    induction k with
    | zero =>
      intro S1 hk64 hm1 e0
      rw [show nI 0 - 1 = -1 from rfl]
      refine x_iload_n C 1 dX5_weigh_16 rfl rfl ?_
      refine x_if_lt C (tgt := 56) dX5_weigh_17 (by decide) (fun c17 => ?_) (fun c17 => ?_)
      rotate_left
      · exact absurd (by decide) c17
      refine x_vret C hrt9 S1 ?_ rfl dX5_weigh_56
      show _ = _
      rw [← e0]
      rfl
    | succ k ih16 =>
      intro S1 hk64 hm1 e0
      have ih := ih16
      rw [nI_pred]
      refine x_iload_n C 1 dX5_weigh_16 rfl rfl ?_
      refine x_if_lt C (tgt := 56) dX5_weigh_17 (by decide) (fun c17 => ?_) (fun c17 => ?_)
      · skip
        exact absurd c17 (nI_pos (by omega))
      · skip
        refine x_aload_n C 0 dX5_weigh_20 rfl rfl ?_
        refine x_iload_n C 1 dX5_weigh_21 rfl rfl ?_
        refine x_Vi 21 C (k_X5_bestNext l G nR LL ad hF S1 n hm1 h6 (nI k)) gX5_weigh_X5_bestNext rfl (by decide +kernel) ⟨(Nat.le_of_ble_eq_true rfl), (Nat.le_of_ble_eq_true rfl)⟩ ⟨(Nat.le_of_ble_eq_true rfl), (Nat.le_of_ble_eq_true rfl)⟩ (hF 21 (by decide)) (pf_21 G nR ad _) (T := TX5) (N := 6) rfl (n := 1) rfl (st := []) (Nat.le_of_ble_eq_true rfl) rfl dX5_weigh_22 (fun _ _ hr9 => ?_)
        subst hr9
        refine x_istore C (L1 := [(4, .int (bestN S1 n (nI k) n)), (0, .ref (ad 21)), (3, .int (nI k))]) dX5_weigh_25 (by decide) rfl ?_
        refine x_aload_n C 1 dX5_weigh_27 rfl rfl ?_
        refine x_get C (T := TX5) (N := 6) (v := .ref (ad 25)) 21 3 hin5 (hF 21 (by decide)) (pf_21 G nR ad _) rfl (by decide) lk21 rfl rfl dX5_weigh_28 ?_
        refine x_iload_n C 2 dX5_weigh_31 rfl rfl ?_
        refine x_iload C 0 dX5_weigh_32 rfl ?_
        refine x_iconst C dX5_weigh_34 (v := -1) (by decide) ?_
        refine x_icmp_ne C (tgt := 42) dX5_weigh_35 (by decide) (fun c35 => ?_) (fun c35 => ?_)
        · skip
          refine x_aload_n C 1 dX5_weigh_42 rfl rfl ?_
          refine x_iload_n C 2 dX5_weigh_43 rfl rfl ?_
          refine x_iload C 0 dX5_weigh_44 rfl ?_
          refine x_Vi 21 C (k_X5_restWith l G nR LL ad hF S1 n hm1 h6 (nI k) (bestN S1 n (nI k) n)) gX5_weigh_X5_restWith rfl (by decide +kernel) ⟨(Nat.le_of_ble_eq_true rfl), (Nat.le_of_ble_eq_true rfl)⟩ ⟨(Nat.le_of_ble_eq_true rfl), (Nat.le_of_ble_eq_true rfl)⟩ (hF 21 (by decide)) (pf_21 G nR ad _) (T := TX5) (N := 6) rfl (n := 2) rfl (st := [.int (nI k), .ref (ad 25)]) (Nat.le_of_ble_eq_true rfl) rfl dX5_weigh_46 (fun _ _ hr9 => ?_)
          subst hr9
          refine y_iast C 25 (hF 25 (by decide)) (fun f => (pf_25 G nR ad f)) (nI_in (N := 64) (show k < 64 by omega) (by decide)) (kk := k) (nI_clamp (by omega)) dX5_weigh_49 ?_
          refine x_iinc C (L1 := [(3, .int ((nI k) - 1)), (4, .int (bestN S1 n (nI k) n)), (0, .ref (ad 21))]) 2 dX5_weigh_50 rfl (i_dec1 _) (by decide) rfl ?_
          refine x_goto C (tgt := 16) dX5_weigh_53 (by decide) ?_
          refine x_sub [2, 0] (L1 := [(0, .ref (ad 21)), (3, .int ((nI k) - 1))]) rfl ?_
          exact ih _ (by omega) (by rw [s2_ne (by decide)]; exact hm1) (by rw [← e0]; simp [wgAll, wgStep, c35])
        · skip
          refine x_iconst C dX5_weigh_38 (v := 0) (by decide) ?_
          refine x_goto C (tgt := 49) dX5_weigh_39 (by decide) ?_
          refine y_iast C 25 (hF 25 (by decide)) (fun f => (pf_25 G nR ad f)) (nI_in (N := 64) (show k < 64 by omega) (by decide)) (kk := k) (nI_clamp (by omega)) dX5_weigh_49 ?_
          refine x_iinc C (L1 := [(3, .int ((nI k) - 1)), (4, .int (bestN S1 n (nI k) n)), (0, .ref (ad 21))]) 2 dX5_weigh_50 rfl (i_dec1 _) (by decide) rfl ?_
          refine x_goto C (tgt := 16) dX5_weigh_53 (by decide) ?_
          refine x_sub [2, 0] (L1 := [(0, .ref (ad 21)), (3, .int ((nI k) - 1))]) rfl ?_
          exact ih _ (by omega) (by rw [s2_ne (by decide)]; exact hm1) (by rw [← e0]; simp [wgAll, wgStep, c35])
  refine x_sub [2, 0] (L1 := [(0, .ref (ad 21)), (3, .int ((1 <<< ((S 21 4) &&& 31)) - 1))]) rfl ?_
  rw [hm, pow6 n (by omega)]
  exact lp16 (2 ^ n) _ (pow6le n (by omega)) (by show S 21 4 = nI n; exact hm) rfl

theorem ipL_stay {S : tf_M} {n j k : Nat} (h : (ipL S n j).2 = -1) (hk : j ≤ k) : ipL S n j = ipL S n k := by
  induction k with
  | zero => rw [show j = 0 by omega]
  | succ k ih =>
    by_cases e : j = k + 1
    · rw [e]
    · have := ih (by omega)
      rw [ipL, if_pos (by rw [← this]; exact h)]
      exact this
set_option maxHeartbeats 4000000 in
set_option maxRecDepth 100000 in
theorem k_X5_inPlace (l : Launch) (G : tf_G) (nR : Nat) (LL : List Nat) (ad : Nat → Nat) (hF : ∀ j ∈ tf_fix, j ∈ LL) (S : tf_M) (n : Nat) (hm : S 21 4 = nI n) (h6 : n ≤ 6) (x : Int32) : Ci l yX5_inPlace wsX5_inPlace ({ frames := 3, cells := 0, slots := 0, locals := 70 } : Room) G LL ad (fun (_ : Unit) => pw G nR ad S) (pw G nR ad S) [.ref (ad 21), .int x] (fun r _ => r = inPl S n x) := by
  have hin5 : ∀ w ∈ u_ws RX5 TX5 6, w ∈ wsX5_inPlace := by decide +kernel
  have lk24 : Cond.fieldLink RX5 24 "TributeFleet$Schedule" "size" "I" ∈ wsX5_inPlace := by decide +kernel
  have ini9 : Cond.initialized RX9 ∈ wsX5_inPlace := by decide +kernel
  have sttX9_isPlace : Cond.static yX9_isPlace ∈ wsX5_inPlace := by decide +kernel
  have lk11 : Cond.fieldLink RX5 11 "TributeFleet$Schedule" "numbers" "[I" ∈ wsX5_inPlace := by decide +kernel
  refine ci_of (cc := cX5_inPlace) (maxL := 5) (ret := (some .int)) (by decide +kernel) rfl (Nat.le_of_ble_eq_true rfl) ?_
  intro pv ev sv mv args below meth cv A C hrt9 hnm9
  have C : Cx pv sv mv args meth cv cX5_inPlace 5 RX5 wsX5_inPlace G A LL ad := C
  show XJ pv l ev _ sv mv args below meth cv G A LL ad _ 5 0 0 _ 0 [(0, .ref (ad 21)), (1, .int x)] []
  refine x_iload_n C 1 dX5_inPlace_0 rfl rfl ?_
  refine x_aload_n C 0 dX5_inPlace_1 rfl rfl ?_
  refine x_get C (T := TX5) (N := 6) (v := .int (S 21 4)) 21 4 hin5 (hF 21 (by decide)) (pf_21 G nR ad _) rfl (by decide) lk24 rfl rfl dX5_inPlace_2 ?_
  refine x_Ni C (k_X9_isPlace l G LL ad _ x (S 21 4)) gX5_inPlace_X9_isPlace_n39 rfl (by decide +kernel) C.2.2.1.2.1.2.2.2.1 ini9 sttX9_isPlace ⟨(Nat.le_of_ble_eq_true rfl), (Nat.le_of_ble_eq_true rfl)⟩ ⟨(Nat.le_of_ble_eq_true rfl), (Nat.le_of_ble_eq_true rfl)⟩ (n := 2) rfl (st := []) (Nat.le_of_ble_eq_true rfl) rfl dX5_inPlace_5 (fun _ _ hr9 => ?_)
  subst hr9
  refine x_if_ne C (tgt := 13) dX5_inPlace_8 (by decide) (fun c8 => ?_) (fun c8 => ?_)
  · replace c8 := bI_nz c8
    refine x_iconst C dX5_inPlace_13 (v := 0) (by decide) ?_
    refine x_istore_n C (L1 := [(2, .int 0), (0, .ref (ad 21)), (1, .int x)]) dX5_inPlace_14 rfl (by decide) rfl ?_
    refine x_aload_n C 1 dX5_inPlace_15 rfl rfl ?_
    refine x_iload_n C 0 dX5_inPlace_16 rfl rfl ?_
    refine x_Vi 21 C (k_X5_bestNext l G nR LL ad hF S n hm h6 0) gX5_inPlace_X5_bestNext rfl (by decide +kernel) ⟨(Nat.le_of_ble_eq_true rfl), (Nat.le_of_ble_eq_true rfl)⟩ ⟨(Nat.le_of_ble_eq_true rfl), (Nat.le_of_ble_eq_true rfl)⟩ (hF 21 (by decide)) (pf_21 G nR ad _) (T := TX5) (N := 6) rfl (n := 1) rfl (st := []) (Nat.le_of_ble_eq_true rfl) rfl dX5_inPlace_17 (fun _ _ hr9 => ?_)
    subst hr9
    refine x_istore_n C (L1 := [(3, .int (bestN S n 0 n)), (2, .int 0), (0, .ref (ad 21)), (1, .int x)]) dX5_inPlace_20 rfl (by decide) rfl ?_
    refine x_iconst C dX5_inPlace_21 (v := 0) (by decide) ?_
    refine x_istore C (L1 := [(4, .int 0), (3, .int (bestN S n 0 n)), (2, .int 0), (0, .ref (ad 21)), (1, .int x)]) dX5_inPlace_22 (by decide) rfl ?_
    have lp24 : ∀ (d9 : Nat) (k : Nat) (pa nx : Int32), (k ≤ x.toNatClampNeg) → ((pa, nx) = ipL S n k) → x.toNatClampNeg - k < d9 → XJ pv l ev ({ frames := 3, cells := 0, slots := 0, locals := 70 } : Room) sv mv args below meth cv G A LL ad (MQ below (va_Qi (fun r _ => r = inPl S n x) (tf_B G LL ad (fun (_ : Unit) => pw G nR ad S)) A) args sv 0 0 A) 5 0 0 (pw G nR ad S) 24 [(0, .ref (ad 21)), (1, .int x), (2, .int pa), (3, .int nx), (4, .int (nI k))] [] := by
      intro d9
      induction d9 with
      | zero => intro k pa nx hkn e0 hd9; omega
      | succ d9 ih24 =>
        intro k pa nx hkn e0 hd9
        have ih := ih24
        refine x_iload C 4 dX5_inPlace_24 rfl ?_
        refine x_iload_n C 1 dX5_inPlace_26 rfl rfl ?_
        refine x_icmp_ge C (tgt := 53) dX5_inPlace_27 (by decide) (fun c27 => ?_) (fun c27 => ?_)
        · skip
          refine x_iload_n C 3 dX5_inPlace_53 rfl rfl ?_
          refine x_aload_n C 0 dX5_inPlace_54 rfl rfl ?_
          refine x_get C (T := TX5) (N := 6) (v := .int (S 21 4)) 21 4 hin5 (hF 21 (by decide)) (pf_21 G nR ad _) rfl (by decide) lk24 rfl rfl dX5_inPlace_55 ?_
          refine x_Ni C (k_X9_isPlace l G LL ad _ nx (S 21 4)) gX5_inPlace_X9_isPlace_n39 rfl (by decide +kernel) C.2.2.1.2.1.2.2.2.1 ini9 sttX9_isPlace ⟨(Nat.le_of_ble_eq_true rfl), (Nat.le_of_ble_eq_true rfl)⟩ ⟨(Nat.le_of_ble_eq_true rfl), (Nat.le_of_ble_eq_true rfl)⟩ (n := 2) rfl (st := []) (Nat.le_of_ble_eq_true rfl) rfl dX5_inPlace_58 (fun _ _ hr9 => ?_)
          subst hr9
          refine x_if_eq C (tgt := 73) dX5_inPlace_61 (by decide) (fun c61 => ?_) (fun c61 => ?_)
          · replace c61 := bI_z c61
            refine x_iconst C dX5_inPlace_73 (v := -1) (by decide) ?_
            refine x_iret C hrt9 () ?_ rfl dX5_inPlace_74
            show _ = _
            obtain ⟨hx1, hx2⟩ := isP_nat (show isP x (nI n) = true by rw [← hm]; exact c8) (by omega)
            have e1 : (ipL S n x.toNatClampNeg).2 = nx := by
              rw [show x.toNatClampNeg = k from Nat.le_antisymm (nI_ge' (by rw [← hx2]; exact c27) (by omega)) hkn, ← e0]
            rw [inPl, if_pos (by rw [← hm]; exact c8), e1]
            rw [if_neg (by rw [← hm, c61]; decide)]
          · replace c61 := bI_nz c61
            refine x_aload_n C 0 dX5_inPlace_64 rfl rfl ?_
            refine x_get C (T := TX5) (N := 6) (v := .ref (ad 22)) 21 0 hin5 (hF 21 (by decide)) (pf_21 G nR ad _) rfl (by decide) lk11 rfl rfl dX5_inPlace_65 ?_
            refine x_iload_n C 3 dX5_inPlace_68 rfl rfl ?_
            refine x_iald C 22 (hF 22 (by decide)) (pf_22 G nR ad _) (vp_ok (n := n) (by rw [← hm]; exact c61) h6 (by decide)) (kk := nx.toNatClampNeg) rfl dX5_inPlace_69 ?_
            refine x_goto C (tgt := 74) dX5_inPlace_70 (by decide) ?_
            refine x_iret C hrt9 () ?_ rfl dX5_inPlace_74
            show _ = _
            obtain ⟨hx1, hx2⟩ := isP_nat (show isP x (nI n) = true by rw [← hm]; exact c8) (by omega)
            have e1 : (ipL S n x.toNatClampNeg).2 = nx := by
              rw [show x.toNatClampNeg = k from Nat.le_antisymm (nI_ge' (by rw [← hx2]; exact c27) (by omega)) hkn, ← e0]
            rw [inPl, if_pos (by rw [← hm]; exact c8), e1]
            rw [if_pos (by rw [← hm]; exact c61)]
        · skip
          have hlt : k < x.toNatClampNeg := by
            obtain ⟨hx1, hx2⟩ := isP_nat (show isP x (nI n) = true by rw [← hm]; exact c8) (by omega)
            exact nI_lt' (by rw [← hx2]; exact c27) (by omega)
          refine x_iload_n C 3 dX5_inPlace_30 rfl rfl ?_
          refine x_iconst C dX5_inPlace_31 (v := -1) (by decide) ?_
          refine x_icmp_eq C (tgt := 53) dX5_inPlace_32 (by decide) (fun c32 => ?_) (fun c32 => ?_)
          · skip
            refine x_iload_n C 3 dX5_inPlace_53 rfl rfl ?_
            refine x_aload_n C 0 dX5_inPlace_54 rfl rfl ?_
            refine x_get C (T := TX5) (N := 6) (v := .int (S 21 4)) 21 4 hin5 (hF 21 (by decide)) (pf_21 G nR ad _) rfl (by decide) lk24 rfl rfl dX5_inPlace_55 ?_
            refine x_Ni C (k_X9_isPlace l G LL ad _ nx (S 21 4)) gX5_inPlace_X9_isPlace_n39 rfl (by decide +kernel) C.2.2.1.2.1.2.2.2.1 ini9 sttX9_isPlace ⟨(Nat.le_of_ble_eq_true rfl), (Nat.le_of_ble_eq_true rfl)⟩ ⟨(Nat.le_of_ble_eq_true rfl), (Nat.le_of_ble_eq_true rfl)⟩ (n := 2) rfl (st := []) (Nat.le_of_ble_eq_true rfl) rfl dX5_inPlace_58 (fun _ _ hr9 => ?_)
            subst hr9
            refine x_if_eq C (tgt := 73) dX5_inPlace_61 (by decide) (fun c61 => ?_) (fun c61 => ?_)
            · replace c61 := bI_z c61
              refine x_iconst C dX5_inPlace_73 (v := -1) (by decide) ?_
              refine x_iret C hrt9 () ?_ rfl dX5_inPlace_74
              show _ = _
              obtain ⟨hx1, hx2⟩ := isP_nat (show isP x (nI n) = true by rw [← hm]; exact c8) (by omega)
              have e1 : (ipL S n x.toNatClampNeg).2 = nx := by
                rw [← ipL_stay (j := k) (by rw [← e0]; exact c32) hkn, ← e0]
              rw [inPl, if_pos (by rw [← hm]; exact c8), e1]
              rw [if_neg (by rw [← hm, c61]; decide)]
            · replace c61 := bI_nz c61
              refine x_aload_n C 0 dX5_inPlace_64 rfl rfl ?_
              refine x_get C (T := TX5) (N := 6) (v := .ref (ad 22)) 21 0 hin5 (hF 21 (by decide)) (pf_21 G nR ad _) rfl (by decide) lk11 rfl rfl dX5_inPlace_65 ?_
              refine x_iload_n C 3 dX5_inPlace_68 rfl rfl ?_
              refine x_iald C 22 (hF 22 (by decide)) (pf_22 G nR ad _) (vp_ok (n := n) (by rw [← hm]; exact c61) h6 (by decide)) (kk := nx.toNatClampNeg) rfl dX5_inPlace_69 ?_
              refine x_goto C (tgt := 74) dX5_inPlace_70 (by decide) ?_
              refine x_iret C hrt9 () ?_ rfl dX5_inPlace_74
              show _ = _
              obtain ⟨hx1, hx2⟩ := isP_nat (show isP x (nI n) = true by rw [← hm]; exact c8) (by omega)
              have e1 : (ipL S n x.toNatClampNeg).2 = nx := by
                rw [← ipL_stay (j := k) (by rw [← e0]; exact c32) hkn, ← e0]
              rw [inPl, if_pos (by rw [← hm]; exact c8), e1]
              rw [if_pos (by rw [← hm]; exact c61)]
          · skip
            refine x_iload_n C 2 dX5_inPlace_35 rfl rfl ?_
            refine x_iconst C dX5_inPlace_36 (v := 1) (by decide) ?_
            refine x_iload_n C 3 dX5_inPlace_37 rfl rfl ?_
            refine x_ishl C dX5_inPlace_38 ?_
            refine x_ior C dX5_inPlace_39 ?_
            refine x_istore_n C (L1 := [(2, .int (pa ||| (1 <<< (nx &&& 31)))), (0, .ref (ad 21)), (1, .int x), (3, .int nx), (4, .int (nI k))]) dX5_inPlace_40 rfl (by decide) rfl ?_
            refine x_aload_n C 1 dX5_inPlace_41 rfl rfl ?_
            refine x_iload_n C 0 dX5_inPlace_42 rfl rfl ?_
            refine x_Vi 21 C (k_X5_bestNext l G nR LL ad hF S n hm h6 (pa ||| (1 <<< (nx &&& 31)))) gX5_inPlace_X5_bestNext rfl (by decide +kernel) ⟨(Nat.le_of_ble_eq_true rfl), (Nat.le_of_ble_eq_true rfl)⟩ ⟨(Nat.le_of_ble_eq_true rfl), (Nat.le_of_ble_eq_true rfl)⟩ (hF 21 (by decide)) (pf_21 G nR ad _) (T := TX5) (N := 6) rfl (n := 1) rfl (st := []) (Nat.le_of_ble_eq_true rfl) rfl dX5_inPlace_43 (fun _ _ hr9 => ?_)
            subst hr9
            refine x_istore_n C (L1 := [(3, .int (bestN S n (pa ||| (1 <<< (nx &&& 31))) n)), (2, .int (pa ||| (1 <<< (nx &&& 31)))), (0, .ref (ad 21)), (1, .int x), (4, .int (nI k))]) dX5_inPlace_46 rfl (by decide) rfl ?_
            refine x_iinc C (L1 := [(4, .int ((nI k) + 1)), (3, .int (bestN S n (pa ||| (1 <<< (nx &&& 31))) n)), (2, .int (pa ||| (1 <<< (nx &&& 31)))), (0, .ref (ad 21)), (1, .int x)]) 4 dX5_inPlace_47 rfl rfl (by decide) rfl ?_
            refine x_goto C (tgt := 24) dX5_inPlace_50 (by decide) ?_
            refine x_sub [3, 4, 2, 1, 0] (L1 := [(0, .ref (ad 21)), (1, .int x), (2, .int (pa ||| (1 <<< (nx &&& 31)))), (3, .int (bestN S n (pa ||| (1 <<< (nx &&& 31))) n)), (4, .int ((nI k) + 1))]) rfl ?_
            rw [← nI_succ]
            exact ih (k + 1) _ _ (by omega) (by rw [ipL, ← e0, if_neg (show ¬ (pa, nx).2 = -1 from c32)]; rfl) (by omega)
    refine x_sub [3, 4, 2, 1, 0] (L1 := [(0, .ref (ad 21)), (1, .int x), (2, .int 0), (3, .int (bestN S n 0 n)), (4, .int 0)]) rfl ?_
    obtain ⟨hx1, hx2⟩ := isP_nat (show isP x (nI n) = true by rw [← hm]; exact c8) (by omega)
    exact lp24 (x.toNatClampNeg + 1) 0 0 _ (Nat.zero_le _) rfl (by omega)
  · replace c8 := bI_z c8
    refine x_iconst C dX5_inPlace_11 (v := -1) (by decide) ?_
    refine x_iret C hrt9 () ?_ rfl dX5_inPlace_12
    show _ = _
    rw [inPl, if_neg (by rw [← hm, c8]; decide)]

