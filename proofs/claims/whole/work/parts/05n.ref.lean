/-! the reference's least -/
theorem bit1_01 (x : Int32) (k : Nat) : bit1 x k = 0 ∨ bit1 x k = 1 := by
  unfold bit1
  rw [pk_and _ 1 (by decide)]
  rcases Nat.mod_two_eq_zero_or_one (x >>> (nI k &&& 31)).toBitVec.toNat with h | h
  · exact Or.inl (by rw [show 2 ^ 1 = 2 from rfl, h]; rfl)
  · exact Or.inr (by rw [show 2 ^ 1 = 2 from rfl, h]; rfl)
/-- the row of the chosen ones -/
def fwS (S : tf_M) (x : Int32) : Nat → tf_M
  | 0 => S
  | i + 1 => if bit1 x i = 1 then s2 (fwS S x i) 72 (cntB x i) (nI i) else fwS S x i
theorem fwS_ne {S : tf_M} {x : Int32} {y : Nat} (h : y ≠ 72) : ∀ i, fwS S x i y = S y := by
  intro i
  induction i with
  | zero => rfl
  | succ i ih =>
    unfold fwS
    split
    · rw [s2_ne h, ih]
    · exact ih
theorem fwS_72 {S : tf_M} {x : Int32} : ∀ i j, j < cntB x i → ∃ q, q < i ∧ fwS S x i 72 j = nI q := by
  intro i
  induction i with
  | zero => intro j hj; exact absurd hj (Nat.not_lt_zero j)
  | succ i ih =>
    intro j hj
    unfold cntB at hj
    unfold fwS
    split
    · rename_i h
      rw [if_pos h] at hj
      by_cases e : j = cntB x i
      · subst e; exact ⟨i, by omega, s2_eq⟩
      · obtain ⟨q, hq, hv⟩ := ih j (by omega)
        exact ⟨q, by omega, by rw [s2_nk e]; exact hv⟩
    · rename_i h
      rw [if_neg h] at hj
      obtain ⟨q, hq, hv⟩ := ih j hj
      exact ⟨q, by omega, hv⟩
/-- the X-th row of m places out of F -/
def lsRw (F : Nat → Int32) (m X j : Nat) : Int32 := F ((X / m ^ (m - 1 - j)) % m)
def lsU (F : Nat → Int32) (m X : Nat) : Nat → Int32
  | 0 => 0
  | c + 1 => lsU F m X c ||| ((1 : Int32) <<< (F ((X / m ^ c) % m) &&& 31))
def lsE (S : tf_M) (a : Int32) (w : Nat → Int32) : Nat → Int32 × Int32
  | 0 => (S 30 3, 0)
  | i + 1 => ((lsE S a w i).1 + dtp (S 43 (w i).toNatClampNeg) (S 32 a.toNatClampNeg), (lsE S a w i).2 + imax 0 ((lsE S a w i).1 + dtp (S 43 (w i).toNatClampNeg) (S 32 a.toNatClampNeg) - S 50 (w i).toNatClampNeg))
def lsB (S : tf_M) (a x : Int32) (F : Nat → Int32) (m : Nat) : Nat → Int32 × (Nat → Int32)
  | 0 => (-1, S 74)
  | X + 1 => if lsU F m X m = x ∧ ((lsB S a x F m X).1 = -1 ∨ (lsE S a (lsRw F m X) m).2 < (lsB S a x F m X).1) then ((lsE S a (lsRw F m X) m).2, fun j => if j < m then lsRw F m X j else (lsB S a x F m X).2 j) else lsB S a x F m X
def mLsG (S : tf_M) (nR n : Nat) (x a : Int32) : Prop := (¬ x < 0 ∧ x >>> (S 30 5 &&& 31) = 0) ∧ isP a (nI (nR - 1)) = true ∧ cntB x n ≤ 6
def mLsR (S : tf_M) (n : Nat) (x a k : Int32) : Int32 := if k = -1 then (lsB S a x (fwS S x n 72) (cntB x n) (cntB x n ^ cntB x n)).1 else if isP k (nI (cntB x n)) = true then (lsB S a x (fwS S x n 72) (cntB x n) (cntB x n ^ cntB x n)).2 k.toNatClampNeg else -1
def lsK (S Z : tf_M) : Prop := ∀ y, y ≠ 72 → y ≠ 73 → y ≠ 74 → Z y = S y
theorem lsK.put {S Z : tf_M} {j k : Nat} {v : Int32} (h : lsK S Z) (hj : j = 73 ∨ j = 74) : lsK S (s2 Z j k v) := fun y h1 h2 h3 => by
  rw [s2_ne (by omega)]; exact h y h1 h2 h3
theorem pow6m : ∀ m, m ≤ 6 → m ^ m ≤ 46656 := by decide +kernel
set_option maxHeartbeats 4000000 in
set_option maxRecDepth 100000 in
theorem k_X10_least (l : Launch) (G : tf_G) (nR : Nat) (LL : List Nat) (ad : Nat → Nat) (hF : ∀ j ∈ tf_fix, j ∈ LL) (S : tf_M) (x a k : Int32) (hn : S 30 0 = nI nR) (hR : nR ≤ 12) (hR3 : 3 ≤ nR) (n : Nat) (hz : S 30 5 = nI n) (h12 : n ≤ 12) (hL1 : isP a (nI (nR - 1)) = true → 1 ≤ S 32 a.toNatClampNeg) : Ci l yX10_least wsX10_least ({ frames := 2, cells := 0, slots := 0, locals := 43 } : Room) G LL ad (pw G nR ad) (pw G nR ad S) [.ref (ad 30), .int x, .int a, .int k] (fun z u => (mLsG S nR n x a → z = mLsR S n x a k) ∧ (¬ mLsG S nR n x a → z = -1) ∧ lsK S u) := by
  have hin10 : ∀ w ∈ u_ws RX10 TX10 45, w ∈ wsX10_least := by decide +kernel
  have lk128 : Cond.fieldLink RX10 128 "TributeFleetModel" "squadrons" "I" ∈ wsX10_least := by decide +kernel
  have lk109 : Cond.fieldLink RX10 109 "TributeFleetModel" "bestRow" "[I" ∈ wsX10_least := by decide +kernel
  have lk144 : Cond.fieldLink RX10 144 "TributeFleetModel" "today" "I" ∈ wsX10_least := by decide +kernel
  have lk106 : Cond.fieldLink RX10 106 "TributeFleetModel" "row" "[I" ∈ wsX10_least := by decide +kernel
  have lk32 : Cond.fieldLink RX10 32 "TributeFleetModel" "boats" "[I" ∈ wsX10_least := by decide +kernel
  have lk13 : Cond.fieldLink RX10 13 "TributeFleetModel" "boatsADay" "[I" ∈ wsX10_least := by decide +kernel
  have lk53 : Cond.fieldLink RX10 53 "TributeFleetModel" "due" "[I" ∈ wsX10_least := by decide +kernel
  have hm1max : Cond.methodLink RX10 118 Lib.Math.max.name ∈ wsX10_least := by decide +kernel
  have hm2max : Cond.static Lib.Math.max.name ∈ wsX10_least := by decide +kernel
  have hm3 : Cond.initialized "java/lang/Math" ∈ wsX10_least := by decide +kernel
  have hm4max : Cond.code Lib.Math.max.name Lib.Math.max.code 2 (some .int) ∈ wsX10_least := by decide +kernel
  have lk103 : Cond.fieldLink RX10 103 "TributeFleetModel" "few" "[I" ∈ wsX10_least := by decide +kernel
  refine ci_of (cc := cX10_least) (maxL := 13) (ret := (some .int)) (by decide +kernel) rfl (Nat.le_of_ble_eq_true rfl) ?_
  intro pv ev sv mv args below meth cv A C hrt9 hnm9
  have C : Cx pv sv mv args meth cv cX10_least 13 RX10 wsX10_least G A LL ad := C
  show XJ pv l ev _ sv mv args below meth cv G A LL ad _ 13 0 0 _ 0 [(0, .ref (ad 30)), (1, .int x), (2, .int a), (3, .int k)] []
  refine x_iload_n C 1 dX10_least_0 rfl rfl ?_
  refine x_if_lt C (tgt := 21) dX10_least_1 (by decide) (fun c1 => ?_) (fun c1 => ?_)
  · skip
    refine x_iconst C dX10_least_21 (v := -1) (by decide) ?_
    refine x_iret C hrt9 S ?_ rfl dX10_least_22
    exact ⟨fun h => absurd c1 h.1.1, fun _ => rfl, fun _ _ _ _ => rfl⟩
  · skip
    refine x_iload_n C 1 dX10_least_4 rfl rfl ?_
    refine x_aload_n C 0 dX10_least_5 rfl rfl ?_
    refine x_get C (T := TX10) (N := 45) (v := .int (S 30 5)) 30 5 hin10 (hF 30 (by decide)) (pf_30 G nR ad _) rfl (by decide) lk128 rfl rfl dX10_least_6 ?_
    refine x_ishr C dX10_least_9 ?_
    refine x_if_ne C (tgt := 21) dX10_least_10 (by decide) (fun c10 => ?_) (fun c10 => ?_)
    · skip
      refine x_iconst C dX10_least_21 (v := -1) (by decide) ?_
      refine x_iret C hrt9 S ?_ rfl dX10_least_22
      exact ⟨fun h => absurd h.1.2 c10, fun _ => rfl, fun _ _ _ _ => rfl⟩
    · skip
      refine x_aload_n C 0 dX10_least_13 rfl rfl ?_
      refine x_iload_n C 2 dX10_least_14 rfl rfl ?_
      refine x_Vi 30 C (k_X10_isLock l G nR LL ad hF S a hn hR hR3) gX10_least_X10_isLock rfl (by decide +kernel) ⟨(Nat.le_of_ble_eq_true rfl), (Nat.le_of_ble_eq_true rfl)⟩ ⟨(Nat.le_of_ble_eq_true rfl), (Nat.le_of_ble_eq_true rfl)⟩ (hF 30 (by decide)) (pf_30 G nR ad _) (T := TX10) (N := 45) rfl (n := 1) rfl (st := []) (Nat.le_of_ble_eq_true rfl) rfl dX10_least_15 (fun _ _ hr9 => ?_)
      subst hr9
      refine x_if_ne C (tgt := 23) dX10_least_18 (by decide) (fun c18 => ?_) (fun c18 => ?_)
      · replace c18 := bI_nz c18
        refine x_iconst C dX10_least_23 (v := 0) (by decide) ?_
        refine x_istore C (L1 := [(4, .int 0), (0, .ref (ad 30)), (1, .int x), (2, .int a), (3, .int k)]) dX10_least_24 (by decide) rfl ?_
        refine x_iconst C dX10_least_26 (v := 0) (by decide) ?_
        refine x_istore C (L1 := [(5, .int 0), (4, .int 0), (0, .ref (ad 30)), (1, .int x), (2, .int a), (3, .int k)]) dX10_least_27 (by decide) rfl ?_
        have lp29 : ∀ (d9 : Nat) (i : Nat) (Z : tf_M), (i ≤ n) → (Z = fwS S x i) → (cntB x i ≤ 6) → n - i < d9 → XJ pv l ev ({ frames := 2, cells := 0, slots := 0, locals := 43 } : Room) sv mv args below meth cv G A LL ad (MQ below (va_Qi (fun z u => (mLsG S nR n x a → z = mLsR S n x a k) ∧ (¬ mLsG S nR n x a → z = -1) ∧ lsK S u) (tf_B G LL ad (pw G nR ad)) A) args sv 0 0 A) 13 0 0 (pw G nR ad Z) 29 [(0, .ref (ad 30)), (1, .int x), (2, .int a), (3, .int k), (4, .int (nI (cntB x i))), (5, .int (nI i))] [] := by
          intro d9
          induction d9 with
          | zero => intro i Z hin e0 hc6 hd9; omega
          | succ d9 ih29 =>
            intro i Z hin e0 hc6 hd9
            have ih := ih29
            have hk30 : Z 30 5 = S 30 5 := by rw [e0, fwS_ne (by decide) i]
            refine x_iload C 5 dX10_least_29 rfl ?_
            refine x_aload_n C 0 dX10_least_31 rfl rfl ?_
            refine x_get C (T := TX10) (N := 45) (v := .int (Z 30 5)) 30 5 hin10 (hF 30 (by decide)) (pf_30 G nR ad _) rfl (by decide) lk128 rfl rfl dX10_least_32 ?_
            refine x_icmp_ge C (tgt := 77) dX10_least_35 (by decide) (fun c35 => ?_) (fun c35 => ?_)
            · skip
              have hge : n ≤ i := nI_ge' (by rw [← hz, ← hk30]; exact c35) (by omega)
              have hin2 : i = n := by omega
              rw [hin2] at e0 hc6
              obtain ⟨m, hm⟩ : ∃ m, m = cntB x n := ⟨_, rfl⟩
              obtain ⟨F, hFF⟩ : ∃ F, F = fwS S x n 72 := ⟨_, rfl⟩
              rw [hin2, ← hm]
              have hG : mLsG S nR n x a := ⟨⟨c1, c10⟩, c18, hc6⟩
              have hm6 : m ≤ 6 := by rw [hm]; exact hc6
              have hF72 : Z 72 = F := by rw [e0, hFF]
              have hFv : ∀ j, j < m → ∃ q, q < n ∧ F j = nI q := fun j hj => by rw [hFF]; exact fwS_72 n j (by rw [← hm]; exact hj)
              have hK0 : lsK S Z := fun y h1 h2 h3 => by rw [e0]; exact fwS_ne h1 n
              have hp6 := pow6m m hm6
              have hZ74 : Z 74 = S 74 := by rw [e0]; exact fwS_ne (by decide) n
              refine x_iconst C dX10_least_77 (v := 1) (by decide) ?_
              refine x_istore C (L1 := [(5, .int 1), (0, .ref (ad 30)), (1, .int x), (2, .int a), (3, .int k), (4, .int (nI m))]) dX10_least_78 (by decide) rfl ?_
              refine x_iconst C dX10_least_80 (v := 0) (by decide) ?_
              refine x_istore C (L1 := [(6, .int 0), (5, .int 1), (0, .ref (ad 30)), (1, .int x), (2, .int a), (3, .int k), (4, .int (nI m))]) dX10_least_81 (by decide) rfl ?_
              have lp83 : ∀ (d9 : Nat) (p : Nat), (p ≤ m) → m - p < d9 → XJ pv l ev ({ frames := 2, cells := 0, slots := 0, locals := 43 } : Room) sv mv args below meth cv G A LL ad (MQ below (va_Qi (fun z u => (mLsG S nR n x a → z = mLsR S n x a k) ∧ (¬ mLsG S nR n x a → z = -1) ∧ lsK S u) (tf_B G LL ad (pw G nR ad)) A) args sv 0 0 A) 13 0 0 (pw G nR ad Z) 83 [(0, .ref (ad 30)), (1, .int x), (2, .int a), (3, .int k), (4, .int (nI m)), (5, .int (nI (m ^ p))), (6, .int (nI p))] [] := by
                intro d9
                induction d9 with
                | zero => intro p hpm hd9; omega
                | succ d9 ih83 =>
                  intro p hpm hd9
                  have ih := ih83
                  refine x_iload C 6 dX10_least_83 rfl ?_
                  refine x_iload C 4 dX10_least_85 rfl ?_
                  refine x_icmp_ge C (tgt := 103) dX10_least_87 (by decide) (fun c87 => ?_) (fun c87 => ?_)
                  · skip
                    have hpe : p = m := by
                      have := nI_ge' c87 (by omega)
                      omega
                    rw [hpe]
                    refine x_iconst C dX10_least_103 (v := -1) (by decide) ?_
                    refine x_istore C (L1 := [(6, .int (-1)), (0, .ref (ad 30)), (1, .int x), (2, .int a), (3, .int k), (4, .int (nI m)), (5, .int (nI (m ^ m)))]) dX10_least_104 (by decide) rfl ?_
                    refine x_iconst C dX10_least_106 (v := 0) (by decide) ?_
                    refine x_istore C (L1 := [(7, .int 0), (6, .int (-1)), (0, .ref (ad 30)), (1, .int x), (2, .int a), (3, .int k), (4, .int (nI m)), (5, .int (nI (m ^ m)))]) dX10_least_107 (by decide) rfl ?_
                    have lp109 : ∀ (d9 : Nat) (X : Nat) (Z : tf_M), (X ≤ m ^ m) → (lsK S Z) → (Z 72 = F) → (Z 74 = (lsB S a x F m X).2) → m ^ m - X < d9 → XJ pv l ev ({ frames := 2, cells := 0, slots := 0, locals := 43 } : Room) sv mv args below meth cv G A LL ad (MQ below (va_Qi (fun z u => (mLsG S nR n x a → z = mLsR S n x a k) ∧ (¬ mLsG S nR n x a → z = -1) ∧ lsK S u) (tf_B G LL ad (pw G nR ad)) A) args sv 0 0 A) 13 0 0 (pw G nR ad Z) 109 [(0, .ref (ad 30)), (1, .int x), (2, .int a), (3, .int k), (4, .int (nI m)), (5, .int (nI (m ^ m))), (6, .int ((lsB S a x F m X).1)), (7, .int (nI X))] [] := by
                      intro d9
                      induction d9 with
                      | zero => intro X Z hX hKX hX72 hX74 hd9; omega
                      | succ d9 ih109 =>
                        intro X Z hX hKX hX72 hX74 hd9
                        have ih := ih109
                        refine x_iload C 7 dX10_least_109 rfl ?_
                        refine x_iload C 5 dX10_least_111 rfl ?_
                        refine x_icmp_ge C (tgt := 325) dX10_least_113 (by decide) (fun c113 => ?_) (fun c113 => ?_)
                        · skip
                          refine x_iload_n C 3 dX10_least_325 rfl rfl ?_
                          refine x_iconst C dX10_least_326 (v := -1) (by decide) ?_
                          refine x_icmp_ne C (tgt := 335) dX10_least_327 (by decide) (fun c327 => ?_) (fun c327 => ?_)
                          · skip
                            refine x_iload_n C 3 dX10_least_335 rfl rfl ?_
                            refine x_iconst C dX10_least_336 (v := 0) (by decide) ?_
                            refine x_iload C 4 dX10_least_337 rfl ?_
                            refine x_iconst C dX10_least_339 (v := 1) (by decide) ?_
                            refine x_isub C dX10_least_340 ?_
                            refine x_Si C (k_X10_isIn l G LL ad _ k 0 (nI m - 1)) gX10_least_X10_isIn rfl (by decide +kernel) ⟨(Nat.le_of_ble_eq_true rfl), (Nat.le_of_ble_eq_true rfl)⟩ ⟨(Nat.le_of_ble_eq_true rfl), (Nat.le_of_ble_eq_true rfl)⟩ (n := 3) rfl (st := []) (Nat.le_of_ble_eq_true rfl) rfl dX10_least_341 (fun r9 _ hr9 => ?_)
                            obtain rfl : r9 = bI (isP k (nI m)) := by rw [hr9, isW_P _ _ (by omega)]
                            refine x_if_eq C (tgt := 356) dX10_least_344 (by decide) (fun c344 => ?_) (fun c344 => ?_)
                            · replace c344 := bI_z c344
                              refine x_iconst C dX10_least_356 (v := -1) (by decide) ?_
                              refine x_iret C hrt9 Z ?_ rfl dX10_least_357
                              refine ⟨fun _ => ?_, fun h => absurd hG h, hKX⟩
                              have hXe : X = m ^ m := by
                                have := nI_ge' c113 (by omega)
                                omega
                              show _ = mLsR S n x a k
                              unfold mLsR
                              rw [← hm, ← hFF, ← hXe]
                              rw [if_neg c327, if_neg (by rw [c344]; decide)]
                            · replace c344 := bI_nz c344
                              refine x_aload_n C 0 dX10_least_347 rfl rfl ?_
                              refine x_get C (T := TX10) (N := 45) (v := .ref (ad 74)) 30 44 hin10 (hF 30 (by decide)) (pf_30 G nR ad _) rfl (by decide) lk109 rfl rfl dX10_least_348 ?_
                              refine x_iload_n C 3 dX10_least_351 rfl rfl ?_
                              refine x_iald C 74 (hF 74 (by decide)) (pf_74 G nR ad _) (vp_ok (n := m) c344 (by omega) (by decide)) (kk := k.toNatClampNeg) rfl dX10_least_352 ?_
                              refine x_goto C (tgt := 357) dX10_least_353 (by decide) ?_
                              refine x_iret C hrt9 Z ?_ rfl dX10_least_357
                              refine ⟨fun _ => ?_, fun h => absurd hG h, hKX⟩
                              have hXe : X = m ^ m := by
                                have := nI_ge' c113 (by omega)
                                omega
                              show _ = mLsR S n x a k
                              unfold mLsR
                              rw [← hm, ← hFF, ← hXe]
                              rw [if_neg c327, if_pos c344, hX74]
                          · skip
                            refine x_iload C 6 dX10_least_330 rfl ?_
                            refine x_goto C (tgt := 357) dX10_least_332 (by decide) ?_
                            refine x_iret C hrt9 Z ?_ rfl dX10_least_357
                            refine ⟨fun _ => ?_, fun h => absurd hG h, hKX⟩
                            have hXe : X = m ^ m := by
                              have := nI_ge' c113 (by omega)
                              omega
                            show _ = mLsR S n x a k
                            unfold mLsR
                            rw [← hm, ← hFF, ← hXe]
                            rw [if_pos c327]
                        · skip
                          have hlt : X < m ^ m := nI_lt' c113 (by omega)
                          refine x_iload C 7 dX10_least_116 rfl ?_
                          refine x_istore C (L1 := [(8, .int (nI X)), (0, .ref (ad 30)), (1, .int x), (2, .int a), (3, .int k), (4, .int (nI m)), (5, .int (nI (m ^ m))), (6, .int ((lsB S a x F m X).1)), (7, .int (nI X))]) dX10_least_118 (by decide) rfl ?_
                          refine x_iconst C dX10_least_120 (v := 0) (by decide) ?_
                          refine x_istore C (L1 := [(9, .int 0), (8, .int (nI X)), (0, .ref (ad 30)), (1, .int x), (2, .int a), (3, .int k), (4, .int (nI m)), (5, .int (nI (m ^ m))), (6, .int ((lsB S a x F m X).1)), (7, .int (nI X))]) dX10_least_121 (by decide) rfl ?_
                          refine x_iload C 6 dX10_least_123 rfl ?_
                          refine x_iconst C dX10_least_125 (v := 1) (by decide) ?_
                          refine x_isub C dX10_least_126 ?_
                          refine x_istore C (L1 := [(10, .int ((nI m) - 1)), (9, .int 0), (8, .int (nI X)), (0, .ref (ad 30)), (1, .int x), (2, .int a), (3, .int k), (4, .int (nI m)), (5, .int (nI (m ^ m))), (6, .int ((lsB S a x F m X).1)), (7, .int (nI X))]) dX10_least_127 (by decide) rfl ?_
                          have lp129 : ∀ (kk : Nat) (Z1 : tf_M) (c : Nat), (kk + c = m) → (lsK S Z1) → (Z1 72 = F) → (∀ q, kk ≤ q → q < m → Z1 73 q = lsRw F m X q) → (Z1 74 = (lsB S a x F m X).2) → XJ pv l ev ({ frames := 2, cells := 0, slots := 0, locals := 43 } : Room) sv mv args below meth cv G A LL ad (MQ below (va_Qi (fun z u => (mLsG S nR n x a → z = mLsR S n x a k) ∧ (¬ mLsG S nR n x a → z = -1) ∧ lsK S u) (tf_B G LL ad (pw G nR ad)) A) args sv 0 0 A) 13 0 0 (pw G nR ad Z1) 129 [(0, .ref (ad 30)), (1, .int x), (2, .int a), (3, .int k), (4, .int (nI m)), (5, .int (nI (m ^ m))), (6, .int ((lsB S a x F m X).1)), (7, .int (nI X)), (8, .int (nI (X / m ^ c))), (9, .int (lsU F m X c)), (10, .int (nI kk - 1))] [] := by
                            intro kk
                            induction kk with
                            | zero =>
                              intro Z1 c hkc hK1 h172 h173 h174
                              rw [show nI 0 - 1 = -1 from rfl]
                              refine x_iload C 10 dX10_least_129 rfl ?_
                              refine x_if_lt C (tgt := 178) dX10_least_131 (by decide) (fun c131 => ?_) (fun c131 => ?_)
                              rotate_left
                              · exact absurd (by decide) c131
                              have hcm : c = m := by omega
                              rw [hcm]
                              obtain ⟨Z2, hZ2⟩ : ∃ Z2, Z2 = Z1 := ⟨_, rfl⟩
                              rw [← hZ2]
                              rw [← hZ2] at hK1 h172 h173 h174
                              have hK2 := hK1
                              have h272 := h172
                              have h274 := h174
                              have h273 : ∀ q, q < m → Z2 73 q = lsRw F m X q := fun q hq => h173 q (Nat.zero_le _) hq
                              refine x_iload C 9 dX10_least_178 rfl ?_
                              refine x_iload_n C 1 dX10_least_180 rfl rfl ?_
                              refine x_icmp_eq C (tgt := 187) dX10_least_181 (by decide) (fun c181 => ?_) (fun c181 => ?_)
                              · skip
                                refine x_aload_n C 0 dX10_least_187 rfl rfl ?_
                                refine x_get C (T := TX10) (N := 45) (v := .int (Z2 30 3)) 30 3 hin10 (hF 30 (by decide)) (pf_30 G nR ad _) rfl (by decide) lk144 rfl rfl dX10_least_188 ?_
                                refine x_top C (v2 := S 30 3) (congrFun (hK2 30 (by decide) (by decide) (by decide)) 3) ?_
                                refine x_istore C (L1 := [(10, .int (S 30 3)), (0, .ref (ad 30)), (1, .int x), (2, .int a), (3, .int k), (4, .int (nI m)), (5, .int (nI (m ^ m))), (6, .int ((lsB S a x F m X).1)), (7, .int (nI X)), (8, .int (nI (X / m ^ m))), (9, .int (lsU F m X m))]) dX10_least_191 (by decide) rfl ?_
                                refine x_iconst C dX10_least_193 (v := 0) (by decide) ?_
                                refine x_istore C (L1 := [(11, .int 0), (10, .int (S 30 3)), (0, .ref (ad 30)), (1, .int x), (2, .int a), (3, .int k), (4, .int (nI m)), (5, .int (nI (m ^ m))), (6, .int ((lsB S a x F m X).1)), (7, .int (nI X)), (8, .int (nI (X / m ^ m))), (9, .int (lsU F m X m))]) dX10_least_194 (by decide) rfl ?_
                                refine x_iconst C dX10_least_196 (v := 0) (by decide) ?_
                                refine x_istore C (L1 := [(12, .int 0), (11, .int 0), (10, .int (S 30 3)), (0, .ref (ad 30)), (1, .int x), (2, .int a), (3, .int k), (4, .int (nI m)), (5, .int (nI (m ^ m))), (6, .int ((lsB S a x F m X).1)), (7, .int (nI X)), (8, .int (nI (X / m ^ m))), (9, .int (lsU F m X m))]) dX10_least_197 (by decide) rfl ?_
                                have lp199 : ∀ (d9 : Nat) (i2 : Nat), (i2 ≤ m) → m - i2 < d9 → XJ pv l ev ({ frames := 2, cells := 0, slots := 0, locals := 43 } : Room) sv mv args below meth cv G A LL ad (MQ below (va_Qi (fun z u => (mLsG S nR n x a → z = mLsR S n x a k) ∧ (¬ mLsG S nR n x a → z = -1) ∧ lsK S u) (tf_B G LL ad (pw G nR ad)) A) args sv 0 0 A) 13 0 0 (pw G nR ad Z2) 199 [(0, .ref (ad 30)), (1, .int x), (2, .int a), (3, .int k), (4, .int (nI m)), (5, .int (nI (m ^ m))), (6, .int ((lsB S a x F m X).1)), (7, .int (nI X)), (10, .int ((lsE S a (lsRw F m X) i2).1)), (11, .int ((lsE S a (lsRw F m X) i2).2)), (12, .int (nI i2))] [] := by
                                  intro d9
                                  induction d9 with
                                  | zero => intro i2 hi2 hd9; omega
                                  | succ d9 ih199 =>
                                    intro i2 hi2 hd9
                                    have ih := ih199
                                    refine x_iload C 10 dX10_least_199 rfl ?_
                                    refine x_iload C 4 dX10_least_201 rfl ?_
                                    refine x_icmp_ge C (tgt := 269) dX10_least_203 (by decide) (fun c203 => ?_) (fun c203 => ?_)
                                    · skip
                                      have hi2e : i2 = m := by
                                        have := nI_ge' c203 (by omega)
                                        omega
                                      rw [hi2e]
                                      refine x_iload C 6 dX10_least_269 rfl ?_
                                      refine x_iconst C dX10_least_271 (v := -1) (by decide) ?_
                                      refine x_icmp_eq C (tgt := 285) dX10_least_272 (by decide) (fun c272 => ?_) (fun c272 => ?_)
                                      · skip
                                        refine x_iload C 9 dX10_least_285 rfl ?_
                                        refine x_istore C (L1 := [(6, .int ((lsE S a (lsRw F m X) m).2)), (0, .ref (ad 30)), (1, .int x), (2, .int a), (3, .int k), (4, .int (nI m)), (5, .int (nI (m ^ m))), (7, .int (nI X)), (10, .int ((lsE S a (lsRw F m X) m).1)), (11, .int ((lsE S a (lsRw F m X) m).2)), (12, .int (nI m))]) dX10_least_287 (by decide) rfl ?_
                                        refine x_iconst C dX10_least_289 (v := 0) (by decide) ?_
                                        refine x_istore C (L1 := [(12, .int 0), (6, .int ((lsE S a (lsRw F m X) m).2)), (0, .ref (ad 30)), (1, .int x), (2, .int a), (3, .int k), (4, .int (nI m)), (5, .int (nI (m ^ m))), (7, .int (nI X)), (10, .int ((lsE S a (lsRw F m X) m).1)), (11, .int ((lsE S a (lsRw F m X) m).2))]) dX10_least_290 (by decide) rfl ?_
                                        have lp292 : ∀ (d9 : Nat) (j : Nat) (Z3 : tf_M), (j ≤ m) → (lsK S Z3) → (Z3 72 = F) → (∀ q, q < m → Z3 73 q = lsRw F m X q) → (Z3 74 = fun q => if q < j then lsRw F m X q else (lsB S a x F m X).2 q) → m - j < d9 → XJ pv l ev ({ frames := 2, cells := 0, slots := 0, locals := 43 } : Room) sv mv args below meth cv G A LL ad (MQ below (va_Qi (fun z u => (mLsG S nR n x a → z = mLsR S n x a k) ∧ (¬ mLsG S nR n x a → z = -1) ∧ lsK S u) (tf_B G LL ad (pw G nR ad)) A) args sv 0 0 A) 13 0 0 (pw G nR ad Z3) 292 [(0, .ref (ad 30)), (1, .int x), (2, .int a), (3, .int k), (4, .int (nI m)), (5, .int (nI (m ^ m))), (6, .int ((lsE S a (lsRw F m X) m).2)), (7, .int (nI X)), (12, .int (nI j))] [] := by
                                          intro d9
                                          induction d9 with
                                          | zero => intro j Z3 hjm hK3 h372 h373 h374 hd9; omega
                                          | succ d9 ih292 =>
                                            intro j Z3 hjm hK3 h372 h373 h374 hd9
                                            have ih := ih292
                                            refine x_iload C 8 dX10_least_292 rfl ?_
                                            refine x_iload C 4 dX10_least_294 rfl ?_
                                            refine x_icmp_ge C (tgt := 319) dX10_least_296 (by decide) (fun c296 => ?_) (fun c296 => ?_)
                                            · skip
                                              refine x_iinc C (L1 := [(7, .int ((nI X) + 1)), (0, .ref (ad 30)), (1, .int x), (2, .int a), (3, .int k), (4, .int (nI m)), (5, .int (nI (m ^ m))), (6, .int ((lsE S a (lsRw F m X) m).2)), (12, .int (nI j))]) 7 dX10_least_319 rfl rfl (by decide) rfl ?_
                                              refine x_goto C (tgt := 109) dX10_least_322 (by decide) ?_
                                              refine x_sub [1, 2, 3, 4, 5, 6, 7, 0] (L1 := [(0, .ref (ad 30)), (1, .int x), (2, .int a), (3, .int k), (4, .int (nI m)), (5, .int (nI (m ^ m))), (6, .int ((lsE S a (lsRw F m X) m).2)), (7, .int ((nI X) + 1))]) rfl ?_
                                              have hb : lsB S a x F m (X + 1) = ((lsE S a (lsRw F m X) m).2, fun j => if j < m then lsRw F m X j else (lsB S a x F m X).2 j) := by
                                                rw [lsB]
                                                exact if_pos ⟨c181, Or.inl c272⟩
                                              rw [← nI_succ]
                                              have hj9 : j = m := by
                                                have := nI_ge' c296 (by omega)
                                                omega
                                              rw [hj9] at h374
                                              have e6 : (lsE S a (lsRw F m X) m).2 = (lsB S a x F m (X + 1)).1 := by rw [hb]
                                              rw [e6]
                                              exact ih109 (X + 1) _ (by omega) hK3 h372 (by rw [hb]; exact h374) (by omega)
                                            · skip
                                              have hlt3 : j < m := nI_lt' c296 (by omega)
                                              refine x_aload_n C 0 dX10_least_299 rfl rfl ?_
                                              refine x_get C (T := TX10) (N := 45) (v := .ref (ad 74)) 30 44 hin10 (hF 30 (by decide)) (pf_30 G nR ad _) rfl (by decide) lk109 rfl rfl dX10_least_300 ?_
                                              refine x_iload C 8 dX10_least_303 rfl ?_
                                              refine x_aload_n C 0 dX10_least_305 rfl rfl ?_
                                              refine x_get C (T := TX10) (N := 45) (v := .ref (ad 73)) 30 43 hin10 (hF 30 (by decide)) (pf_30 G nR ad _) rfl (by decide) lk106 rfl rfl dX10_least_306 ?_
                                              refine x_iload C 8 dX10_least_309 rfl ?_
                                              refine x_iald C 73 (hF 73 (by decide)) (pf_73 G nR ad _) (nI_in (N := 6) (by omega) (by omega)) (kk := j) (nI_clamp (by omega)) dX10_least_311 ?_
                                              refine y_iast C 74 (hF 74 (by decide)) (fun f => (pf_74 G nR ad f)) (nI_in (N := 6) (by omega) (by omega)) (kk := j) (nI_clamp (by omega)) dX10_least_312 ?_
                                              refine x_iinc C (L1 := [(12, .int ((nI j) + 1)), (0, .ref (ad 30)), (1, .int x), (2, .int a), (3, .int k), (4, .int (nI m)), (5, .int (nI (m ^ m))), (6, .int ((lsE S a (lsRw F m X) m).2)), (7, .int (nI X))]) 8 dX10_least_313 rfl rfl (by decide) rfl ?_
                                              refine x_goto C (tgt := 292) dX10_least_316 (by decide) ?_
                                              refine x_sub [1, 2, 3, 4, 5, 6, 7, 8, 0] (L1 := [(0, .ref (ad 30)), (1, .int x), (2, .int a), (3, .int k), (4, .int (nI m)), (5, .int (nI (m ^ m))), (6, .int ((lsE S a (lsRw F m X) m).2)), (7, .int (nI X)), (12, .int ((nI j) + 1))]) rfl ?_
                                              rw [← nI_succ]
                                              exact ih (j + 1) _ (by omega) (hK3.put (Or.inr rfl)) (by rw [s2_ne (by decide)]; exact h372) (fun q hq => by rw [s2_ne (by decide)]; exact h373 q hq) (by
                                                funext q
                                                have e9 : Z3 74 q = if q < j then lsRw F m X q else (lsB S a x F m X).2 q := by rw [h374]
                                                rw [s2_at, e9, h373 j hlt3]
                                                by_cases hq : q = j
                                                · subst hq; rw [if_pos rfl, if_pos (by omega)]
                                                · rw [if_neg hq]
                                                  by_cases hq2 : q < j
                                                  · rw [if_pos hq2, if_pos (by omega)]
                                                  · rw [if_neg hq2, if_neg (by omega)]) (by omega)
                                        refine x_sub [2, 3, 4, 5, 6, 7, 1, 8, 0] (L1 := [(0, .ref (ad 30)), (1, .int x), (2, .int a), (3, .int k), (4, .int (nI m)), (5, .int (nI (m ^ m))), (6, .int ((lsE S a (lsRw F m X) m).2)), (7, .int (nI X)), (12, .int 0)]) rfl ?_
                                        exact lp292 (m + 1) 0 Z2 (Nat.zero_le _) hK2 h272 h273 (by rw [h274]; funext q; rw [if_neg (Nat.not_lt_zero q)]) (by omega)
                                      · skip
                                        refine x_iload C 9 dX10_least_275 rfl ?_
                                        refine x_iload C 6 dX10_least_277 rfl ?_
                                        refine x_icmp_lt C (tgt := 285) dX10_least_279 (by decide) (fun c279 => ?_) (fun c279 => ?_)
                                        · skip
                                          refine x_iload C 9 dX10_least_285 rfl ?_
                                          refine x_istore C (L1 := [(6, .int ((lsE S a (lsRw F m X) m).2)), (0, .ref (ad 30)), (1, .int x), (2, .int a), (3, .int k), (4, .int (nI m)), (5, .int (nI (m ^ m))), (7, .int (nI X)), (10, .int ((lsE S a (lsRw F m X) m).1)), (11, .int ((lsE S a (lsRw F m X) m).2)), (12, .int (nI m))]) dX10_least_287 (by decide) rfl ?_
                                          refine x_iconst C dX10_least_289 (v := 0) (by decide) ?_
                                          refine x_istore C (L1 := [(12, .int 0), (6, .int ((lsE S a (lsRw F m X) m).2)), (0, .ref (ad 30)), (1, .int x), (2, .int a), (3, .int k), (4, .int (nI m)), (5, .int (nI (m ^ m))), (7, .int (nI X)), (10, .int ((lsE S a (lsRw F m X) m).1)), (11, .int ((lsE S a (lsRw F m X) m).2))]) dX10_least_290 (by decide) rfl ?_
                                          have lp292 : ∀ (d9 : Nat) (j : Nat) (Z3 : tf_M), (j ≤ m) → (lsK S Z3) → (Z3 72 = F) → (∀ q, q < m → Z3 73 q = lsRw F m X q) → (Z3 74 = fun q => if q < j then lsRw F m X q else (lsB S a x F m X).2 q) → m - j < d9 → XJ pv l ev ({ frames := 2, cells := 0, slots := 0, locals := 43 } : Room) sv mv args below meth cv G A LL ad (MQ below (va_Qi (fun z u => (mLsG S nR n x a → z = mLsR S n x a k) ∧ (¬ mLsG S nR n x a → z = -1) ∧ lsK S u) (tf_B G LL ad (pw G nR ad)) A) args sv 0 0 A) 13 0 0 (pw G nR ad Z3) 292 [(0, .ref (ad 30)), (1, .int x), (2, .int a), (3, .int k), (4, .int (nI m)), (5, .int (nI (m ^ m))), (6, .int ((lsE S a (lsRw F m X) m).2)), (7, .int (nI X)), (12, .int (nI j))] [] := by
                                            intro d9
                                            induction d9 with
                                            | zero => intro j Z3 hjm hK3 h372 h373 h374 hd9; omega
                                            | succ d9 ih292 =>
                                              intro j Z3 hjm hK3 h372 h373 h374 hd9
                                              have ih := ih292
                                              refine x_iload C 8 dX10_least_292 rfl ?_
                                              refine x_iload C 4 dX10_least_294 rfl ?_
                                              refine x_icmp_ge C (tgt := 319) dX10_least_296 (by decide) (fun c296 => ?_) (fun c296 => ?_)
                                              · skip
                                                refine x_iinc C (L1 := [(7, .int ((nI X) + 1)), (0, .ref (ad 30)), (1, .int x), (2, .int a), (3, .int k), (4, .int (nI m)), (5, .int (nI (m ^ m))), (6, .int ((lsE S a (lsRw F m X) m).2)), (12, .int (nI j))]) 7 dX10_least_319 rfl rfl (by decide) rfl ?_
                                                refine x_goto C (tgt := 109) dX10_least_322 (by decide) ?_
                                                refine x_sub [1, 2, 3, 4, 5, 6, 7, 0] (L1 := [(0, .ref (ad 30)), (1, .int x), (2, .int a), (3, .int k), (4, .int (nI m)), (5, .int (nI (m ^ m))), (6, .int ((lsE S a (lsRw F m X) m).2)), (7, .int ((nI X) + 1))]) rfl ?_
                                                have hb : lsB S a x F m (X + 1) = ((lsE S a (lsRw F m X) m).2, fun j => if j < m then lsRw F m X j else (lsB S a x F m X).2 j) := by
                                                  rw [lsB]
                                                  exact if_pos ⟨c181, Or.inr c279⟩
                                                rw [← nI_succ]
                                                have hj9 : j = m := by
                                                  have := nI_ge' c296 (by omega)
                                                  omega
                                                rw [hj9] at h374
                                                have e6 : (lsE S a (lsRw F m X) m).2 = (lsB S a x F m (X + 1)).1 := by rw [hb]
                                                rw [e6]
                                                exact ih109 (X + 1) _ (by omega) hK3 h372 (by rw [hb]; exact h374) (by omega)
                                              · skip
                                                have hlt3 : j < m := nI_lt' c296 (by omega)
                                                refine x_aload_n C 0 dX10_least_299 rfl rfl ?_
                                                refine x_get C (T := TX10) (N := 45) (v := .ref (ad 74)) 30 44 hin10 (hF 30 (by decide)) (pf_30 G nR ad _) rfl (by decide) lk109 rfl rfl dX10_least_300 ?_
                                                refine x_iload C 8 dX10_least_303 rfl ?_
                                                refine x_aload_n C 0 dX10_least_305 rfl rfl ?_
                                                refine x_get C (T := TX10) (N := 45) (v := .ref (ad 73)) 30 43 hin10 (hF 30 (by decide)) (pf_30 G nR ad _) rfl (by decide) lk106 rfl rfl dX10_least_306 ?_
                                                refine x_iload C 8 dX10_least_309 rfl ?_
                                                refine x_iald C 73 (hF 73 (by decide)) (pf_73 G nR ad _) (nI_in (N := 6) (by omega) (by omega)) (kk := j) (nI_clamp (by omega)) dX10_least_311 ?_
                                                refine y_iast C 74 (hF 74 (by decide)) (fun f => (pf_74 G nR ad f)) (nI_in (N := 6) (by omega) (by omega)) (kk := j) (nI_clamp (by omega)) dX10_least_312 ?_
                                                refine x_iinc C (L1 := [(12, .int ((nI j) + 1)), (0, .ref (ad 30)), (1, .int x), (2, .int a), (3, .int k), (4, .int (nI m)), (5, .int (nI (m ^ m))), (6, .int ((lsE S a (lsRw F m X) m).2)), (7, .int (nI X))]) 8 dX10_least_313 rfl rfl (by decide) rfl ?_
                                                refine x_goto C (tgt := 292) dX10_least_316 (by decide) ?_
                                                refine x_sub [1, 2, 3, 4, 5, 6, 7, 8, 0] (L1 := [(0, .ref (ad 30)), (1, .int x), (2, .int a), (3, .int k), (4, .int (nI m)), (5, .int (nI (m ^ m))), (6, .int ((lsE S a (lsRw F m X) m).2)), (7, .int (nI X)), (12, .int ((nI j) + 1))]) rfl ?_
                                                rw [← nI_succ]
                                                exact ih (j + 1) _ (by omega) (hK3.put (Or.inr rfl)) (by rw [s2_ne (by decide)]; exact h372) (fun q hq => by rw [s2_ne (by decide)]; exact h373 q hq) (by
                                                  funext q
                                                  have e9 : Z3 74 q = if q < j then lsRw F m X q else (lsB S a x F m X).2 q := by rw [h374]
                                                  rw [s2_at, e9, h373 j hlt3]
                                                  by_cases hq : q = j
                                                  · subst hq; rw [if_pos rfl, if_pos (by omega)]
                                                  · rw [if_neg hq]
                                                    by_cases hq2 : q < j
                                                    · rw [if_pos hq2, if_pos (by omega)]
                                                    · rw [if_neg hq2, if_neg (by omega)]) (by omega)
                                          refine x_sub [2, 3, 4, 5, 6, 7, 1, 8, 0] (L1 := [(0, .ref (ad 30)), (1, .int x), (2, .int a), (3, .int k), (4, .int (nI m)), (5, .int (nI (m ^ m))), (6, .int ((lsE S a (lsRw F m X) m).2)), (7, .int (nI X)), (12, .int 0)]) rfl ?_
                                          exact lp292 (m + 1) 0 Z2 (Nat.zero_le _) hK2 h272 h273 (by rw [h274]; funext q; rw [if_neg (Nat.not_lt_zero q)]) (by omega)
                                        · skip
                                          refine x_goto C (tgt := 319) dX10_least_282 (by decide) ?_
                                          refine x_iinc C (L1 := [(7, .int ((nI X) + 1)), (0, .ref (ad 30)), (1, .int x), (2, .int a), (3, .int k), (4, .int (nI m)), (5, .int (nI (m ^ m))), (6, .int ((lsB S a x F m X).1)), (10, .int ((lsE S a (lsRw F m X) m).1)), (11, .int ((lsE S a (lsRw F m X) m).2)), (12, .int (nI m))]) 7 dX10_least_319 rfl rfl (by decide) rfl ?_
                                          refine x_goto C (tgt := 109) dX10_least_322 (by decide) ?_
                                          refine x_sub [1, 2, 3, 4, 5, 6, 7, 0] (L1 := [(0, .ref (ad 30)), (1, .int x), (2, .int a), (3, .int k), (4, .int (nI m)), (5, .int (nI (m ^ m))), (6, .int ((lsB S a x F m X).1)), (7, .int ((nI X) + 1))]) rfl ?_
                                          have hb : lsB S a x F m (X + 1) = lsB S a x F m X := by
                                            rw [lsB]
                                            exact if_neg (fun g => g.2.elim c272 c279)
                                          rw [← nI_succ, ← hb]
                                          exact ih109 (X + 1) _ (by omega) hK2 h272 (by rw [hb]; exact h274) (by omega)
                                    · skip
                                      have hlt2 : i2 < m := nI_lt' c203 (by omega)
                                      have hRv : ∃ q, q < n ∧ lsRw F m X i2 = nI q := hFv _ (Nat.mod_lt _ (by omega))
                                      obtain ⟨q2, hq2, hr2⟩ := hRv
                                      have h273i := h273 i2 hlt2
                                      have hc2 : (lsRw F m X i2).toNatClampNeg = q2 := by rw [hr2]; exact nI_clamp (by omega)
                                      refine x_iload C 8 dX10_least_206 rfl ?_
                                      refine x_aload_n C 0 dX10_least_208 rfl rfl ?_
                                      refine x_get C (T := TX10) (N := 45) (v := .ref (ad 43)) 30 13 hin10 (hF 30 (by decide)) (pf_30 G nR ad _) rfl (by decide) lk32 rfl rfl dX10_least_209 ?_
                                      refine x_aload_n C 0 dX10_least_212 rfl rfl ?_
                                      refine x_get C (T := TX10) (N := 45) (v := .ref (ad 73)) 30 43 hin10 (hF 30 (by decide)) (pf_30 G nR ad _) rfl (by decide) lk106 rfl rfl dX10_least_213 ?_
                                      refine x_iload C 10 dX10_least_216 rfl ?_
                                      refine x_iald C 73 (hF 73 (by decide)) (pf_73 G nR ad _) (nI_in (N := 6) (by omega) (by omega)) (kk := i2) (nI_clamp (by omega)) dX10_least_218 ?_
                                      refine x_top C (v2 := nI q2) (h273i.trans hr2) ?_
                                      refine x_iald C 43 (hF 43 (by decide)) (pf_43 G nR ad _) (nI_in (N := 12) (by omega) (by omega)) (kk := q2) (nI_clamp (by omega)) dX10_least_219 ?_
                                      refine x_aload_n C 0 dX10_least_220 rfl rfl ?_
                                      refine x_get C (T := TX10) (N := 45) (v := .ref (ad 32)) 30 2 hin10 (hF 30 (by decide)) (pf_30 G nR ad _) rfl (by decide) lk13 rfl rfl dX10_least_221 ?_
                                      refine x_iload_n C 2 dX10_least_224 rfl rfl ?_
                                      refine x_iald C 32 (hF 32 (by decide)) (pf_32 G nR ad _) (vp_ok (n := nR - 1) c18 (by omega) (by decide)) (kk := a.toNatClampNeg) rfl dX10_least_225 ?_
                                      rw [hK2 32 (by decide) (by decide) (by decide), hK2 43 (by decide) (by decide) (by decide)]
                                      refine x_iadd C dX10_least_226 ?_
                                      refine x_iconst C dX10_least_227 (v := 1) (by decide) ?_
                                      refine x_isub C dX10_least_228 ?_
                                      refine x_aload_n C 0 dX10_least_229 rfl rfl ?_
                                      refine x_get C (T := TX10) (N := 45) (v := .ref (ad 32)) 30 2 hin10 (hF 30 (by decide)) (pf_30 G nR ad _) rfl (by decide) lk13 rfl rfl dX10_least_230 ?_
                                      refine x_iload_n C 2 dX10_least_233 rfl rfl ?_
                                      refine x_iald C 32 (hF 32 (by decide)) (pf_32 G nR ad _) (vp_ok (n := nR - 1) c18 (by omega) (by decide)) (kk := a.toNatClampNeg) rfl dX10_least_234 ?_
                                      rw [hK2 32 (by decide) (by decide) (by decide)]
                                      have hLn : ¬ S 32 a.toNatClampNeg = 0 := fun h => by have h9 := hL1 c18; rw [h] at h9; exact absurd h9 (by decide)
                                      refine x_idiv C dX10_least_235 hLn ?_
                                      refine x_top C (v2 := dtp (S 43 q2) (S 32 a.toNatClampNeg)) (by unfold dtp; rw [if_pos (hL1 c18)]) ?_
                                      refine x_iadd C dX10_least_236 ?_
                                      refine x_istore C (L1 := [(10, .int (((lsE S a (lsRw F m X) i2).1) + (dtp (S 43 q2) (S 32 a.toNatClampNeg)))), (0, .ref (ad 30)), (1, .int x), (2, .int a), (3, .int k), (4, .int (nI m)), (5, .int (nI (m ^ m))), (6, .int ((lsB S a x F m X).1)), (7, .int (nI X)), (11, .int ((lsE S a (lsRw F m X) i2).2)), (12, .int (nI i2))]) dX10_least_237 (by decide) rfl ?_
                                      refine x_iload C 9 dX10_least_239 rfl ?_
                                      refine x_iconst C dX10_least_241 (v := 0) (by decide) ?_
                                      refine x_iload C 0 dX10_least_242 rfl ?_
                                      refine x_aload_n C 1 dX10_least_244 rfl rfl ?_
                                      refine x_get C (T := TX10) (N := 45) (v := .ref (ad 50)) 30 20 hin10 (hF 30 (by decide)) (pf_30 G nR ad _) rfl (by decide) lk53 rfl rfl dX10_least_245 ?_
                                      refine x_aload_n C 1 dX10_least_248 rfl rfl ?_
                                      refine x_get C (T := TX10) (N := 45) (v := .ref (ad 73)) 30 43 hin10 (hF 30 (by decide)) (pf_30 G nR ad _) rfl (by decide) lk106 rfl rfl dX10_least_249 ?_
                                      refine x_iload C 10 dX10_least_252 rfl ?_
                                      refine x_iald C 73 (hF 73 (by decide)) (pf_73 G nR ad _) (nI_in (N := 6) (by omega) (by omega)) (kk := i2) (nI_clamp (by omega)) dX10_least_254 ?_
                                      refine x_top C (v2 := nI q2) (h273i.trans hr2) ?_
                                      refine x_iald C 50 (hF 50 (by decide)) (pf_50 G nR ad _) (nI_in (N := 12) (by omega) (by omega)) (kk := q2) (nI_clamp (by omega)) dX10_least_255 ?_
                                      rw [hK2 50 (by decide) (by decide) (by decide)]
                                      refine x_isub C dX10_least_256 ?_
                                      refine x_mmax C hm1max hm2max hm3 hm4max (Nat.le_of_ble_eq_true rfl) (Nat.le_of_ble_eq_true rfl) (Nat.le_of_ble_eq_true rfl) (Nat.le_of_ble_eq_true rfl) dX10_least_257 ?_
                                      refine x_iadd C dX10_least_260 ?_
                                      refine x_istore C (L1 := [(11, .int (((lsE S a (lsRw F m X) i2).2) + (if 0 < (((lsE S a (lsRw F m X) i2).1) + (dtp (S 43 q2) (S 32 a.toNatClampNeg))) - (S 50 q2) then (((lsE S a (lsRw F m X) i2).1) + (dtp (S 43 q2) (S 32 a.toNatClampNeg))) - (S 50 q2) else 0))), (10, .int (((lsE S a (lsRw F m X) i2).1) + (dtp (S 43 q2) (S 32 a.toNatClampNeg)))), (0, .ref (ad 30)), (1, .int x), (2, .int a), (3, .int k), (4, .int (nI m)), (5, .int (nI (m ^ m))), (6, .int ((lsB S a x F m X).1)), (7, .int (nI X)), (12, .int (nI i2))]) dX10_least_261 (by decide) rfl ?_
                                      refine x_iinc C (L1 := [(12, .int ((nI i2) + 1)), (11, .int (((lsE S a (lsRw F m X) i2).2) + (if 0 < (((lsE S a (lsRw F m X) i2).1) + (dtp (S 43 q2) (S 32 a.toNatClampNeg))) - (S 50 q2) then (((lsE S a (lsRw F m X) i2).1) + (dtp (S 43 q2) (S 32 a.toNatClampNeg))) - (S 50 q2) else 0))), (10, .int (((lsE S a (lsRw F m X) i2).1) + (dtp (S 43 q2) (S 32 a.toNatClampNeg)))), (0, .ref (ad 30)), (1, .int x), (2, .int a), (3, .int k), (4, .int (nI m)), (5, .int (nI (m ^ m))), (6, .int ((lsB S a x F m X).1)), (7, .int (nI X))]) 10 dX10_least_263 rfl rfl (by decide) rfl ?_
                                      refine x_goto C (tgt := 199) dX10_least_266 (by decide) ?_
                                      refine x_sub [3, 4, 5, 6, 7, 8, 9, 10, 2, 1, 0] (L1 := [(0, .ref (ad 30)), (1, .int x), (2, .int a), (3, .int k), (4, .int (nI m)), (5, .int (nI (m ^ m))), (6, .int ((lsB S a x F m X).1)), (7, .int (nI X)), (10, .int (((lsE S a (lsRw F m X) i2).1) + (dtp (S 43 q2) (S 32 a.toNatClampNeg)))), (11, .int (((lsE S a (lsRw F m X) i2).2) + (if 0 < (((lsE S a (lsRw F m X) i2).1) + (dtp (S 43 q2) (S 32 a.toNatClampNeg))) - (S 50 q2) then (((lsE S a (lsRw F m X) i2).1) + (dtp (S 43 q2) (S 32 a.toNatClampNeg))) - (S 50 q2) else 0))), (12, .int ((nI i2) + 1))]) rfl ?_
                                      rw [← nI_succ, ← hc2]
                                      exact ih (i2 + 1) (by omega) (by omega)
                                refine x_sub [3, 4, 5, 6, 7, 8, 9, 10, 2, 1, 0] (L1 := [(0, .ref (ad 30)), (1, .int x), (2, .int a), (3, .int k), (4, .int (nI m)), (5, .int (nI (m ^ m))), (6, .int ((lsB S a x F m X).1)), (7, .int (nI X)), (10, .int (S 30 3)), (11, .int 0), (12, .int 0)]) rfl ?_
                                exact lp199 (m + 1) 0 (Nat.zero_le _) (by omega)
                              · skip
                                refine x_goto C (tgt := 319) dX10_least_184 (by decide) ?_
                                refine x_iinc C (L1 := [(7, .int ((nI X) + 1)), (0, .ref (ad 30)), (1, .int x), (2, .int a), (3, .int k), (4, .int (nI m)), (5, .int (nI (m ^ m))), (6, .int ((lsB S a x F m X).1)), (8, .int (nI (X / m ^ m))), (9, .int (lsU F m X m)), (10, .int (-1))]) 7 dX10_least_319 rfl rfl (by decide) rfl ?_
                                refine x_goto C (tgt := 109) dX10_least_322 (by decide) ?_
                                refine x_sub [1, 2, 3, 4, 5, 6, 7, 0] (L1 := [(0, .ref (ad 30)), (1, .int x), (2, .int a), (3, .int k), (4, .int (nI m)), (5, .int (nI (m ^ m))), (6, .int ((lsB S a x F m X).1)), (7, .int ((nI X) + 1))]) rfl ?_
                                have hb : lsB S a x F m (X + 1) = lsB S a x F m X := by
                                  rw [lsB]
                                  exact if_neg (fun g => c181 g.1)
                                rw [← nI_succ, ← hb]
                                exact ih109 (X + 1) _ (by omega) hK2 h272 (by rw [hb]; exact h274) (by omega)
                            | succ kk ih129 =>
                              intro Z1 c hkc hK1 h172 h173 h174
                              have ih := ih129
                              rw [nI_pred]
                              refine x_iload C 10 dX10_least_129 rfl ?_
                              refine x_if_lt C (tgt := 178) dX10_least_131 (by decide) (fun c131 => ?_) (fun c131 => ?_)
                              · skip
                                exact absurd c131 (nI_pos (by omega))
                              · skip
                                have hXb : X / m ^ c < 2 ^ 31 := by have := Nat.div_le_self X (m ^ c); omega
                                have hmod6 : X / m ^ c % m < 6 := Nat.lt_of_lt_of_le (Nat.mod_lt (X / m ^ c) (show 0 < m by omega)) hm6
                                refine x_aload_n C 0 dX10_least_134 rfl rfl ?_
                                refine x_get C (T := TX10) (N := 45) (v := .ref (ad 73)) 30 43 hin10 (hF 30 (by decide)) (pf_30 G nR ad _) rfl (by decide) lk106 rfl rfl dX10_least_135 ?_
                                refine x_iload C 10 dX10_least_138 rfl ?_
                                refine x_aload_n C 0 dX10_least_140 rfl rfl ?_
                                refine x_get C (T := TX10) (N := 45) (v := .ref (ad 72)) 30 42 hin10 (hF 30 (by decide)) (pf_30 G nR ad _) rfl (by decide) lk103 rfl rfl dX10_least_141 ?_
                                refine x_iload C 8 dX10_least_144 rfl ?_
                                refine x_iload C 4 dX10_least_146 rfl ?_
                                refine x_irem C dX10_least_148 (nI_ne0 (by omega) (by omega)) ?_
                                refine x_top C (v2 := nI (X / m ^ c % m)) (pk_rem hXb (by omega) (by omega)) ?_
                                refine x_iald C 72 (hF 72 (by decide)) (pf_72 G nR ad _) (nI_in (N := 6) hmod6 (by decide)) (kk := (X / m ^ c % m)) (nI_clamp (Nat.lt_trans hmod6 (by decide))) dX10_least_149 ?_
                                refine y_iast C 73 (hF 73 (by decide)) (fun f => (pf_73 G nR ad f)) (nI_in (N := 6) (by omega) (by omega)) (kk := kk) (nI_clamp (by omega)) dX10_least_150 ?_
                                obtain ⟨Z9, hZ9⟩ : ∃ Z9, Z9 = (s2 Z1 73 kk (Z1 72 ((X / m ^ c % m)))) := ⟨_, rfl⟩
                                have hdg : Z1 72 (X / m ^ c % m) = lsRw F m X kk := by rw [h172]; unfold lsRw; rw [show m - 1 - kk = c by omega]
                                have hK9 : lsK S Z9 := by rw [hZ9]; exact hK1.put (Or.inl rfl)
                                have h972 : Z9 72 = F := by rw [hZ9, s2_ne (by decide)]; exact h172
                                have h974 : Z9 74 = (lsB S a x F m X).2 := by rw [hZ9, s2_ne (by decide)]; exact h174
                                have h973 : ∀ q, kk ≤ q → q < m → Z9 73 q = lsRw F m X q := fun q h1 h2 => by
                                  rw [hZ9, s2_at]
                                  by_cases hq : q = kk
                                  · subst hq; rw [if_pos rfl, hdg]
                                  · rw [if_neg hq]; exact h173 q (by omega) h2
                                rw [← hZ9]
                                refine x_iload C 9 dX10_least_151 rfl ?_
                                refine x_iconst C dX10_least_153 (v := 1) (by decide) ?_
                                refine x_aload_n C 0 dX10_least_154 rfl rfl ?_
                                refine x_get C (T := TX10) (N := 45) (v := .ref (ad 73)) 30 43 hin10 (hF 30 (by decide)) (pf_30 G nR ad _) rfl (by decide) lk106 rfl rfl dX10_least_155 ?_
                                refine x_iload C 10 dX10_least_158 rfl ?_
                                refine x_iald C 73 (hF 73 (by decide)) (pf_73 G nR ad _) (nI_in (N := 6) (by omega) (by omega)) (kk := kk) (nI_clamp (by omega)) dX10_least_160 ?_
                                refine x_top C (v2 := F (X / m ^ c % m)) (by rw [h973 kk (Nat.le_refl _) (by omega), ← hdg, h172]) ?_
                                refine x_ishl C dX10_least_161 ?_
                                refine x_ior C dX10_least_162 ?_
                                refine x_istore C (L1 := [(9, .int ((lsU F m X c) ||| (1 <<< ((F (X / m ^ c % m)) &&& 31)))), (0, .ref (ad 30)), (1, .int x), (2, .int a), (3, .int k), (4, .int (nI m)), (5, .int (nI (m ^ m))), (6, .int ((lsB S a x F m X).1)), (7, .int (nI X)), (8, .int (nI (X / m ^ c))), (10, .int (nI kk))]) dX10_least_163 (by decide) rfl ?_
                                refine x_iload C 9 dX10_least_165 rfl ?_
                                refine x_iload C 5 dX10_least_167 rfl ?_
                                refine x_idiv C dX10_least_169 (nI_ne0 (by omega) (by omega)) ?_
                                refine x_top C (v2 := nI (X / m ^ c / m)) (pk_div hXb (by omega) (by omega)) ?_
                                refine x_istore C (L1 := [(8, .int (nI (X / m ^ c / m))), (9, .int ((lsU F m X c) ||| (1 <<< ((F (X / m ^ c % m)) &&& 31)))), (0, .ref (ad 30)), (1, .int x), (2, .int a), (3, .int k), (4, .int (nI m)), (5, .int (nI (m ^ m))), (6, .int ((lsB S a x F m X).1)), (7, .int (nI X)), (10, .int (nI kk))]) dX10_least_170 (by decide) rfl ?_
                                refine x_iinc C (L1 := [(10, .int ((nI kk) - 1)), (8, .int (nI (X / m ^ c / m))), (9, .int ((lsU F m X c) ||| (1 <<< ((F (X / m ^ c % m)) &&& 31)))), (0, .ref (ad 30)), (1, .int x), (2, .int a), (3, .int k), (4, .int (nI m)), (5, .int (nI (m ^ m))), (6, .int ((lsB S a x F m X).1)), (7, .int (nI X))]) 10 dX10_least_172 rfl (i_dec1 _) (by decide) rfl ?_
                                refine x_goto C (tgt := 129) dX10_least_175 (by decide) ?_
                                refine x_sub [3, 4, 5, 6, 7, 8, 9, 10, 1, 2, 0] (L1 := [(0, .ref (ad 30)), (1, .int x), (2, .int a), (3, .int k), (4, .int (nI m)), (5, .int (nI (m ^ m))), (6, .int ((lsB S a x F m X).1)), (7, .int (nI X)), (8, .int (nI (X / m ^ c / m))), (9, .int ((lsU F m X c) ||| (1 <<< ((F (X / m ^ c % m)) &&& 31)))), (10, .int ((nI kk) - 1))]) rfl ?_
                                have hcd : X / m ^ c / m = X / m ^ (c + 1) := by rw [Nat.pow_succ, Nat.div_div_eq_div_mul]
                                rw [hcd]
                                exact ih Z9 (c + 1) (by omega) hK9 h972 h973 h974
                          refine x_sub [3, 4, 5, 6, 7, 8, 9, 10, 2, 1, 0] (L1 := [(0, .ref (ad 30)), (1, .int x), (2, .int a), (3, .int k), (4, .int (nI m)), (5, .int (nI (m ^ m))), (6, .int ((lsB S a x F m X).1)), (7, .int (nI X)), (8, .int (nI X)), (9, .int 0), (10, .int ((nI m) - 1))]) rfl ?_
                          have h9 := lp129 m Z 0 (by omega) hKX hX72 (fun q h1 h2 => absurd h1 (by omega)) hX74
                          rw [Nat.pow_zero, Nat.div_one] at h9
                          exact h9
                    refine x_sub [2, 3, 4, 5, 6, 7, 1, 0] (L1 := [(0, .ref (ad 30)), (1, .int x), (2, .int a), (3, .int k), (4, .int (nI m)), (5, .int (nI (m ^ m))), (6, .int (-1)), (7, .int 0)]) rfl ?_
                    exact lp109 (m ^ m + 1) 0 Z (Nat.zero_le _) hK0 hF72 hZ74 (by omega)
                  · skip
                    refine x_iload C 5 dX10_least_90 rfl ?_
                    refine x_iload C 4 dX10_least_92 rfl ?_
                    refine x_imul C dX10_least_94 ?_
                    refine x_istore C (L1 := [(5, .int ((nI (m ^ p)) * (nI m))), (0, .ref (ad 30)), (1, .int x), (2, .int a), (3, .int k), (4, .int (nI m)), (6, .int (nI p))]) dX10_least_95 (by decide) rfl ?_
                    refine x_iinc C (L1 := [(6, .int ((nI p) + 1)), (5, .int ((nI (m ^ p)) * (nI m))), (0, .ref (ad 30)), (1, .int x), (2, .int a), (3, .int k), (4, .int (nI m))]) 6 dX10_least_97 rfl rfl (by decide) rfl ?_
                    refine x_goto C (tgt := 83) dX10_least_100 (by decide) ?_
                    refine x_sub [2, 3, 4, 5, 6, 1, 0] (L1 := [(0, .ref (ad 30)), (1, .int x), (2, .int a), (3, .int k), (4, .int (nI m)), (5, .int ((nI (m ^ p)) * (nI m))), (6, .int ((nI p) + 1))]) rfl ?_
                    have hlp : p < m := nI_lt' c87 (by omega)
                    rw [← nI_ml, ← Nat.pow_succ, ← nI_succ]
                    exact ih (p + 1) (by omega) (by omega)
              refine x_sub [2, 3, 4, 5, 6, 1, 0] (L1 := [(0, .ref (ad 30)), (1, .int x), (2, .int a), (3, .int k), (4, .int (nI m)), (5, .int 1), (6, .int 0)]) rfl ?_
              exact lp83 (m + 1) 0 (Nat.zero_le _) (by omega)
            · skip
              have hlt : i < n := nI_lt' (by rw [← hz, ← hk30]; exact c35) (by omega)
              refine x_iload_n C 1 dX10_least_38 rfl rfl ?_
              refine x_iload C 5 dX10_least_39 rfl ?_
              refine x_ishr C dX10_least_41 ?_
              refine x_iconst C dX10_least_42 (v := 1) (by decide) ?_
              refine x_iand C dX10_least_43 ?_
              refine x_if_ne C (tgt := 50) dX10_least_44 (by decide) (fun c44 => ?_) (fun c44 => ?_)
              · skip
                refine x_iload C 4 dX10_least_50 rfl ?_
                refine x_bipush C dX10_least_52 (v := 6) (by decide) ?_
                refine x_icmp_ne C (tgt := 59) dX10_least_54 (by decide) (fun c54 => ?_) (fun c54 => ?_)
                · skip
                  have h5 : ¬ cntB x i = 6 := fun h => c54 (by rw [h]; rfl)
                  refine x_aload_n C 0 dX10_least_59 rfl rfl ?_
                  refine x_get C (T := TX10) (N := 45) (v := .ref (ad 72)) 30 42 hin10 (hF 30 (by decide)) (pf_30 G nR ad _) rfl (by decide) lk103 rfl rfl dX10_least_60 ?_
                  refine x_iload C 4 dX10_least_63 rfl ?_
                  refine x_iload C 5 dX10_least_65 rfl ?_
                  refine y_iast C 72 (hF 72 (by decide)) (fun f => (pf_72 G nR ad f)) (nI_in (N := 6) (by omega) (by omega)) (kk := (cntB x i)) (nI_clamp (by omega)) dX10_least_67 ?_
                  refine x_iinc C (L1 := [(4, .int ((nI (cntB x i)) + 1)), (0, .ref (ad 30)), (1, .int x), (2, .int a), (3, .int k), (5, .int (nI i))]) 4 dX10_least_68 rfl rfl (by decide) rfl ?_
                  refine x_iinc C (L1 := [(5, .int ((nI i) + 1)), (4, .int ((nI (cntB x i)) + 1)), (0, .ref (ad 30)), (1, .int x), (2, .int a), (3, .int k)]) 5 dX10_least_71 rfl rfl (by decide) rfl ?_
                  refine x_goto C (tgt := 29) dX10_least_74 (by decide) ?_
                  refine x_sub [2, 3, 4, 5, 1, 0] (L1 := [(0, .ref (ad 30)), (1, .int x), (2, .int a), (3, .int k), (4, .int ((nI (cntB x i)) + 1)), (5, .int ((nI i) + 1))]) rfl ?_
                  have hb : bit1 x i = 1 := (bit1_01 x i).resolve_left c44
                  have e8 : cntB x (i + 1) = cntB x i + 1 := by rw [cntB, if_pos hb]
                  rw [← nI_succ, ← nI_succ, ← e8]
                  exact ih (i + 1) _ (by omega) (by rw [e0, fwS, if_pos hb]) (by omega) (by omega)
                · skip
                  refine x_iconst C dX10_least_57 (v := -1) (by decide) ?_
                  refine x_iret C hrt9 Z ?_ rfl dX10_least_58
                  have hb : bit1 x i = 1 := (bit1_01 x i).resolve_left c44
                  have e8 : cntB x (i + 1) = cntB x i + 1 := by rw [cntB, if_pos hb]
                  have e7 := cntB_le (x := x) (i := i + 1) (n := n) hlt
                  have e6 : cntB x i = 6 := nI_inj (b := 6) c54 (by omega) (by decide)
                  exact ⟨fun h => absurd h.2.2 (by omega), fun _ => rfl, fun y h1 _ _ => by rw [e0]; exact fwS_ne h1 i⟩
              · skip
                refine x_goto C (tgt := 71) dX10_least_47 (by decide) ?_
                refine x_iinc C (L1 := [(5, .int ((nI i) + 1)), (0, .ref (ad 30)), (1, .int x), (2, .int a), (3, .int k), (4, .int (nI (cntB x i)))]) 5 dX10_least_71 rfl rfl (by decide) rfl ?_
                refine x_goto C (tgt := 29) dX10_least_74 (by decide) ?_
                refine x_sub [1, 2, 3, 4, 5, 0] (L1 := [(0, .ref (ad 30)), (1, .int x), (2, .int a), (3, .int k), (4, .int (nI (cntB x i))), (5, .int ((nI i) + 1))]) rfl ?_
                have hb : ¬ bit1 x i = 1 := fun h => by have c9 : bit1 x i = 0 := c44; rw [c9] at h; exact absurd h (by decide)
                have e8 : cntB x (i + 1) = cntB x i := by rw [cntB, if_neg hb]
                rw [← nI_succ, ← e8]
                exact ih (i + 1) _ (by omega) (by rw [e0, fwS, if_neg hb]) (by omega) (by omega)
        refine x_sub [2, 3, 4, 5, 1, 0] (L1 := [(0, .ref (ad 30)), (1, .int x), (2, .int a), (3, .int k), (4, .int 0), (5, .int 0)]) rfl ?_
        exact lp29 (n + 1) 0 S (Nat.zero_le _) rfl (Nat.zero_le _) (by omega)
      · replace c18 := bI_z c18
        refine x_iconst C dX10_least_21 (v := -1) (by decide) ?_
        refine x_iret C hrt9 S ?_ rfl dX10_least_22
        exact ⟨fun h => (by have := h.2.1; rw [c18] at this; cases this), fun _ => rfl, fun _ _ _ _ => rfl⟩

