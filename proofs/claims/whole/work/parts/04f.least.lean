/-! least -/
def scAll (S : tf_M) (x a : Int32) : Nat → tf_M × Nat
  | 0 => (s2 S 21 4 0, 0)
  | i + 1 => if bit1 x i = 1 then (schAdd (scAll S x a i).1 (scAll S x a i).2 (nI i) (dtp (S (100 + i) 1) (S 3 a.toNatClampNeg)) (S (100 + i) 10), (scAll S x a i).2 + 1) else scAll S x a i
theorem scAll_ok {S : tf_M} {x a : Int32} (i : Nat) : (scAll S x a i).2 = cntB x i ∧ (scAll S x a i).1 21 4 = nI (cntB x i) ∧ ∀ y, y < 21 ∨ 24 < y → (scAll S x a i).1 y = S y := by
  induction i with
  | zero => exact ⟨rfl, rfl, fun y hy => s2_ne (by omega)⟩
  | succ i ih =>
    obtain ⟨h1, h2, h3⟩ := ih
    unfold scAll cntB
    split
    · refine ⟨by rw [h1], ?_, fun y hy => ?_⟩
      · simp only [schAdd, s2_eq, h1]
      · simp only [schAdd]; rw [s2_ne (by omega), s2_ne (by omega), s2_ne (by omega), s2_ne (by omega), h3 y hy]
    · exact ⟨h1, h2, h3⟩
theorem wgAll_ne {n x : Nat} (h : x ≠ 25) : ∀ (k : Nat) (S : tf_M), wgAll n k S x = S x := by
  intro k
  induction k with
  | zero => intro S; rfl
  | succ k ih => intro S; unfold wgAll wgStep; rw [ih, s2_ne h]
def lsG (S : tf_M) (x a : Int32) : Bool := hasAllB S x && decide (bcF x ≤ 6) && isP a (S 1 0 - 1)
def lsS (S : tf_M) (x a : Int32) (n : Nat) : tf_M := wgAll (cntB x n) (2 ^ cntB x n) (s2 (scAll S x a n).1 21 5 ((scAll S x a n).1 0 7))
def lsR (S : tf_M) (x a : Int32) (n : Nat) (k : Int32) : Int32 := if k = -1 then lsS S x a n 25 0 else inPl (lsS S x a n) (cntB x n) k
set_option maxHeartbeats 4000000 in
set_option maxRecDepth 100000 in
theorem k_X9_least (l : Launch) (G : tf_G) (nR : Nat) (LL : List Nat) (ad : Nat → Nat) (hF : ∀ j ∈ tf_fix, j ∈ LL) (S : tf_M) (x a k : Int32) (n : Nat) (hfl : FlOk G nR LL ad S n) (hn : S 1 0 = nI nR) (hR : nR ≤ 12) (hR1 : 1 ≤ nR) : Ci l yX9_least wsX9_least ({ frames := 4, cells := 0, slots := 0, locals := 94 } : Room) G LL ad (pw G nR ad) (pw G nR ad S) [.ref (ad 0), .int x, .int a, .int k] (fun r u => r = (if lsG S x a = true then lsR S x a n k else -1) ∧ u = if lsG S x a = true then lsS S x a n else S) := by
  have hin9 : ∀ w ∈ u_ws RX9 TX9 9, w ∈ wsX9_least := by decide +kernel
  have lk30 : Cond.fieldLink RX9 30 "TributeFleet" "fleet" "LTributeFleet$Fleet;" ∈ wsX9_least := by decide +kernel
  have lk23 : Cond.fieldLink RX9 23 "TributeFleet" "canal" "LTributeFleet$Canal;" ∈ wsX9_least := by decide +kernel
  have lk67 : Cond.fieldLink RX9 67 "TributeFleet" "schedule" "LTributeFleet$Schedule;" ∈ wsX9_least := by decide +kernel
  have hin3 : ∀ w ∈ u_ws RX3 TX3 3, w ∈ wsX9_least := by decide +kernel
  have lk252 : Cond.fieldLink RX9 252 "TributeFleet$Fleet" "size" "I" ∈ wsX9_least := by decide +kernel
  have lk71 : Cond.fieldLink RX9 71 "TributeFleet" "today" "I" ∈ wsX9_least := by decide +kernel
  have hin6 : ∀ w ∈ u_ws RX6 TX6 12, w ∈ wsX9_least := by decide +kernel
  have lk253 : Cond.fieldLink RX9 253 "TributeFleet$Squadron" "boats" "I" ∈ wsX9_least := by decide +kernel
  have hin0 : ∀ w ∈ u_ws RX0 TX0 9, w ∈ wsX9_least := by decide +kernel
  have lk93 : Cond.fieldLink RX9 93 "TributeFleet$Canal" "lockBoats" "[I" ∈ wsX9_least := by decide +kernel
  have lk238 : Cond.fieldLink RX9 238 "TributeFleet$Squadron" "dueDay" "I" ∈ wsX9_least := by decide +kernel
  refine ci_of (cc := cX9_least) (maxL := 6) (ret := (some .int)) (by decide +kernel) rfl (Nat.le_of_ble_eq_true rfl) ?_
  intro pv ev sv mv args below meth cv A C hrt9 hnm9
  have C : Cx pv sv mv args meth cv cX9_least 6 RX9 wsX9_least G A LL ad := C
  show XJ pv l ev _ sv mv args below meth cv G A LL ad _ 6 0 0 _ 0 [(0, .ref (ad 0)), (1, .int x), (2, .int a), (3, .int k)] []
  refine x_aload_n C 0 dX9_least_0 rfl rfl ?_
  refine x_get C (T := TX9) (N := 9) (v := .ref (ad 7)) 0 1 hin9 (hF 0 (by decide)) (pf_0 G nR ad _) rfl (by decide) lk30 rfl rfl dX9_least_1 ?_
  refine x_iload_n C 1 dX9_least_4 rfl rfl ?_
  refine x_Vi 7 C (k_X3_hasAll l G nR LL ad hF S x ) gX9_least_X3_hasAll rfl (by decide +kernel) ⟨(Nat.le_of_ble_eq_true rfl), (Nat.le_of_ble_eq_true rfl)⟩ ⟨(Nat.le_of_ble_eq_true rfl), (Nat.le_of_ble_eq_true rfl)⟩ (hF 7 (by decide)) (pf_7 G nR ad _) (T := TX3) (N := 3) rfl (n := 1) rfl (st := []) (Nat.le_of_ble_eq_true rfl) rfl dX9_least_5 (fun _ _ hr9 => ?_)
  subst hr9
  refine x_if_eq C (tgt := 31) dX9_least_8 (by decide) (fun c8 => ?_) (fun c8 => ?_)
  · replace c8 := bI_z c8
    refine x_iconst C dX9_least_31 (v := -1) (by decide) ?_
    refine x_iret C hrt9 S ?_ rfl dX9_least_32
    have hg : lsG S x a = false := by unfold lsG; rw [c8]; simp
    rw [hg]
    exact ⟨rfl, rfl⟩
  · replace c8 := bI_nz c8
    refine x_iload_n C 1 dX9_least_11 rfl rfl ?_
    refine x_Si C (k_J6_bitCount_0f7a4 l G LL ad _ x) gX9_least_J6_bitCount_0f7a4 rfl (by decide +kernel) ⟨(Nat.le_of_ble_eq_true rfl), (Nat.le_of_ble_eq_true rfl)⟩ ⟨(Nat.le_of_ble_eq_true rfl), (Nat.le_of_ble_eq_true rfl)⟩ (n := 1) rfl (st := []) (Nat.le_of_ble_eq_true rfl) rfl dX9_least_12 (fun _ _ hr9 => ?_)
    subst hr9
    refine x_bipush C dX9_least_15 (v := 6) (by decide) ?_
    refine x_icmp_gt C (tgt := 31) dX9_least_17 (by decide) (fun c17 => ?_) (fun c17 => ?_)
    · skip
      refine x_iconst C dX9_least_31 (v := -1) (by decide) ?_
      refine x_iret C hrt9 S ?_ rfl dX9_least_32
      have hg : lsG S x a = false := by unfold lsG; rw [decide_eq_false (show ¬ bcF x ≤ 6 from Int32.not_le.mpr c17)]; simp
      rw [hg]
      exact ⟨rfl, rfl⟩
    · skip
      refine x_aload_n C 0 dX9_least_20 rfl rfl ?_
      refine x_get C (T := TX9) (N := 9) (v := .ref (ad 1)) 0 0 hin9 (hF 0 (by decide)) (pf_0 G nR ad _) rfl (by decide) lk23 rfl rfl dX9_least_21 ?_
      refine x_iload_n C 2 dX9_least_24 rfl rfl ?_
      refine x_Vi 1 C (k_X0_hasLock l G nR LL ad hF S a ) gX9_least_X0_hasLock rfl (by decide +kernel) ⟨(Nat.le_of_ble_eq_true rfl), (Nat.le_of_ble_eq_true rfl)⟩ ⟨(Nat.le_of_ble_eq_true rfl), (Nat.le_of_ble_eq_true rfl)⟩ (hF 1 (by decide)) (pf_1 G nR ad _) (T := TX0) (N := 9) rfl (n := 1) rfl (st := []) (Nat.le_of_ble_eq_true rfl) rfl dX9_least_25 (fun _ _ hr9 => ?_)
      subst hr9
      refine x_if_ne C (tgt := 33) dX9_least_28 (by decide) (fun c28 => ?_) (fun c28 => ?_)
      · replace c28 := bI_nz c28
        have h6n := bc_6 hfl.1 hfl.2.1 c8 (Int32.not_lt.mp c17)
        refine x_aload_n C 0 dX9_least_33 rfl rfl ?_
        refine x_get C (T := TX9) (N := 9) (v := .ref (ad 21)) 0 6 hin9 (hF 0 (by decide)) (pf_0 G nR ad _) rfl (by decide) lk67 rfl rfl dX9_least_34 ?_
        refine x_Vv 21 C (k_X5_clear l G nR LL ad hF S  ) gX9_least_X5_clear rfl (by decide +kernel) ⟨(Nat.le_of_ble_eq_true rfl), (Nat.le_of_ble_eq_true rfl)⟩ ⟨(Nat.le_of_ble_eq_true rfl), (Nat.le_of_ble_eq_true rfl)⟩ (hF 21 (by decide)) (pf_21 G nR ad _) (T := TX5) (N := 6) rfl (n := 0) rfl (st := []) (Nat.le_of_ble_eq_true rfl) rfl dX9_least_37 (fun _ hr9 => ?_)
        subst hr9
        refine x_iconst C dX9_least_40 (v := 0) (by decide) ?_
        refine x_istore C (L1 := [(4, .int 0), (0, .ref (ad 0)), (1, .int x), (2, .int a), (3, .int k)]) dX9_least_41 (by decide) rfl ?_
        have lp43 : ∀ (d9 : Nat) (i : Nat) (Z : tf_M), (i ≤ n) → (Z = (scAll S x a i).1) → n - i < d9 → XJ pv l ev ({ frames := 4, cells := 0, slots := 0, locals := 94 } : Room) sv mv args below meth cv G A LL ad (MQ below (va_Qi (fun r u => r = (if lsG S x a = true then lsR S x a n k else -1) ∧ u = if lsG S x a = true then lsS S x a n else S) (tf_B G LL ad (pw G nR ad)) A) args sv 0 0 A) 6 0 0 (pw G nR ad Z) 43 [(0, .ref (ad 0)), (1, .int x), (2, .int a), (3, .int k), (4, .int (nI i))] [] := by
          intro d9
          induction d9 with
          | zero => intro i Z hin e0 hd9; omega
          | succ d9 ih43 =>
            intro i Z hin e0 hd9
            have ih := ih43
            obtain ⟨sc1, sc2, sc3⟩ := scAll_ok (S := S) (x := x) (a := a) i
            have hmZ : Z 21 4 = nI (cntB x i) := by rw [e0]; exact sc2
            have hkp : ∀ y, y < 21 ∨ 24 < y → Z y = S y := fun y hy => by rw [e0]; exact sc3 y hy
            have hflZ := hfl.keep (S1 := Z) (hkp 7 (by decide)) (hkp 8 (by decide))
            have hci := cntB_le (x := x) hin
            refine x_iload C 4 dX9_least_43 rfl ?_
            refine x_aload_n C 0 dX9_least_45 rfl rfl ?_
            refine x_get C (T := TX9) (N := 9) (v := .ref (ad 7)) 0 1 hin9 (hF 0 (by decide)) (pf_0 G nR ad _) rfl (by decide) lk30 rfl rfl dX9_least_46 ?_
            refine x_get C (T := TX3) (N := 3) (v := .int (Z 7 2)) 7 2 hin3 (hF 7 (by decide)) (pf_7 G nR ad _) rfl (by decide) lk252 rfl rfl dX9_least_49 ?_
            refine x_icmp_ge C (tgt := 118) dX9_least_52 (by decide) (fun c52 => ?_) (fun c52 => ?_)
            · skip
              have hge : n ≤ i := nI_ge' (by rw [← hflZ.1]; exact c52) (by have := hfl.2.1; omega)
              have hmN : Z 21 4 = nI (cntB x n) := by rw [hmZ, show i = n by omega]
              refine x_aload_n C 0 dX9_least_118 rfl rfl ?_
              refine x_get C (T := TX9) (N := 9) (v := .ref (ad 21)) 0 6 hin9 (hF 0 (by decide)) (pf_0 G nR ad _) rfl (by decide) lk67 rfl rfl dX9_least_119 ?_
              refine x_aload_n C 0 dX9_least_122 rfl rfl ?_
              refine x_get C (T := TX9) (N := 9) (v := .int (Z 0 7)) 0 7 hin9 (hF 0 (by decide)) (pf_0 G nR ad _) rfl (by decide) lk71 rfl rfl dX9_least_123 ?_
              refine x_Vv 21 C (k_X5_weigh l G nR LL ad hF Z (cntB x n) hmN h6n (Z 0 7)) gX9_least_X5_weigh rfl (by decide +kernel) ⟨(Nat.le_of_ble_eq_true rfl), (Nat.le_of_ble_eq_true rfl)⟩ ⟨(Nat.le_of_ble_eq_true rfl), (Nat.le_of_ble_eq_true rfl)⟩ (hF 21 (by decide)) (pf_21 G nR ad _) (T := TX5) (N := 6) rfl (n := 1) rfl (st := []) (Nat.le_of_ble_eq_true rfl) rfl dX9_least_126 (fun _ hr9 => ?_)
              subst hr9
              have hU : wgAll (cntB x n) (2 ^ cntB x n) (s2 Z 21 5 (Z 0 7)) = lsS S x a n := by rw [e0, show i = n by omega]; rfl
              rw [hU]
              have hmU : lsS S x a n 21 4 = nI (cntB x n) := by rw [← hU, wgAll_ne (by decide), s2_nk (by decide)]; exact hmN
              refine x_iload_n C 3 dX9_least_129 rfl rfl ?_
              refine x_iconst C dX9_least_130 (v := -1) (by decide) ?_
              refine x_icmp_ne C (tgt := 144) dX9_least_131 (by decide) (fun c131 => ?_) (fun c131 => ?_)
              · skip
                refine x_aload_n C 0 dX9_least_144 rfl rfl ?_
                refine x_get C (T := TX9) (N := 9) (v := .ref (ad 21)) 0 6 hin9 (hF 0 (by decide)) (pf_0 G nR ad _) rfl (by decide) lk67 rfl rfl dX9_least_145 ?_
                refine x_iload_n C 3 dX9_least_148 rfl rfl ?_
                refine x_Vi 21 C (k_X5_inPlace l G nR LL ad hF (lsS S x a n) (cntB x n) hmU h6n k) gX9_least_X5_inPlace rfl (by decide +kernel) ⟨(Nat.le_of_ble_eq_true rfl), (Nat.le_of_ble_eq_true rfl)⟩ ⟨(Nat.le_of_ble_eq_true rfl), (Nat.le_of_ble_eq_true rfl)⟩ (hF 21 (by decide)) (pf_21 G nR ad _) (T := TX5) (N := 6) rfl (n := 1) rfl (st := []) (Nat.le_of_ble_eq_true rfl) rfl dX9_least_149 (fun _ _ hr9 => ?_)
                subst hr9
                refine x_iret C hrt9 (lsS S x a n) ?_ rfl dX9_least_152
                have hg : lsG S x a = true := by unfold lsG; rw [c8, c28, decide_eq_true (Int32.not_lt.mp c17)]; rfl
                rw [hg]
                refine ⟨?_, rfl⟩
                rw [if_pos rfl, lsR, if_neg c131]
              · skip
                refine x_aload_n C 0 dX9_least_134 rfl rfl ?_
                refine x_get C (T := TX9) (N := 9) (v := .ref (ad 21)) 0 6 hin9 (hF 0 (by decide)) (pf_0 G nR ad _) rfl (by decide) lk67 rfl rfl dX9_least_135 ?_
                refine x_Vi 21 C (k_X5_leastSum l G nR LL ad hF (lsS S x a n)  ) gX9_least_X5_leastSum rfl (by decide +kernel) ⟨(Nat.le_of_ble_eq_true rfl), (Nat.le_of_ble_eq_true rfl)⟩ ⟨(Nat.le_of_ble_eq_true rfl), (Nat.le_of_ble_eq_true rfl)⟩ (hF 21 (by decide)) (pf_21 G nR ad _) (T := TX5) (N := 6) rfl (n := 0) rfl (st := []) (Nat.le_of_ble_eq_true rfl) rfl dX9_least_138 (fun _ _ hr9 => ?_)
                subst hr9
                refine x_goto C (tgt := 152) dX9_least_141 (by decide) ?_
                refine x_iret C hrt9 (lsS S x a n) ?_ rfl dX9_least_152
                have hg : lsG S x a = true := by unfold lsG; rw [c8, c28, decide_eq_true (Int32.not_lt.mp c17)]; rfl
                rw [hg]
                refine ⟨?_, rfl⟩
                rw [if_pos rfl, lsR, if_pos c131]
            · skip
              have hlt : i < n := nI_lt' (by rw [← hflZ.1]; exact c52) (by have := hfl.2.1; omega)
              have hq := hfl.2.2.1 i hlt
              refine x_aload_n C 0 dX9_least_55 rfl rfl ?_
              refine x_get C (T := TX9) (N := 9) (v := .ref (ad 7)) 0 1 hin9 (hF 0 (by decide)) (pf_0 G nR ad _) rfl (by decide) lk30 rfl rfl dX9_least_56 ?_
              refine x_iload C 4 dX9_least_59 rfl ?_
              refine x_Vq 7 C (k_X3_find l G nR LL ad hF Z n hflZ (nI i)) gX9_least_X3_find rfl (by decide +kernel) ⟨(Nat.le_of_ble_eq_true rfl), (Nat.le_of_ble_eq_true rfl)⟩ ⟨(Nat.le_of_ble_eq_true rfl), (Nat.le_of_ble_eq_true rfl)⟩ (hF 7 (by decide)) (pf_7 G nR ad _) (T := TX3) (N := 3) rfl (n := 1) rfl (st := []) (Nat.le_of_ble_eq_true rfl) rfl dX9_least_61 (fun r9 _ hr9 => ?_)
              obtain rfl : r9 = some (ad (100 + i)) := by
                rcases hr9 with ⟨-, g9⟩ | ⟨g9, -⟩
                · rw [g9, nI_clamp (by have := hflZ.2.1; have := hlt; omega)]
                · rw [hflZ.1, isP_k hlt (by have := hflZ.2.1; omega)] at g9; cases g9
              refine x_astore C (L1 := [(5, .ref (ad (100 + i))), (0, .ref (ad 0)), (1, .int x), (2, .int a), (3, .int k), (4, .int (nI i))]) dX9_least_64 (by decide) rfl ?_
              refine x_aload C 0 dX9_least_66 rfl ?_
              refine x_ifnull C dX9_least_68 ?_
              refine x_iload_n C 2 dX9_least_71 rfl rfl ?_
              refine x_iload C 5 dX9_least_72 rfl ?_
              refine x_ishr C dX9_least_74 ?_
              refine x_iconst C dX9_least_75 (v := 1) (by decide) ?_
              refine x_iand C dX9_least_76 ?_
              refine x_iconst C dX9_least_77 (v := 1) (by decide) ?_
              refine x_icmp_ne C (tgt := 112) dX9_least_78 (by decide) (fun c78 => ?_) (fun c78 => ?_)
              · skip
                refine x_iinc C (L1 := [(4, .int ((nI i) + 1)), (5, .ref (ad (100 + i))), (0, .ref (ad 0)), (1, .int x), (2, .int a), (3, .int k)]) 5 dX9_least_112 rfl rfl (by decide) rfl ?_
                refine x_goto C (tgt := 43) dX9_least_115 (by decide) ?_
                refine x_sub [2, 3, 4, 5, 0] (L1 := [(0, .ref (ad 0)), (1, .int x), (2, .int a), (3, .int k), (4, .int ((nI i) + 1))]) rfl ?_
                rw [← nI_succ]
                exact ih (i + 1) _ (by omega) (by rw [scAll, if_neg (show ¬ bit1 x i = 1 from c78)]; exact e0) (by omega)
              · skip
                have hm6 : cntB x i < 6 := by
                  have h9 := cntB_le (x := x) (i := i + 1) (n := n) hlt
                  have h8 : cntB x (i + 1) = cntB x i + 1 := by rw [cntB, if_pos (show bit1 x i = 1 from c78)]
                  omega
                refine x_aload_n C 1 dX9_least_81 rfl rfl ?_
                refine x_get C (T := TX9) (N := 9) (v := .ref (ad 21)) 0 6 hin9 (hF 0 (by decide)) (pf_0 G nR ad _) rfl (by decide) lk67 rfl rfl dX9_least_82 ?_
                refine x_iload C 5 dX9_least_85 rfl ?_
                refine x_aload C 0 dX9_least_87 rfl ?_
                refine x_get C (T := TX6) (N := 12) (v := .int (Z (100 + i) 1)) (100 + i) 1 hin6 hq.2.2.2.1 (hq.1 _) rfl (by decide) lk253 rfl rfl dX9_least_89 ?_
                refine x_aload_n C 1 dX9_least_92 rfl rfl ?_
                refine x_get C (T := TX9) (N := 9) (v := .ref (ad 1)) 0 0 hin9 (hF 0 (by decide)) (pf_0 G nR ad _) rfl (by decide) lk23 rfl rfl dX9_least_93 ?_
                refine x_get C (T := TX0) (N := 9) (v := .ref (ad 3)) 1 2 hin0 (hF 1 (by decide)) (pf_1 G nR ad _) rfl (by decide) lk93 rfl rfl dX9_least_96 ?_
                refine x_iload_n C 3 dX9_least_99 rfl rfl ?_
                refine x_iald C 3 (hF 3 (by decide)) (pf_3 G nR ad _) (vp_ok (n := nR - 1) (by rw [← nI_sub1 hR1, ← hn]; exact c28) (by omega) (by decide)) (kk := a.toNatClampNeg) rfl dX9_least_100 ?_
                rw [hkp 3 (by decide), hkp (100 + i) (by omega)]
                refine x_Si C (k_X9_daysToPass l G LL ad _ (S (100 + i) 1) (S 3 a.toNatClampNeg)) gX9_least_X9_daysToPass rfl (by decide +kernel) ⟨(Nat.le_of_ble_eq_true rfl), (Nat.le_of_ble_eq_true rfl)⟩ ⟨(Nat.le_of_ble_eq_true rfl), (Nat.le_of_ble_eq_true rfl)⟩ (n := 2) rfl (st := [.int (nI i), .ref (ad 21)]) (Nat.le_of_ble_eq_true rfl) rfl dX9_least_101 (fun _ _ hr9 => ?_)
                subst hr9
                refine x_aload C 0 dX9_least_104 rfl ?_
                refine x_get C (T := TX6) (N := 12) (v := .int (Z (100 + i) 10)) (100 + i) 10 hin6 hq.2.2.2.1 (hq.1 _) rfl (by decide) lk238 rfl rfl dX9_least_106 ?_
                rw [hkp (100 + i) (by omega)]
                refine x_Vv 21 C (k_X5_add l G nR LL ad hF Z (cntB x i) hmZ hm6 (nI i) (dtp (S (100 + i) 1) (S 3 a.toNatClampNeg)) (S (100 + i) 10)) gX9_least_X5_add rfl (by decide +kernel) ⟨(Nat.le_of_ble_eq_true rfl), (Nat.le_of_ble_eq_true rfl)⟩ ⟨(Nat.le_of_ble_eq_true rfl), (Nat.le_of_ble_eq_true rfl)⟩ (hF 21 (by decide)) (pf_21 G nR ad _) (T := TX5) (N := 6) rfl (n := 3) rfl (st := []) (Nat.le_of_ble_eq_true rfl) rfl dX9_least_109 (fun _ hr9 => ?_)
                subst hr9
                refine x_iinc C (L1 := [(4, .int ((nI i) + 1)), (5, .ref (ad (100 + i))), (0, .ref (ad 0)), (1, .int x), (2, .int a), (3, .int k)]) 5 dX9_least_112 rfl rfl (by decide) rfl ?_
                refine x_goto C (tgt := 43) dX9_least_115 (by decide) ?_
                refine x_sub [2, 3, 4, 5, 0] (L1 := [(0, .ref (ad 0)), (1, .int x), (2, .int a), (3, .int k), (4, .int ((nI i) + 1))]) rfl ?_
                rw [← nI_succ]
                exact ih (i + 1) _ (by omega) (by rw [scAll, if_pos (show bit1 x i = 1 from c78), sc1, e0]) (by omega)
        refine x_sub [1, 2, 3, 4, 0] (L1 := [(0, .ref (ad 0)), (1, .int x), (2, .int a), (3, .int k), (4, .int 0)]) rfl ?_
        exact lp43 (n + 1) 0 _ (Nat.zero_le _) rfl (by omega)
      · replace c28 := bI_z c28
        refine x_iconst C dX9_least_31 (v := -1) (by decide) ?_
        refine x_iret C hrt9 S ?_ rfl dX9_least_32
        have hg : lsG S x a = false := by unfold lsG; rw [c28]; simp
        rw [hg]
        exact ⟨rfl, rfl⟩

