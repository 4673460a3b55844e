/-! the reference: what it tells -/
theorem nI_ml (a b : Nat) : nI (a * b) = nI a * nI b := Int32.ofNat_mul a b
theorem idx12 {q b : Int32} {j r : Nat} (hq : q = nI j) (hb : b - 10 = nI r) : 12 * q + b - 10 = nI (12 * j + r) := by
  rw [nI_ad, nI_ml, ← hb, hq, Int32.sub_eq_add_neg, Int32.add_assoc, ← Int32.sub_eq_add_neg]
  rfl
theorem w34 {b : Int32} (h : isW b 31 34 = true) : ∃ c, c < 4 ∧ b = nI (31 + c) := by
  obtain ⟨h1, h2⟩ := isW_t h
  rw [Int32.le_iff_toInt_le] at h1 h2
  have e1 : (31 : Int32).toInt = 31 := rfl
  have e2 : (34 : Int32).toInt = 34 := rfl
  refine ⟨b.toInt.toNat - 31, by omega, Int32.toInt_inj.mp ?_⟩
  rw [nI_toInt (by omega)]
  omega
theorem idx5 {q : Int32} {j c : Nat} (hq : q = nI j) : 5 * q + nI (31 + c) - 30 = nI (5 * j + c + 1) := by
  have e : nI (31 + c) - 30 = nI (c + 1) := by rw [show (30 : Int32) = nI 30 from rfl, nI_sub (by omega)]; congr 1; omega
  rw [Int32.sub_eq_add_neg, Int32.add_assoc, ← Int32.sub_eq_add_neg, e, hq, Nat.add_assoc, nI_ad (5 * j), nI_ml]
  rfl
def mTold (nR : Nat) (S : tf_M) (n : Nat) (q b : Int32) : Int32 := if isP q (nI n) = true then (if isP (b - 10) (nI nR) = true then S 52 (12 * q.toNatClampNeg + (b - 10).toNatClampNeg) else if isW b 31 34 = true then S 53 (5 * q.toNatClampNeg + (b.toNatClampNeg - 31) + 1) else if b = 0 then S 47 q.toNatClampNeg else if b = 1 then S 48 q.toNatClampNeg else if b = 2 then S 44 q.toNatClampNeg - S 45 q.toNatClampNeg else if b = 3 then S 49 q.toNatClampNeg else if b = 4 then S 52 (12 * q.toNatClampNeg + (S 47 q.toNatClampNeg).toNatClampNeg) else if b = 5 then (if S 51 q.toNatClampNeg = 0 then 0 else 1) else -1) else -1
def mBoatsF (S : tf_M) (a : Int32) (k : Nat) : Int32 := if S 47 k = a then S 43 k else 0
def mBagsF (S : tf_M) (a : Int32) (k : Nat) : Int32 := if S 42 k = a ∧ ¬ S 48 k = -1 then S 44 k - S 45 k else 0
def mComeF (S : tf_M) (k : Nat) : Int32 := if S 48 k = -1 then 0 else 1
def mReach (nR : Nat) (S : tf_M) (n : Nat) (a b : Int32) : Int32 := if isP a (nI nR) = true then (if b = 0 then S 31 a.toNatClampNeg else if b = 1 then sumI (mBoatsF S a) n else if b = 2 then (if icy (S 30 6) (S 30 7) a (S 30 3) = true then 1 else 0) else if b = 3 then (if isP a (nI (nR - 1)) = true then S 32 a.toNatClampNeg else -1) else -1) else -1
def mCounty (S : tf_M) (n : Nat) (a b : Int32) : Int32 := if isW a 0 5 = true ∧ isW b 0 4 = true then (if b = 0 then S 54 a.toNatClampNeg else if b = 1 then S 55 a.toNatClampNeg else if b = 2 then S 56 a.toNatClampNeg else if b = 3 then sumI (mBagsF S a) n else S 54 a.toNatClampNeg - S 55 a.toNatClampNeg - sumI (mBagsF S a) n) else -100000
def mCount (S : tf_M) (n : Nat) (b : Int32) : Int32 := if b = 0 then S 30 3 else if b = 1 then S 30 5 else if b = 2 then S 30 4 else if b = 3 then S 30 33 else if b = 4 then S 30 29 else if b = 5 then sumI (mComeF S) n else if b = 6 then S 30 0 else -1
set_option maxHeartbeats 4000000 in
set_option maxRecDepth 100000 in
theorem k_X10_told (l : Launch) (G : tf_G) (nR : Nat) (LL : List Nat) (ad : Nat → Nat) (hF : ∀ j ∈ tf_fix, j ∈ LL) (S : tf_M) (q b : Int32) (n : Nat) (hz : S 30 5 = nI n) (h12 : n ≤ 12) (hn : S 30 0 = nI nR) (hR : nR ≤ 12) (hat : ∀ j, j < n → ∃ r, r < nR ∧ S 47 j = nI r) : Ci l yX10_told wsX10_told ({ frames := 2, cells := 0, slots := 0, locals := 43 } : Room) G LL ad (fun (_ : Unit) => pw G nR ad S) (pw G nR ad S) [.ref (ad 30), .int q, .int b] (fun x _ => x = mTold nR S n q b) := by
  have hin10 : ∀ w ∈ u_ws RX10 TX10 45, w ∈ wsX10_told := by decide +kernel
  have lk44 : Cond.fieldLink RX10 44 "TributeFleetModel" "at" "[I" ∈ wsX10_told := by decide +kernel
  have lk47 : Cond.fieldLink RX10 47 "TributeFleetModel" "came" "[I" ∈ wsX10_told := by decide +kernel
  have lk35 : Cond.fieldLink RX10 35 "TributeFleetModel" "loaded" "[I" ∈ wsX10_told := by decide +kernel
  have lk38 : Cond.fieldLink RX10 38 "TributeFleetModel" "lost" "[I" ∈ wsX10_told := by decide +kernel
  have lk50 : Cond.fieldLink RX10 50 "TributeFleetModel" "why" "[I" ∈ wsX10_told := by decide +kernel
  have lk60 : Cond.fieldLink RX10 60 "TributeFleetModel" "days" "[I" ∈ wsX10_told := by decide +kernel
  have lk56 : Cond.fieldLink RX10 56 "TributeFleetModel" "hasLeave" "[Z" ∈ wsX10_told := by decide +kernel
  have lk63 : Cond.fieldLink RX10 63 "TributeFleetModel" "causes" "[I" ∈ wsX10_told := by decide +kernel
  refine ci_of (cc := cX10_told) (maxL := 3) (ret := (some .int)) (by decide +kernel) rfl (Nat.le_of_ble_eq_true rfl) ?_
  intro pv ev sv mv args below meth cv A C hrt9 hnm9
  have C : Cx pv sv mv args meth cv cX10_told 3 RX10 wsX10_told G A LL ad := C
  show XJ pv l ev _ sv mv args below meth cv G A LL ad _ 3 0 0 _ 0 [(0, .ref (ad 30)), (1, .int q), (2, .int b)] []
  refine x_aload_n C 0 dX10_told_0 rfl rfl ?_
  refine x_iload_n C 1 dX10_told_1 rfl rfl ?_
  refine x_Vi 30 C (k_X10_isSquadron l G nR LL ad hF S q n hz h12) gX10_told_X10_isSquadron rfl (by decide +kernel) ⟨(Nat.le_of_ble_eq_true rfl), (Nat.le_of_ble_eq_true rfl)⟩ ⟨(Nat.le_of_ble_eq_true rfl), (Nat.le_of_ble_eq_true rfl)⟩ (hF 30 (by decide)) (pf_30 G nR ad _) (T := TX10) (N := 45) rfl (n := 1) rfl (st := []) (Nat.le_of_ble_eq_true rfl) rfl dX10_told_2 (fun _ _ hr9 => ?_)
  subst hr9
  refine x_if_ne C (tgt := 10) dX10_told_5 (by decide) (fun c5 => ?_) (fun c5 => ?_)
  · replace c5 := bI_nz c5
    refine x_aload_n C 0 dX10_told_10 rfl rfl ?_
    refine x_iload_n C 2 dX10_told_11 rfl rfl ?_
    refine x_bipush C dX10_told_12 (v := 10) (by decide) ?_
    refine x_isub C dX10_told_14 ?_
    refine x_Vi 30 C (k_X10_isReach l G nR LL ad hF S (b - 10) hn hR) gX10_told_X10_isReach rfl (by decide +kernel) ⟨(Nat.le_of_ble_eq_true rfl), (Nat.le_of_ble_eq_true rfl)⟩ ⟨(Nat.le_of_ble_eq_true rfl), (Nat.le_of_ble_eq_true rfl)⟩ (hF 30 (by decide)) (pf_30 G nR ad _) (T := TX10) (N := 45) rfl (n := 1) rfl (st := []) (Nat.le_of_ble_eq_true rfl) rfl dX10_told_15 (fun _ _ hr9 => ?_)
    subst hr9
    refine x_if_eq C (tgt := 36) dX10_told_18 (by decide) (fun c18 => ?_) (fun c18 => ?_)
    · replace c18 := bI_z c18
      refine x_iload_n C 2 dX10_told_36 rfl rfl ?_
      refine x_bipush C dX10_told_37 (v := 31) (by decide) ?_
      refine x_bipush C dX10_told_39 (v := 34) (by decide) ?_
      refine x_Si C (k_X10_isIn l G LL ad _ b 31 34) gX10_told_X10_isIn rfl (by decide +kernel) ⟨(Nat.le_of_ble_eq_true rfl), (Nat.le_of_ble_eq_true rfl)⟩ ⟨(Nat.le_of_ble_eq_true rfl), (Nat.le_of_ble_eq_true rfl)⟩ (n := 3) rfl (st := []) (Nat.le_of_ble_eq_true rfl) rfl dX10_told_41 (fun _ _ hr9 => ?_)
      subst hr9
      refine x_if_eq C (tgt := 61) dX10_told_44 (by decide) (fun c44 => ?_) (fun c44 => ?_)
      · replace c44 := bI_z c44
        refine x_iload_n C 2 dX10_told_61 rfl rfl ?_
        rcases sw_5 b with rfl | rfl | rfl | rfl | rfl | rfl | h9
        · skip
          refine x_tableIn C dX10_told_62 (by decide) (by decide) (off := 38) (tgt := 100) rfl (by decide) ?_
          refine x_aload_n C 0 dX10_told_100 rfl rfl ?_
          refine x_get C (T := TX10) (N := 45) (v := .ref (ad 47)) 30 17 hin10 (hF 30 (by decide)) (pf_30 G nR ad _) rfl (by decide) lk44 rfl rfl dX10_told_101 ?_
          refine x_iload_n C 1 dX10_told_104 rfl rfl ?_
          refine x_iald C 47 (hF 47 (by decide)) (pf_47 G nR ad _) (vp_ok c5 h12 (by decide)) (kk := q.toNatClampNeg) rfl dX10_told_105 ?_
          refine x_iret C hrt9 () ?_ rfl dX10_told_106
          show _ = _
          rw [mTold, if_pos c5, if_neg (show ¬ isP ((0 : Int32) - 10) (nI nR) = true by rw [c18]; decide), if_neg (show ¬ isW (0 : Int32) 31 34 = true by rw [c44]; decide)]
          rfl
        · skip
          refine x_tableIn C dX10_told_62 (by decide) (by decide) (off := 45) (tgt := 107) rfl (by decide) ?_
          refine x_aload_n C 0 dX10_told_107 rfl rfl ?_
          refine x_get C (T := TX10) (N := 45) (v := .ref (ad 48)) 30 18 hin10 (hF 30 (by decide)) (pf_30 G nR ad _) rfl (by decide) lk47 rfl rfl dX10_told_108 ?_
          refine x_iload_n C 1 dX10_told_111 rfl rfl ?_
          refine x_iald C 48 (hF 48 (by decide)) (pf_48 G nR ad _) (vp_ok c5 h12 (by decide)) (kk := q.toNatClampNeg) rfl dX10_told_112 ?_
          refine x_iret C hrt9 () ?_ rfl dX10_told_113
          show _ = _
          rw [mTold, if_pos c5, if_neg (show ¬ isP ((1 : Int32) - 10) (nI nR) = true by rw [c18]; decide), if_neg (show ¬ isW (1 : Int32) 31 34 = true by rw [c44]; decide)]
          rfl
        · skip
          refine x_tableIn C dX10_told_62 (by decide) (by decide) (off := 52) (tgt := 114) rfl (by decide) ?_
          refine x_aload_n C 0 dX10_told_114 rfl rfl ?_
          refine x_get C (T := TX10) (N := 45) (v := .ref (ad 44)) 30 14 hin10 (hF 30 (by decide)) (pf_30 G nR ad _) rfl (by decide) lk35 rfl rfl dX10_told_115 ?_
          refine x_iload_n C 1 dX10_told_118 rfl rfl ?_
          refine x_iald C 44 (hF 44 (by decide)) (pf_44 G nR ad _) (vp_ok c5 h12 (by decide)) (kk := q.toNatClampNeg) rfl dX10_told_119 ?_
          refine x_aload_n C 0 dX10_told_120 rfl rfl ?_
          refine x_get C (T := TX10) (N := 45) (v := .ref (ad 45)) 30 15 hin10 (hF 30 (by decide)) (pf_30 G nR ad _) rfl (by decide) lk38 rfl rfl dX10_told_121 ?_
          refine x_iload_n C 1 dX10_told_124 rfl rfl ?_
          refine x_iald C 45 (hF 45 (by decide)) (pf_45 G nR ad _) (vp_ok c5 h12 (by decide)) (kk := q.toNatClampNeg) rfl dX10_told_125 ?_
          refine x_isub C dX10_told_126 ?_
          refine x_iret C hrt9 () ?_ rfl dX10_told_127
          show _ = _
          rw [mTold, if_pos c5, if_neg (show ¬ isP ((2 : Int32) - 10) (nI nR) = true by rw [c18]; decide), if_neg (show ¬ isW (2 : Int32) 31 34 = true by rw [c44]; decide)]
          rfl
        · skip
          refine x_tableIn C dX10_told_62 (by decide) (by decide) (off := 66) (tgt := 128) rfl (by decide) ?_
          refine x_aload_n C 0 dX10_told_128 rfl rfl ?_
          refine x_get C (T := TX10) (N := 45) (v := .ref (ad 49)) 30 19 hin10 (hF 30 (by decide)) (pf_30 G nR ad _) rfl (by decide) lk50 rfl rfl dX10_told_129 ?_
          refine x_iload_n C 1 dX10_told_132 rfl rfl ?_
          refine x_iald C 49 (hF 49 (by decide)) (pf_49 G nR ad _) (vp_ok c5 h12 (by decide)) (kk := q.toNatClampNeg) rfl dX10_told_133 ?_
          refine x_iret C hrt9 () ?_ rfl dX10_told_134
          show _ = _
          rw [mTold, if_pos c5, if_neg (show ¬ isP ((3 : Int32) - 10) (nI nR) = true by rw [c18]; decide), if_neg (show ¬ isW (3 : Int32) 31 34 = true by rw [c44]; decide)]
          rfl
        · skip
          refine x_tableIn C dX10_told_62 (by decide) (by decide) (off := 73) (tgt := 135) rfl (by decide) ?_
          refine x_aload_n C 0 dX10_told_135 rfl rfl ?_
          refine x_get C (T := TX10) (N := 45) (v := .ref (ad 52)) 30 22 hin10 (hF 30 (by decide)) (pf_30 G nR ad _) rfl (by decide) lk60 rfl rfl dX10_told_136 ?_
          refine x_bipush C dX10_told_139 (v := 12) (by decide) ?_
          refine x_iload_n C 1 dX10_told_141 rfl rfl ?_
          refine x_imul C dX10_told_142 ?_
          refine x_aload_n C 0 dX10_told_143 rfl rfl ?_
          refine x_get C (T := TX10) (N := 45) (v := .ref (ad 47)) 30 17 hin10 (hF 30 (by decide)) (pf_30 G nR ad _) rfl (by decide) lk44 rfl rfl dX10_told_144 ?_
          refine x_iload_n C 1 dX10_told_147 rfl rfl ?_
          refine x_iald C 47 (hF 47 (by decide)) (pf_47 G nR ad _) (vp_ok c5 h12 (by decide)) (kk := q.toNatClampNeg) rfl dX10_told_148 ?_
          refine x_iadd C dX10_told_149 ?_
          obtain ⟨hq1, hq2⟩ := isP_nat c5 (by omega)
          obtain ⟨r9, hr1, hr2⟩ := hat q.toNatClampNeg hq1
          have hr3 : (S 47 q.toNatClampNeg).toNatClampNeg = r9 := by rw [hr2]; exact nI_clamp (by omega)
          rw [show (12 * q) + (S 47 (q.toNatClampNeg)) = nI (12 * q.toNatClampNeg + (S 47 q.toNatClampNeg).toNatClampNeg) by rw [hr3, nI_ad, nI_ml, ← hq2, hr2]; rfl]
          refine x_iald C 52 (hF 52 (by decide)) (pf_52 G nR ad _) (nI_in (N := 144) (by rw [hr3]; omega) (by decide)) (kk := 12 * q.toNatClampNeg + (S 47 q.toNatClampNeg).toNatClampNeg) (nI_clamp (by rw [hr3]; omega)) dX10_told_150 ?_
          refine x_iret C hrt9 () ?_ rfl dX10_told_151
          show _ = _
          rw [mTold, if_pos c5, if_neg (show ¬ isP ((4 : Int32) - 10) (nI nR) = true by rw [c18]; decide), if_neg (show ¬ isW (4 : Int32) 31 34 = true by rw [c44]; decide)]
          rfl
        · skip
          refine x_tableIn C dX10_told_62 (by decide) (by decide) (off := 90) (tgt := 152) rfl (by decide) ?_
          refine x_aload_n C 0 dX10_told_152 rfl rfl ?_
          refine x_get C (T := TX10) (N := 45) (v := .ref (ad 51)) 30 21 hin10 (hF 30 (by decide)) (pf_30 G nR ad _) rfl (by decide) lk56 rfl rfl dX10_told_153 ?_
          refine x_iload_n C 1 dX10_told_156 rfl rfl ?_
          refine x_zald C 51 (hF 51 (by decide)) (pf_51 G nR ad _) (vp_ok c5 h12 (by decide)) (kk := q.toNatClampNeg) rfl dX10_told_157 ?_
          refine x_Si C (k_X10_one l G LL ad _ (S 51 (q.toNatClampNeg))) gX10_told_X10_one rfl (by decide +kernel) ⟨(Nat.le_of_ble_eq_true rfl), (Nat.le_of_ble_eq_true rfl)⟩ ⟨(Nat.le_of_ble_eq_true rfl), (Nat.le_of_ble_eq_true rfl)⟩ (n := 1) rfl (st := []) (Nat.le_of_ble_eq_true rfl) rfl dX10_told_158 (fun _ _ hr9 => ?_)
          subst hr9
          refine x_iret C hrt9 () ?_ rfl dX10_told_161
          show _ = _
          rw [mTold, if_pos c5, if_neg (show ¬ isP ((5 : Int32) - 10) (nI nR) = true by rw [c18]; decide), if_neg (show ¬ isW (5 : Int32) 31 34 = true by rw [c44]; decide)]
          rfl
        · skip
          refine x_tableOut C dX10_told_62 h9.1 (tgt := 162) (by decide) ?_
          refine x_iconst C dX10_told_162 (v := -1) (by decide) ?_
          refine x_iret C hrt9 () ?_ rfl dX10_told_163
          show _ = _
          rw [mTold, if_pos c5, if_neg (show ¬ isP (b - 10) (nI nR) = true by rw [c18]; decide), if_neg (show ¬ isW b 31 34 = true by rw [c44]; decide)]
          simp [h9.2]
      · replace c44 := bI_nz c44
        refine x_aload_n C 0 dX10_told_47 rfl rfl ?_
        refine x_get C (T := TX10) (N := 45) (v := .ref (ad 53)) 30 23 hin10 (hF 30 (by decide)) (pf_30 G nR ad _) rfl (by decide) lk63 rfl rfl dX10_told_48 ?_
        refine x_iconst C dX10_told_51 (v := 5) (by decide) ?_
        refine x_iload_n C 1 dX10_told_52 rfl rfl ?_
        refine x_imul C dX10_told_53 ?_
        refine x_iload_n C 2 dX10_told_54 rfl rfl ?_
        refine x_iadd C dX10_told_55 ?_
        refine x_bipush C dX10_told_56 (v := 30) (by decide) ?_
        refine x_isub C dX10_told_58 ?_
        obtain ⟨hq1, hq2⟩ := isP_nat c5 (by omega)
        have hb9 : ((5 * q) + b) - 30 = nI (5 * q.toNatClampNeg + (b.toNatClampNeg - 31) + 1) ∧ b.toNatClampNeg - 31 < 4 := by
          obtain ⟨c9, h1, h2⟩ := w34 c44
          rw [h2, idx5 hq2, nI_clamp (by omega), show 31 + c9 - 31 = c9 by omega]
          exact ⟨rfl, h1⟩
        rw [hb9.1]
        refine x_iald C 53 (hF 53 (by decide)) (pf_53 G nR ad _) (nI_in (N := 60) (by have := hb9.2; omega) (by decide)) (kk := 5 * q.toNatClampNeg + (b.toNatClampNeg - 31) + 1) (nI_clamp (by have := hb9.2; omega)) dX10_told_59 ?_
        refine x_iret C hrt9 () ?_ rfl dX10_told_60
        show _ = _
        rw [mTold, if_pos c5, if_neg (by rw [c18]; decide), if_pos c44]
    · replace c18 := bI_nz c18
      refine x_aload_n C 0 dX10_told_21 rfl rfl ?_
      refine x_get C (T := TX10) (N := 45) (v := .ref (ad 52)) 30 22 hin10 (hF 30 (by decide)) (pf_30 G nR ad _) rfl (by decide) lk60 rfl rfl dX10_told_22 ?_
      refine x_bipush C dX10_told_25 (v := 12) (by decide) ?_
      refine x_iload_n C 1 dX10_told_27 rfl rfl ?_
      refine x_imul C dX10_told_28 ?_
      refine x_iload_n C 2 dX10_told_29 rfl rfl ?_
      refine x_iadd C dX10_told_30 ?_
      refine x_bipush C dX10_told_31 (v := 10) (by decide) ?_
      refine x_isub C dX10_told_33 ?_
      obtain ⟨hq1, hq2⟩ := isP_nat c5 (by omega)
      obtain ⟨hr1, hr2⟩ := isP_nat c18 (by omega)
      rw [show ((12 * q) + b) - 10 = nI (12 * q.toNatClampNeg + (b - 10).toNatClampNeg) from idx12 hq2 hr2]
      refine x_iald C 52 (hF 52 (by decide)) (pf_52 G nR ad _) (nI_in (N := 144) (by omega) (by decide)) (kk := 12 * q.toNatClampNeg + (b - 10).toNatClampNeg) (nI_clamp (by omega)) dX10_told_34 ?_
      refine x_iret C hrt9 () ?_ rfl dX10_told_35
      show _ = _
      rw [mTold, if_pos c5, if_pos c18]
  · replace c5 := bI_z c5
    refine x_iconst C dX10_told_8 (v := -1) (by decide) ?_
    refine x_iret C hrt9 () ?_ rfl dX10_told_9
    show _ = _
    rw [mTold, if_neg (by rw [c5]; decide)]

set_option maxHeartbeats 4000000 in
set_option maxRecDepth 100000 in
theorem k_X10_reach (l : Launch) (G : tf_G) (nR : Nat) (LL : List Nat) (ad : Nat → Nat) (hF : ∀ j ∈ tf_fix, j ∈ LL) (S : tf_M) (a b : Int32) (hn : S 30 0 = nI nR) (hR : nR ≤ 12) (hR3 : 3 ≤ nR) (n : Nat) (hz : S 30 5 = nI n) (h12 : n ≤ 12) : Ci l yX10_reach wsX10_reach ({ frames := 2, cells := 0, slots := 0, locals := 43 } : Room) G LL ad (fun (_ : Unit) => pw G nR ad S) (pw G nR ad S) [.ref (ad 30), .int a, .int b] (fun x _ => x = mReach nR S n a b) := by
  have hin10 : ∀ w ∈ u_ws RX10 TX10 45, w ∈ wsX10_reach := by decide +kernel
  have lk128 : Cond.fieldLink RX10 128 "TributeFleetModel" "squadrons" "I" ∈ wsX10_reach := by decide +kernel
  have lk13 : Cond.fieldLink RX10 13 "TributeFleetModel" "boatsADay" "[I" ∈ wsX10_reach := by decide +kernel
  have lk7 : Cond.fieldLink RX10 7 "TributeFleetModel" "water" "[I" ∈ wsX10_reach := by decide +kernel
  have lk44 : Cond.fieldLink RX10 44 "TributeFleetModel" "at" "[I" ∈ wsX10_reach := by decide +kernel
  have lk32 : Cond.fieldLink RX10 32 "TributeFleetModel" "boats" "[I" ∈ wsX10_reach := by decide +kernel
  refine ci_of (cc := cX10_reach) (maxL := 5) (ret := (some .int)) (by decide +kernel) rfl (Nat.le_of_ble_eq_true rfl) ?_
  intro pv ev sv mv args below meth cv A C hrt9 hnm9
  have C : Cx pv sv mv args meth cv cX10_reach 5 RX10 wsX10_reach G A LL ad := C
  show XJ pv l ev _ sv mv args below meth cv G A LL ad _ 5 0 0 _ 0 [(0, .ref (ad 30)), (1, .int a), (2, .int b)] []
  refine x_aload_n C 0 dX10_reach_0 rfl rfl ?_
  refine x_iload_n C 1 dX10_reach_1 rfl rfl ?_
  refine x_Vi 30 C (k_X10_isReach l G nR LL ad hF S a hn hR) gX10_reach_X10_isReach rfl (by decide +kernel) ⟨(Nat.le_of_ble_eq_true rfl), (Nat.le_of_ble_eq_true rfl)⟩ ⟨(Nat.le_of_ble_eq_true rfl), (Nat.le_of_ble_eq_true rfl)⟩ (hF 30 (by decide)) (pf_30 G nR ad _) (T := TX10) (N := 45) rfl (n := 1) rfl (st := []) (Nat.le_of_ble_eq_true rfl) rfl dX10_reach_2 (fun _ _ hr9 => ?_)
  subst hr9
  refine x_if_ne C (tgt := 10) dX10_reach_5 (by decide) (fun c5 => ?_) (fun c5 => ?_)
  · replace c5 := bI_nz c5
    refine x_iconst C dX10_reach_10 (v := 0) (by decide) ?_
    refine x_istore_n C (L1 := [(3, .int 0), (0, .ref (ad 30)), (1, .int a), (2, .int b)]) dX10_reach_11 rfl (by decide) rfl ?_
    refine x_iconst C dX10_reach_12 (v := 0) (by decide) ?_
    refine x_istore C (L1 := [(4, .int 0), (3, .int 0), (0, .ref (ad 30)), (1, .int a), (2, .int b)]) dX10_reach_13 (by decide) rfl ?_
    have lp15 : ∀ (d9 : Nat) (k : Nat) (sm : Int32), (k ≤ n) → (sm = sumI (mBoatsF S a) k) → n - k < d9 → XJ pv l ev ({ frames := 2, cells := 0, slots := 0, locals := 43 } : Room) sv mv args below meth cv G A LL ad (MQ below (va_Qi (fun x _ => x = mReach nR S n a b) (tf_B G LL ad (fun (_ : Unit) => pw G nR ad S)) A) args sv 0 0 A) 5 0 0 (pw G nR ad S) 15 [(0, .ref (ad 30)), (1, .int a), (2, .int b), (3, .int sm), (4, .int (nI k))] [] := by
      intro d9
      induction d9 with
      | zero => intro k sm hkn e0 hd9; omega
      | succ d9 ih15 =>
        intro k sm hkn e0 hd9
        have ih := ih15
        refine x_iload C 4 dX10_reach_15 rfl ?_
        refine x_aload_n C 0 dX10_reach_17 rfl rfl ?_
        refine x_get C (T := TX10) (N := 45) (v := .int (S 30 5)) 30 5 hin10 (hF 30 (by decide)) (pf_30 G nR ad _) rfl (by decide) lk128 rfl rfl dX10_reach_18 ?_
        refine x_icmp_ge C (tgt := 55) dX10_reach_21 (by decide) (fun c21 => ?_) (fun c21 => ?_)
        · skip
          have hge : n ≤ k := nI_ge' (by rw [← hz]; exact c21) (by omega)
          have hkn9 : k = n := by omega
          rw [hkn9] at e0
          subst e0
          refine x_iload_n C 2 dX10_reach_55 rfl rfl ?_
          refine x_if_ne C (tgt := 68) dX10_reach_56 (by decide) (fun c56 => ?_) (fun c56 => ?_)
          · skip
            refine x_iload_n C 2 dX10_reach_68 rfl rfl ?_
            refine x_iconst C dX10_reach_69 (v := 1) (by decide) ?_
            refine x_icmp_ne C (tgt := 77) dX10_reach_70 (by decide) (fun c70 => ?_) (fun c70 => ?_)
            · skip
              refine x_iload_n C 2 dX10_reach_77 rfl rfl ?_
              refine x_iconst C dX10_reach_78 (v := 2) (by decide) ?_
              refine x_icmp_ne C (tgt := 93) dX10_reach_79 (by decide) (fun c79 => ?_) (fun c79 => ?_)
              · skip
                refine x_iload_n C 2 dX10_reach_93 rfl rfl ?_
                refine x_iconst C dX10_reach_94 (v := 3) (by decide) ?_
                refine x_icmp_ne C (tgt := 115) dX10_reach_95 (by decide) (fun c95 => ?_) (fun c95 => ?_)
                · skip
                  refine x_iconst C dX10_reach_115 (v := -1) (by decide) ?_
                  refine x_iret C hrt9 () ?_ rfl dX10_reach_116
                  show _ = _
                  simp [mReach, c5, c21, c56, c70, c79, c95]
                · skip
                  refine x_aload_n C 0 dX10_reach_98 rfl rfl ?_
                  refine x_iload_n C 1 dX10_reach_99 rfl rfl ?_
                  refine x_Vi 30 C (k_X10_isLock l G nR LL ad hF S a hn hR hR3) gX10_reach_X10_isLock rfl (by decide +kernel) ⟨(Nat.le_of_ble_eq_true rfl), (Nat.le_of_ble_eq_true rfl)⟩ ⟨(Nat.le_of_ble_eq_true rfl), (Nat.le_of_ble_eq_true rfl)⟩ (hF 30 (by decide)) (pf_30 G nR ad _) (T := TX10) (N := 45) rfl (n := 1) rfl (st := []) (Nat.le_of_ble_eq_true rfl) rfl dX10_reach_100 (fun _ _ hr9 => ?_)
                  subst hr9
                  refine x_if_eq C (tgt := 115) dX10_reach_103 (by decide) (fun c103 => ?_) (fun c103 => ?_)
                  · replace c103 := bI_z c103
                    refine x_iconst C dX10_reach_115 (v := -1) (by decide) ?_
                    refine x_iret C hrt9 () ?_ rfl dX10_reach_116
                    show _ = _
                    simp [mReach, c5, c21, c56, c70, c79, c95, c103]
                  · replace c103 := bI_nz c103
                    refine x_aload_n C 0 dX10_reach_106 rfl rfl ?_
                    refine x_get C (T := TX10) (N := 45) (v := .ref (ad 32)) 30 2 hin10 (hF 30 (by decide)) (pf_30 G nR ad _) rfl (by decide) lk13 rfl rfl dX10_reach_107 ?_
                    refine x_iload_n C 1 dX10_reach_110 rfl rfl ?_
                    refine x_iald C 32 (hF 32 (by decide)) (pf_32 G nR ad _) (vp_ok c103 (show nR - 1 ≤ 11 by omega) (by decide)) (kk := a.toNatClampNeg) rfl dX10_reach_111 ?_
                    refine x_goto C (tgt := 116) dX10_reach_112 (by decide) ?_
                    refine x_iret C hrt9 () ?_ rfl dX10_reach_116
                    show _ = _
                    simp [mReach, c5, c21, c56, c70, c79, c95, c103]
              · skip
                refine x_aload_n C 0 dX10_reach_82 rfl rfl ?_
                refine x_iload_n C 1 dX10_reach_83 rfl rfl ?_
                refine x_Vi 30 C (k_X10_hasIce l G nR LL ad hF S a) gX10_reach_X10_hasIce rfl (by decide +kernel) ⟨(Nat.le_of_ble_eq_true rfl), (Nat.le_of_ble_eq_true rfl)⟩ ⟨(Nat.le_of_ble_eq_true rfl), (Nat.le_of_ble_eq_true rfl)⟩ (hF 30 (by decide)) (pf_30 G nR ad _) (T := TX10) (N := 45) rfl (n := 1) rfl (st := []) (Nat.le_of_ble_eq_true rfl) rfl dX10_reach_84 (fun _ _ hr9 => ?_)
                subst hr9
                refine x_Si C (k_X10_one l G LL ad _ (bI (icy (S 30 6) (S 30 7) a (S 30 3)))) gX10_reach_X10_one rfl (by decide +kernel) ⟨(Nat.le_of_ble_eq_true rfl), (Nat.le_of_ble_eq_true rfl)⟩ ⟨(Nat.le_of_ble_eq_true rfl), (Nat.le_of_ble_eq_true rfl)⟩ (n := 1) rfl (st := []) (Nat.le_of_ble_eq_true rfl) rfl dX10_reach_87 (fun _ _ hr9 => ?_)
                subst hr9
                refine x_goto C (tgt := 116) dX10_reach_90 (by decide) ?_
                refine x_iret C hrt9 () ?_ rfl dX10_reach_116
                show _ = _
                simp only [mReach, c5, if_true, c79]
                cases icy (S 30 6) (S 30 7) a (S 30 3) <;> rfl
            · skip
              refine x_iload_n C 3 dX10_reach_73 rfl rfl ?_
              refine x_goto C (tgt := 116) dX10_reach_74 (by decide) ?_
              refine x_iret C hrt9 () ?_ rfl dX10_reach_116
              show _ = _
              simp [mReach, c5, c21, c56, c70]
          · skip
            refine x_aload_n C 0 dX10_reach_59 rfl rfl ?_
            refine x_get C (T := TX10) (N := 45) (v := .ref (ad 31)) 30 1 hin10 (hF 30 (by decide)) (pf_30 G nR ad _) rfl (by decide) lk7 rfl rfl dX10_reach_60 ?_
            refine x_iload_n C 1 dX10_reach_63 rfl rfl ?_
            refine x_iald C 31 (hF 31 (by decide)) (pf_31 G nR ad _) (vp_ok c5 hR (by decide)) (kk := a.toNatClampNeg) rfl dX10_reach_64 ?_
            refine x_goto C (tgt := 116) dX10_reach_65 (by decide) ?_
            refine x_iret C hrt9 () ?_ rfl dX10_reach_116
            show _ = _
            simp [mReach, c5, c21, c56]
        · skip
          have hlt : k < n := nI_lt' (by rw [← hz]; exact c21) (by omega)
          refine x_iload_n C 3 dX10_reach_24 rfl rfl ?_
          refine x_aload_n C 0 dX10_reach_25 rfl rfl ?_
          refine x_get C (T := TX10) (N := 45) (v := .ref (ad 47)) 30 17 hin10 (hF 30 (by decide)) (pf_30 G nR ad _) rfl (by decide) lk44 rfl rfl dX10_reach_26 ?_
          refine x_iload C 4 dX10_reach_29 rfl ?_
          refine x_iald C 47 (hF 47 (by decide)) (pf_47 G nR ad _) (nI_in (N := 12) (show k < 12 by omega) (by omega)) (kk := k) (nI_clamp (by omega)) dX10_reach_31 ?_
          refine x_iload_n C 1 dX10_reach_32 rfl rfl ?_
          refine x_icmp_ne C (tgt := 46) dX10_reach_33 (by decide) (fun c33 => ?_) (fun c33 => ?_)
          · skip
            refine x_iconst C dX10_reach_46 (v := 0) (by decide) ?_
            refine x_iadd C dX10_reach_47 ?_
            refine x_istore_n C (L1 := [(3, .int (sm + 0)), (0, .ref (ad 30)), (1, .int a), (2, .int b), (4, .int (nI k))]) dX10_reach_48 rfl (by decide) rfl ?_
            refine x_iinc C (L1 := [(4, .int ((nI k) + 1)), (3, .int (sm + 0)), (0, .ref (ad 30)), (1, .int a), (2, .int b)]) 4 dX10_reach_49 rfl rfl (by decide) rfl ?_
            refine x_goto C (tgt := 15) dX10_reach_52 (by decide) ?_
            refine x_sub [2, 3, 4, 1, 0] (L1 := [(0, .ref (ad 30)), (1, .int a), (2, .int b), (3, .int (sm + 0)), (4, .int ((nI k) + 1))]) rfl ?_
            rw [← nI_succ]
            exact ih (k + 1) _ (by omega) (by show _ = _ + _; rw [← e0]; simp [mBoatsF, c33]) (by omega)
          · skip
            refine x_aload_n C 0 dX10_reach_36 rfl rfl ?_
            refine x_get C (T := TX10) (N := 45) (v := .ref (ad 43)) 30 13 hin10 (hF 30 (by decide)) (pf_30 G nR ad _) rfl (by decide) lk32 rfl rfl dX10_reach_37 ?_
            refine x_iload C 4 dX10_reach_40 rfl ?_
            refine x_iald C 43 (hF 43 (by decide)) (pf_43 G nR ad _) (nI_in (N := 12) (show k < 12 by omega) (by omega)) (kk := k) (nI_clamp (by omega)) dX10_reach_42 ?_
            refine x_goto C (tgt := 47) dX10_reach_43 (by decide) ?_
            refine x_iadd C dX10_reach_47 ?_
            refine x_istore_n C (L1 := [(3, .int (sm + (S 43 (k)))), (0, .ref (ad 30)), (1, .int a), (2, .int b), (4, .int (nI k))]) dX10_reach_48 rfl (by decide) rfl ?_
            refine x_iinc C (L1 := [(4, .int ((nI k) + 1)), (3, .int (sm + (S 43 (k)))), (0, .ref (ad 30)), (1, .int a), (2, .int b)]) 4 dX10_reach_49 rfl rfl (by decide) rfl ?_
            refine x_goto C (tgt := 15) dX10_reach_52 (by decide) ?_
            refine x_sub [2, 3, 4, 1, 0] (L1 := [(0, .ref (ad 30)), (1, .int a), (2, .int b), (3, .int (sm + (S 43 (k)))), (4, .int ((nI k) + 1))]) rfl ?_
            rw [← nI_succ]
            exact ih (k + 1) _ (by omega) (by show _ = _ + _; rw [← e0]; simp [mBoatsF, c33]) (by omega)
    refine x_sub [2, 3, 4, 1, 0] (L1 := [(0, .ref (ad 30)), (1, .int a), (2, .int b), (3, .int 0), (4, .int 0)]) rfl ?_
    exact lp15 (n + 1) 0 0 (Nat.zero_le _) rfl (by omega)
  · replace c5 := bI_z c5
    refine x_iconst C dX10_reach_8 (v := -1) (by decide) ?_
    refine x_iret C hrt9 () ?_ rfl dX10_reach_9
    show _ = _
    simp [mReach, c5]

set_option maxHeartbeats 4000000 in
set_option maxRecDepth 100000 in
theorem k_X10_county (l : Launch) (G : tf_G) (nR : Nat) (LL : List Nat) (ad : Nat → Nat) (hF : ∀ j ∈ tf_fix, j ∈ LL) (S : tf_M) (a b : Int32) (n : Nat) (hz : S 30 5 = nI n) (h12 : n ≤ 12) : Ci l yX10_county wsX10_county ({ frames := 2, cells := 0, slots := 0, locals := 42 } : Room) G LL ad (fun (_ : Unit) => pw G nR ad S) (pw G nR ad S) [.ref (ad 30), .int a, .int b] (fun x _ => x = mCounty S n a b) := by
  have hin10 : ∀ w ∈ u_ws RX10 TX10 45, w ∈ wsX10_county := by decide +kernel
  have lk128 : Cond.fieldLink RX10 128 "TributeFleetModel" "squadrons" "I" ∈ wsX10_county := by decide +kernel
  have lk66 : Cond.fieldLink RX10 66 "TributeFleetModel" "allotment" "[I" ∈ wsX10_county := by decide +kernel
  have lk69 : Cond.fieldLink RX10 69 "TributeFleetModel" "commuted" "[I" ∈ wsX10_county := by decide +kernel
  have lk72 : Cond.fieldLink RX10 72 "TributeFleetModel" "paid" "[I" ∈ wsX10_county := by decide +kernel
  have lk29 : Cond.fieldLink RX10 29 "TributeFleetModel" "county" "[I" ∈ wsX10_county := by decide +kernel
  have lk47 : Cond.fieldLink RX10 47 "TributeFleetModel" "came" "[I" ∈ wsX10_county := by decide +kernel
  have lk35 : Cond.fieldLink RX10 35 "TributeFleetModel" "loaded" "[I" ∈ wsX10_county := by decide +kernel
  have lk38 : Cond.fieldLink RX10 38 "TributeFleetModel" "lost" "[I" ∈ wsX10_county := by decide +kernel
  refine ci_of (cc := cX10_county) (maxL := 5) (ret := (some .int)) (by decide +kernel) rfl (Nat.le_of_ble_eq_true rfl) ?_
  intro pv ev sv mv args below meth cv A C hrt9 hnm9
  have C : Cx pv sv mv args meth cv cX10_county 5 RX10 wsX10_county G A LL ad := C
  show XJ pv l ev _ sv mv args below meth cv G A LL ad _ 5 0 0 _ 0 [(0, .ref (ad 30)), (1, .int a), (2, .int b)] []
  refine x_iload_n C 1 dX10_county_0 rfl rfl ?_
  refine x_Si C (k_X10_isCounty l G LL ad _ a) gX10_county_X10_isCounty rfl (by decide +kernel) ⟨(Nat.le_of_ble_eq_true rfl), (Nat.le_of_ble_eq_true rfl)⟩ ⟨(Nat.le_of_ble_eq_true rfl), (Nat.le_of_ble_eq_true rfl)⟩ (n := 1) rfl (st := []) (Nat.le_of_ble_eq_true rfl) rfl dX10_county_1 (fun _ _ hr9 => ?_)
  subst hr9
  refine x_if_eq C (tgt := 16) dX10_county_4 (by decide) (fun c4 => ?_) (fun c4 => ?_)
  · replace c4 := bI_z c4
    refine x_ldc C (v := -100000) (by decide +kernel) dX10_county_16 ?_
    refine x_iret C hrt9 () ?_ rfl dX10_county_18
    show _ = _
    simp [mCounty, c4]
  · replace c4 := bI_nz c4
    refine x_iload_n C 2 dX10_county_7 rfl rfl ?_
    refine x_iconst C dX10_county_8 (v := 0) (by decide) ?_
    refine x_iconst C dX10_county_9 (v := 4) (by decide) ?_
    refine x_Si C (k_X10_isIn l G LL ad _ b 0 4) gX10_county_X10_isIn rfl (by decide +kernel) ⟨(Nat.le_of_ble_eq_true rfl), (Nat.le_of_ble_eq_true rfl)⟩ ⟨(Nat.le_of_ble_eq_true rfl), (Nat.le_of_ble_eq_true rfl)⟩ (n := 3) rfl (st := []) (Nat.le_of_ble_eq_true rfl) rfl dX10_county_10 (fun _ _ hr9 => ?_)
    subst hr9
    refine x_if_ne C (tgt := 19) dX10_county_13 (by decide) (fun c13 => ?_) (fun c13 => ?_)
    · replace c13 := bI_nz c13
      refine x_iconst C dX10_county_19 (v := 0) (by decide) ?_
      refine x_istore_n C (L1 := [(3, .int 0), (0, .ref (ad 30)), (1, .int a), (2, .int b)]) dX10_county_20 rfl (by decide) rfl ?_
      refine x_iconst C dX10_county_21 (v := 0) (by decide) ?_
      refine x_istore C (L1 := [(4, .int 0), (3, .int 0), (0, .ref (ad 30)), (1, .int a), (2, .int b)]) dX10_county_22 (by decide) rfl ?_
      have lp24 : ∀ (d9 : Nat) (k : Nat) (sm : Int32), (k ≤ n) → (sm = sumI (mBagsF S a) k) → n - k < d9 → XJ pv l ev ({ frames := 2, cells := 0, slots := 0, locals := 42 } : Room) sv mv args below meth cv G A LL ad (MQ below (va_Qi (fun x _ => x = mCounty S n a b) (tf_B G LL ad (fun (_ : Unit) => pw G nR ad S)) A) args sv 0 0 A) 5 0 0 (pw G nR ad S) 24 [(0, .ref (ad 30)), (1, .int a), (2, .int b), (3, .int sm), (4, .int (nI k))] [] := by
        intro d9
        induction d9 with
        | zero => intro k sm hkn e0 hd9; omega
        | succ d9 ih24 =>
          intro k sm hkn e0 hd9
          have ih := ih24
          refine x_iload C 4 dX10_county_24 rfl ?_
          refine x_aload_n C 0 dX10_county_26 rfl rfl ?_
          refine x_get C (T := TX10) (N := 45) (v := .int (S 30 5)) 30 5 hin10 (hF 30 (by decide)) (pf_30 G nR ad _) rfl (by decide) lk128 rfl rfl dX10_county_27 ?_
          refine x_icmp_ge C (tgt := 83) dX10_county_30 (by decide) (fun c30 => ?_) (fun c30 => ?_)
          · skip
            have hge : n ≤ k := nI_ge' (by rw [← hz]; exact c30) (by omega)
            have hkn9 : k = n := by omega
            rw [hkn9] at e0
            subst e0
            refine x_iload_n C 2 dX10_county_83 rfl rfl ?_
            refine x_if_ne C (tgt := 96) dX10_county_84 (by decide) (fun c84 => ?_) (fun c84 => ?_)
            · skip
              refine x_iload_n C 2 dX10_county_96 rfl rfl ?_
              refine x_iconst C dX10_county_97 (v := 1) (by decide) ?_
              refine x_icmp_ne C (tgt := 110) dX10_county_98 (by decide) (fun c98 => ?_) (fun c98 => ?_)
              · skip
                refine x_iload_n C 2 dX10_county_110 rfl rfl ?_
                refine x_iconst C dX10_county_111 (v := 2) (by decide) ?_
                refine x_icmp_ne C (tgt := 124) dX10_county_112 (by decide) (fun c112 => ?_) (fun c112 => ?_)
                · skip
                  refine x_iload_n C 2 dX10_county_124 rfl rfl ?_
                  refine x_iconst C dX10_county_125 (v := 3) (by decide) ?_
                  refine x_icmp_ne C (tgt := 133) dX10_county_126 (by decide) (fun c126 => ?_) (fun c126 => ?_)
                  · skip
                    refine x_aload_n C 0 dX10_county_133 rfl rfl ?_
                    refine x_get C (T := TX10) (N := 45) (v := .ref (ad 54)) 30 24 hin10 (hF 30 (by decide)) (pf_30 G nR ad _) rfl (by decide) lk66 rfl rfl dX10_county_134 ?_
                    refine x_iload_n C 1 dX10_county_137 rfl rfl ?_
                    refine x_iald C 54 (hF 54 (by decide)) (pf_54 G nR ad _) (vp_ok5 c4) (kk := a.toNatClampNeg) rfl dX10_county_138 ?_
                    refine x_aload_n C 0 dX10_county_139 rfl rfl ?_
                    refine x_get C (T := TX10) (N := 45) (v := .ref (ad 55)) 30 25 hin10 (hF 30 (by decide)) (pf_30 G nR ad _) rfl (by decide) lk69 rfl rfl dX10_county_140 ?_
                    refine x_iload_n C 1 dX10_county_143 rfl rfl ?_
                    refine x_iald C 55 (hF 55 (by decide)) (pf_55 G nR ad _) (vp_ok5 c4) (kk := a.toNatClampNeg) rfl dX10_county_144 ?_
                    refine x_isub C dX10_county_145 ?_
                    refine x_iload_n C 3 dX10_county_146 rfl rfl ?_
                    refine x_isub C dX10_county_147 ?_
                    refine x_iret C hrt9 () ?_ rfl dX10_county_148
                    show _ = _
                    rw [mCounty, if_pos ⟨c4, c13⟩]
                    simp [c84, c98, c112, c126]
                  · skip
                    refine x_iload_n C 3 dX10_county_129 rfl rfl ?_
                    refine x_goto C (tgt := 148) dX10_county_130 (by decide) ?_
                    refine x_iret C hrt9 () ?_ rfl dX10_county_148
                    show _ = _
                    rw [mCounty, if_pos ⟨c4, c13⟩]
                    simp [c84, c98, c112, c126]
                · skip
                  refine x_aload_n C 0 dX10_county_115 rfl rfl ?_
                  refine x_get C (T := TX10) (N := 45) (v := .ref (ad 56)) 30 26 hin10 (hF 30 (by decide)) (pf_30 G nR ad _) rfl (by decide) lk72 rfl rfl dX10_county_116 ?_
                  refine x_iload_n C 1 dX10_county_119 rfl rfl ?_
                  refine x_iald C 56 (hF 56 (by decide)) (pf_56 G nR ad _) (vp_ok5 c4) (kk := a.toNatClampNeg) rfl dX10_county_120 ?_
                  refine x_goto C (tgt := 148) dX10_county_121 (by decide) ?_
                  refine x_iret C hrt9 () ?_ rfl dX10_county_148
                  show _ = _
                  rw [mCounty, if_pos ⟨c4, c13⟩]
                  simp [c84, c98, c112]
              · skip
                refine x_aload_n C 0 dX10_county_101 rfl rfl ?_
                refine x_get C (T := TX10) (N := 45) (v := .ref (ad 55)) 30 25 hin10 (hF 30 (by decide)) (pf_30 G nR ad _) rfl (by decide) lk69 rfl rfl dX10_county_102 ?_
                refine x_iload_n C 1 dX10_county_105 rfl rfl ?_
                refine x_iald C 55 (hF 55 (by decide)) (pf_55 G nR ad _) (vp_ok5 c4) (kk := a.toNatClampNeg) rfl dX10_county_106 ?_
                refine x_goto C (tgt := 148) dX10_county_107 (by decide) ?_
                refine x_iret C hrt9 () ?_ rfl dX10_county_148
                show _ = _
                rw [mCounty, if_pos ⟨c4, c13⟩]
                simp [c84, c98]
            · skip
              refine x_aload_n C 0 dX10_county_87 rfl rfl ?_
              refine x_get C (T := TX10) (N := 45) (v := .ref (ad 54)) 30 24 hin10 (hF 30 (by decide)) (pf_30 G nR ad _) rfl (by decide) lk66 rfl rfl dX10_county_88 ?_
              refine x_iload_n C 1 dX10_county_91 rfl rfl ?_
              refine x_iald C 54 (hF 54 (by decide)) (pf_54 G nR ad _) (vp_ok5 c4) (kk := a.toNatClampNeg) rfl dX10_county_92 ?_
              refine x_goto C (tgt := 148) dX10_county_93 (by decide) ?_
              refine x_iret C hrt9 () ?_ rfl dX10_county_148
              show _ = _
              rw [mCounty, if_pos ⟨c4, c13⟩]
              simp [c84]
          · skip
            have hlt : k < n := nI_lt' (by rw [← hz]; exact c30) (by omega)
            refine x_iload_n C 3 dX10_county_33 rfl rfl ?_
            refine x_aload_n C 0 dX10_county_34 rfl rfl ?_
            refine x_get C (T := TX10) (N := 45) (v := .ref (ad 42)) 30 12 hin10 (hF 30 (by decide)) (pf_30 G nR ad _) rfl (by decide) lk29 rfl rfl dX10_county_35 ?_
            refine x_iload C 4 dX10_county_38 rfl ?_
            refine x_iald C 42 (hF 42 (by decide)) (pf_42 G nR ad _) (nI_in (N := 12) (show k < 12 by omega) (by omega)) (kk := k) (nI_clamp (by omega)) dX10_county_40 ?_
            refine x_iload_n C 1 dX10_county_41 rfl rfl ?_
            refine x_icmp_ne C (tgt := 74) dX10_county_42 (by decide) (fun c42 => ?_) (fun c42 => ?_)
            · skip
              refine x_iconst C dX10_county_74 (v := 0) (by decide) ?_
              refine x_iadd C dX10_county_75 ?_
              refine x_istore_n C (L1 := [(3, .int (sm + 0)), (0, .ref (ad 30)), (1, .int a), (2, .int b), (4, .int (nI k))]) dX10_county_76 rfl (by decide) rfl ?_
              refine x_iinc C (L1 := [(4, .int ((nI k) + 1)), (3, .int (sm + 0)), (0, .ref (ad 30)), (1, .int a), (2, .int b)]) 4 dX10_county_77 rfl rfl (by decide) rfl ?_
              refine x_goto C (tgt := 24) dX10_county_80 (by decide) ?_
              refine x_sub [2, 3, 4, 1, 0] (L1 := [(0, .ref (ad 30)), (1, .int a), (2, .int b), (3, .int (sm + 0)), (4, .int ((nI k) + 1))]) rfl ?_
              rw [← nI_succ]
              exact ih (k + 1) _ (by omega) (by show _ = _ + _; rw [← e0]; simp [mBagsF, c42]) (by omega)
            · skip
              refine x_aload_n C 0 dX10_county_45 rfl rfl ?_
              refine x_get C (T := TX10) (N := 45) (v := .ref (ad 48)) 30 18 hin10 (hF 30 (by decide)) (pf_30 G nR ad _) rfl (by decide) lk47 rfl rfl dX10_county_46 ?_
              refine x_iload C 4 dX10_county_49 rfl ?_
              refine x_iald C 48 (hF 48 (by decide)) (pf_48 G nR ad _) (nI_in (N := 12) (show k < 12 by omega) (by omega)) (kk := k) (nI_clamp (by omega)) dX10_county_51 ?_
              refine x_iconst C dX10_county_52 (v := -1) (by decide) ?_
              refine x_icmp_eq C (tgt := 74) dX10_county_53 (by decide) (fun c53 => ?_) (fun c53 => ?_)
              · skip
                refine x_iconst C dX10_county_74 (v := 0) (by decide) ?_
                refine x_iadd C dX10_county_75 ?_
                refine x_istore_n C (L1 := [(3, .int (sm + 0)), (0, .ref (ad 30)), (1, .int a), (2, .int b), (4, .int (nI k))]) dX10_county_76 rfl (by decide) rfl ?_
                refine x_iinc C (L1 := [(4, .int ((nI k) + 1)), (3, .int (sm + 0)), (0, .ref (ad 30)), (1, .int a), (2, .int b)]) 4 dX10_county_77 rfl rfl (by decide) rfl ?_
                refine x_goto C (tgt := 24) dX10_county_80 (by decide) ?_
                refine x_sub [2, 3, 4, 1, 0] (L1 := [(0, .ref (ad 30)), (1, .int a), (2, .int b), (3, .int (sm + 0)), (4, .int ((nI k) + 1))]) rfl ?_
                rw [← nI_succ]
                exact ih (k + 1) _ (by omega) (by show _ = _ + _; rw [← e0]; simp [mBagsF, c53]) (by omega)
              · skip
                refine x_aload_n C 0 dX10_county_56 rfl rfl ?_
                refine x_get C (T := TX10) (N := 45) (v := .ref (ad 44)) 30 14 hin10 (hF 30 (by decide)) (pf_30 G nR ad _) rfl (by decide) lk35 rfl rfl dX10_county_57 ?_
                refine x_iload C 4 dX10_county_60 rfl ?_
                refine x_iald C 44 (hF 44 (by decide)) (pf_44 G nR ad _) (nI_in (N := 12) (show k < 12 by omega) (by omega)) (kk := k) (nI_clamp (by omega)) dX10_county_62 ?_
                refine x_aload_n C 0 dX10_county_63 rfl rfl ?_
                refine x_get C (T := TX10) (N := 45) (v := .ref (ad 45)) 30 15 hin10 (hF 30 (by decide)) (pf_30 G nR ad _) rfl (by decide) lk38 rfl rfl dX10_county_64 ?_
                refine x_iload C 4 dX10_county_67 rfl ?_
                refine x_iald C 45 (hF 45 (by decide)) (pf_45 G nR ad _) (nI_in (N := 12) (show k < 12 by omega) (by omega)) (kk := k) (nI_clamp (by omega)) dX10_county_69 ?_
                refine x_isub C dX10_county_70 ?_
                refine x_goto C (tgt := 75) dX10_county_71 (by decide) ?_
                refine x_iadd C dX10_county_75 ?_
                refine x_istore_n C (L1 := [(3, .int (sm + ((S 44 (k)) - (S 45 (k))))), (0, .ref (ad 30)), (1, .int a), (2, .int b), (4, .int (nI k))]) dX10_county_76 rfl (by decide) rfl ?_
                refine x_iinc C (L1 := [(4, .int ((nI k) + 1)), (3, .int (sm + ((S 44 (k)) - (S 45 (k))))), (0, .ref (ad 30)), (1, .int a), (2, .int b)]) 4 dX10_county_77 rfl rfl (by decide) rfl ?_
                refine x_goto C (tgt := 24) dX10_county_80 (by decide) ?_
                refine x_sub [2, 3, 4, 1, 0] (L1 := [(0, .ref (ad 30)), (1, .int a), (2, .int b), (3, .int (sm + ((S 44 (k)) - (S 45 (k))))), (4, .int ((nI k) + 1))]) rfl ?_
                rw [← nI_succ]
                exact ih (k + 1) _ (by omega) (by show _ = _ + _; rw [← e0]; simp [mBagsF, c42, c53]) (by omega)
      refine x_sub [2, 3, 4, 1, 0] (L1 := [(0, .ref (ad 30)), (1, .int a), (2, .int b), (3, .int 0), (4, .int 0)]) rfl ?_
      exact lp24 (n + 1) 0 0 (Nat.zero_le _) rfl (by omega)
    · replace c13 := bI_z c13
      refine x_ldc C (v := -100000) (by decide +kernel) dX10_county_16 ?_
      refine x_iret C hrt9 () ?_ rfl dX10_county_18
      show _ = _
      simp [mCounty, c4, c13]

set_option maxHeartbeats 4000000 in
set_option maxRecDepth 100000 in
theorem k_X10_count (l : Launch) (G : tf_G) (nR : Nat) (LL : List Nat) (ad : Nat → Nat) (hF : ∀ j ∈ tf_fix, j ∈ LL) (S : tf_M) (b : Int32) (n : Nat) (hz : S 30 5 = nI n) (h12 : n ≤ 12) : Ci l yX10_count wsX10_count ({ frames := 1, cells := 0, slots := 0, locals := 20 } : Room) G LL ad (fun (_ : Unit) => pw G nR ad S) (pw G nR ad S) [.ref (ad 30), .int b] (fun x _ => x = mCount S n b) := by
  have hin10 : ∀ w ∈ u_ws RX10 TX10 45, w ∈ wsX10_count := by decide +kernel
  have lk144 : Cond.fieldLink RX10 144 "TributeFleetModel" "today" "I" ∈ wsX10_count := by decide +kernel
  have lk128 : Cond.fieldLink RX10 128 "TributeFleetModel" "squadrons" "I" ∈ wsX10_count := by decide +kernel
  have lk138 : Cond.fieldLink RX10 138 "TributeFleetModel" "lakes" "I" ∈ wsX10_count := by decide +kernel
  have lk202 : Cond.fieldLink RX10 202 "TributeFleetModel" "statutes" "I" ∈ wsX10_count := by decide +kernel
  have lk150 : Cond.fieldLink RX10 150 "TributeFleetModel" "taped" "I" ∈ wsX10_count := by decide +kernel
  have lk47 : Cond.fieldLink RX10 47 "TributeFleetModel" "came" "[I" ∈ wsX10_count := by decide +kernel
  have lk121 : Cond.fieldLink RX10 121 "TributeFleetModel" "reaches" "I" ∈ wsX10_count := by decide +kernel
  refine ci_of (cc := cX10_count) (maxL := 4) (ret := (some .int)) (by decide +kernel) rfl (Nat.le_of_ble_eq_true rfl) ?_
  intro pv ev sv mv args below meth cv A C hrt9 hnm9
  have C : Cx pv sv mv args meth cv cX10_count 4 RX10 wsX10_count G A LL ad := C
  show XJ pv l ev _ sv mv args below meth cv G A LL ad _ 4 0 0 _ 0 [(0, .ref (ad 30)), (1, .int b)] []
  refine x_iconst C dX10_count_0 (v := 0) (by decide) ?_
  refine x_istore_n C (L1 := [(2, .int 0), (0, .ref (ad 30)), (1, .int b)]) dX10_count_1 rfl (by decide) rfl ?_
  refine x_iload_n C 2 dX10_count_2 rfl rfl ?_
  rcases sw_6 b with rfl | rfl | rfl | rfl | rfl | rfl | rfl | h9
  · skip
    refine x_tableIn C dX10_count_3 (by decide) (by decide) (off := 41) (tgt := 44) rfl (by decide) ?_
    refine x_aload_n C 1 dX10_count_44 rfl rfl ?_
    refine x_get C (T := TX10) (N := 45) (v := .int (S 30 3)) 30 3 hin10 (hF 30 (by decide)) (pf_30 G nR ad _) rfl (by decide) lk144 rfl rfl dX10_count_45 ?_
    refine x_iret C hrt9 () ?_ rfl dX10_count_48
    show _ = _
    simp [mCount]
  · skip
    refine x_tableIn C dX10_count_3 (by decide) (by decide) (off := 46) (tgt := 49) rfl (by decide) ?_
    refine x_aload_n C 1 dX10_count_49 rfl rfl ?_
    refine x_get C (T := TX10) (N := 45) (v := .int (S 30 5)) 30 5 hin10 (hF 30 (by decide)) (pf_30 G nR ad _) rfl (by decide) lk128 rfl rfl dX10_count_50 ?_
    refine x_iret C hrt9 () ?_ rfl dX10_count_53
    show _ = _
    simp [mCount]
  · skip
    refine x_tableIn C dX10_count_3 (by decide) (by decide) (off := 51) (tgt := 54) rfl (by decide) ?_
    refine x_aload_n C 1 dX10_count_54 rfl rfl ?_
    refine x_get C (T := TX10) (N := 45) (v := .int (S 30 4)) 30 4 hin10 (hF 30 (by decide)) (pf_30 G nR ad _) rfl (by decide) lk138 rfl rfl dX10_count_55 ?_
    refine x_iret C hrt9 () ?_ rfl dX10_count_58
    show _ = _
    simp [mCount]
  · skip
    refine x_tableIn C dX10_count_3 (by decide) (by decide) (off := 56) (tgt := 59) rfl (by decide) ?_
    refine x_aload_n C 1 dX10_count_59 rfl rfl ?_
    refine x_get C (T := TX10) (N := 45) (v := .int (S 30 33)) 30 33 hin10 (hF 30 (by decide)) (pf_30 G nR ad _) rfl (by decide) lk202 rfl rfl dX10_count_60 ?_
    refine x_iret C hrt9 () ?_ rfl dX10_count_63
    show _ = _
    simp [mCount]
  · skip
    refine x_tableIn C dX10_count_3 (by decide) (by decide) (off := 61) (tgt := 64) rfl (by decide) ?_
    refine x_aload_n C 1 dX10_count_64 rfl rfl ?_
    refine x_get C (T := TX10) (N := 45) (v := .int (S 30 29)) 30 29 hin10 (hF 30 (by decide)) (pf_30 G nR ad _) rfl (by decide) lk150 rfl rfl dX10_count_65 ?_
    refine x_iret C hrt9 () ?_ rfl dX10_count_68
    show _ = _
    simp [mCount]
  · skip
    refine x_tableIn C dX10_count_3 (by decide) (by decide) (off := 66) (tgt := 69) rfl (by decide) ?_
    refine x_iconst C dX10_count_69 (v := 0) (by decide) ?_
    refine x_istore_n C (L1 := [(3, .int 0), (2, .int 0), (0, .ref (ad 30)), (1, .int 5)]) dX10_count_70 rfl (by decide) rfl ?_
    have lp71 : ∀ (d9 : Nat) (k : Nat) (sm : Int32), (k ≤ n) → (sm = sumI (mComeF S) k) → n - k < d9 → XJ pv l ev ({ frames := 1, cells := 0, slots := 0, locals := 20 } : Room) sv mv args below meth cv G A LL ad (MQ below (va_Qi (fun x _ => x = mCount S n 5) (tf_B G LL ad (fun (_ : Unit) => pw G nR ad S)) A) args sv 0 0 A) 4 0 0 (pw G nR ad S) 71 [(0, .ref (ad 30)), (2, .int sm), (3, .int (nI k))] [] := by
      intro d9
      induction d9 with
      | zero => intro k sm hkn e0 hd9; omega
      | succ d9 ih71 =>
        intro k sm hkn e0 hd9
        have ih := ih71
        refine x_iload_n C 2 dX10_count_71 rfl rfl ?_
        refine x_aload_n C 0 dX10_count_72 rfl rfl ?_
        refine x_get C (T := TX10) (N := 45) (v := .int (S 30 5)) 30 5 hin10 (hF 30 (by decide)) (pf_30 G nR ad _) rfl (by decide) lk128 rfl rfl dX10_count_73 ?_
        refine x_icmp_ge C (tgt := 106) dX10_count_76 (by decide) (fun c76 => ?_) (fun c76 => ?_)
        · skip
          have hge : n ≤ k := nI_ge' (by rw [← hz]; exact c76) (by omega)
          have hkn9 : k = n := by omega
          rw [hkn9] at e0
          subst e0
          refine x_iload_n C 1 dX10_count_106 rfl rfl ?_
          refine x_iret C hrt9 () ?_ rfl dX10_count_107
          rfl
        · skip
          have hlt : k < n := nI_lt' (by rw [← hz]; exact c76) (by omega)
          refine x_iload_n C 1 dX10_count_79 rfl rfl ?_
          refine x_aload_n C 0 dX10_count_80 rfl rfl ?_
          refine x_get C (T := TX10) (N := 45) (v := .ref (ad 48)) 30 18 hin10 (hF 30 (by decide)) (pf_30 G nR ad _) rfl (by decide) lk47 rfl rfl dX10_count_81 ?_
          refine x_iload_n C 2 dX10_count_84 rfl rfl ?_
          refine x_iald C 48 (hF 48 (by decide)) (pf_48 G nR ad _) (nI_in (N := 12) (show k < 12 by omega) (by omega)) (kk := k) (nI_clamp (by omega)) dX10_count_85 ?_
          refine x_iconst C dX10_count_86 (v := -1) (by decide) ?_
          refine x_icmp_eq C (tgt := 94) dX10_count_87 (by decide) (fun c87 => ?_) (fun c87 => ?_)
          · skip
            refine x_iconst C dX10_count_94 (v := 0) (by decide) ?_
            refine x_Si C (k_X10_one l G LL ad _ 0) gX10_count_X10_one rfl (by decide +kernel) ⟨(Nat.le_of_ble_eq_true rfl), (Nat.le_of_ble_eq_true rfl)⟩ ⟨(Nat.le_of_ble_eq_true rfl), (Nat.le_of_ble_eq_true rfl)⟩ (n := 1) rfl (st := [.int sm]) (Nat.le_of_ble_eq_true rfl) rfl dX10_count_95 (fun r9 _ hr9 => ?_)
            obtain rfl : r9 = 0 := hr9
            refine x_iadd C dX10_count_98 ?_
            refine x_istore_n C (L1 := [(2, .int (sm + 0)), (0, .ref (ad 30)), (3, .int (nI k))]) dX10_count_99 rfl (by decide) rfl ?_
            refine x_iinc C (L1 := [(3, .int ((nI k) + 1)), (2, .int (sm + 0)), (0, .ref (ad 30))]) 2 dX10_count_100 rfl rfl (by decide) rfl ?_
            refine x_goto C (tgt := 71) dX10_count_103 (by decide) ?_
            refine x_sub [2, 1, 0] (L1 := [(0, .ref (ad 30)), (2, .int (sm + 0)), (3, .int ((nI k) + 1))]) rfl ?_
            rw [← nI_succ]
            exact ih (k + 1) _ (by omega) (by show _ = _ + _; rw [← e0]; simp [mComeF, c87]) (by omega)
          · skip
            refine x_iconst C dX10_count_90 (v := 1) (by decide) ?_
            refine x_goto C (tgt := 95) dX10_count_91 (by decide) ?_
            refine x_Si C (k_X10_one l G LL ad _ 1) gX10_count_X10_one rfl (by decide +kernel) ⟨(Nat.le_of_ble_eq_true rfl), (Nat.le_of_ble_eq_true rfl)⟩ ⟨(Nat.le_of_ble_eq_true rfl), (Nat.le_of_ble_eq_true rfl)⟩ (n := 1) rfl (st := [.int sm]) (Nat.le_of_ble_eq_true rfl) rfl dX10_count_95 (fun r9 _ hr9 => ?_)
            obtain rfl : r9 = 1 := hr9
            refine x_iadd C dX10_count_98 ?_
            refine x_istore_n C (L1 := [(2, .int (sm + 1)), (0, .ref (ad 30)), (3, .int (nI k))]) dX10_count_99 rfl (by decide) rfl ?_
            refine x_iinc C (L1 := [(3, .int ((nI k) + 1)), (2, .int (sm + 1)), (0, .ref (ad 30))]) 2 dX10_count_100 rfl rfl (by decide) rfl ?_
            refine x_goto C (tgt := 71) dX10_count_103 (by decide) ?_
            refine x_sub [2, 1, 0] (L1 := [(0, .ref (ad 30)), (2, .int (sm + 1)), (3, .int ((nI k) + 1))]) rfl ?_
            rw [← nI_succ]
            exact ih (k + 1) _ (by omega) (by show _ = _ + _; rw [← e0]; simp [mComeF, c87]) (by omega)
    refine x_sub [2, 1, 0] (L1 := [(0, .ref (ad 30)), (2, .int 0), (3, .int 0)]) rfl ?_
    exact lp71 (n + 1) 0 0 (Nat.zero_le _) rfl (by omega)
  · skip
    refine x_tableIn C dX10_count_3 (by decide) (by decide) (off := 105) (tgt := 108) rfl (by decide) ?_
    refine x_aload_n C 1 dX10_count_108 rfl rfl ?_
    refine x_get C (T := TX10) (N := 45) (v := .int (S 30 0)) 30 0 hin10 (hF 30 (by decide)) (pf_30 G nR ad _) rfl (by decide) lk121 rfl rfl dX10_count_109 ?_
    refine x_iret C hrt9 () ?_ rfl dX10_count_112
    show _ = _
    simp [mCount]
  · skip
    refine x_tableOut C dX10_count_3 h9.1 (tgt := 113) (by decide) ?_
    refine x_iconst C dX10_count_113 (v := -1) (by decide) ?_
    refine x_iret C hrt9 () ?_ rfl dX10_count_114
    show _ = _
    simp [mCount, h9.2]

