/-! the reference's judging -/
def mOver (nR : Nat) (S : tf_M) (t : Nat) (j : Nat) (d : Int32) : Int32 := sumI (fun k => imax 0 (S 52 (12 * j + k) - mTells S t d 1 (nI k) 3)) (nR - 1)
def mFell (nR : Nat) (S : tf_M) (t : Nat) (j : Nat) (d : Int32) : Int32 := imax 0 (S 45 j - S 44 j * mLaw nR S t d 1 / 1000)
def mMore (nR : Nat) (S : tf_M) (t : Nat) (j : Nat) (d : Int32) : Int32 := imax 0 (S 46 j - mLaw nR S t d 2 * S 43 j)
def mJudge (nR : Nat) (S : tf_M) (n t : Nat) (q b : Int32) : Int32 := if isP q (nI n) = true ∧ ¬ S 48 q.toNatClampNeg = -1 ∧ isW b 0 3 = true then (if b = 0 then mOver nR S t q.toNatClampNeg (S 48 q.toNatClampNeg) else if b = 1 then mFell nR S t q.toNatClampNeg (S 48 q.toNatClampNeg) else if b = 2 then mMore nR S t q.toNatClampNeg (S 48 q.toNatClampNeg) else mLaw nR S t (S 48 q.toNatClampNeg) 3 * (mOver nR S t q.toNatClampNeg (S 48 q.toNatClampNeg) + mFell nR S t q.toNatClampNeg (S 48 q.toNatClampNeg) + mMore nR S t q.toNatClampNeg (S 48 q.toNatClampNeg))) else -1
set_option maxHeartbeats 4000000 in
set_option maxRecDepth 100000 in
theorem k_X10_judge (l : Launch) (G : tf_G) (nR : Nat) (LL : List Nat) (ad : Nat → Nat) (hF : ∀ j ∈ tf_fix, j ∈ LL) (S : tf_M) (q b : Int32) (n : Nat) (hz : S 30 5 = nI n) (h12 : n ≤ 12) (hn : S 30 0 = nI nR) (hR : nR ≤ 12) (hR3 : 3 ≤ nR) (t : Nat) (ht : S 30 33 = nI t) (ht10 : t ≤ 10) (hst : ∀ k, k < t → ∃ c, c ≤ 16 ∧ S 64 k = nI c) : Ci l yX10_judge wsX10_judge ({ frames := 4, cells := 0, slots := 0, locals := 94 } : Room) G LL ad (fun (_ : Unit) => pw G nR ad S) (pw G nR ad S) [.ref (ad 30), .int q, .int b] (fun x _ => x = mJudge nR S n t q b) := by
  have hin10 : ∀ w ∈ u_ws RX10 TX10 45, w ∈ wsX10_judge := by decide +kernel
  have lk47 : Cond.fieldLink RX10 47 "TributeFleetModel" "came" "[I" ∈ wsX10_judge := by decide +kernel
  have lk121 : Cond.fieldLink RX10 121 "TributeFleetModel" "reaches" "I" ∈ wsX10_judge := by decide +kernel
  have lk38 : Cond.fieldLink RX10 38 "TributeFleetModel" "lost" "[I" ∈ wsX10_judge := by decide +kernel
  have lk35 : Cond.fieldLink RX10 35 "TributeFleetModel" "loaded" "[I" ∈ wsX10_judge := by decide +kernel
  have hm1max : Cond.methodLink RX10 118 Lib.Math.max.name ∈ wsX10_judge := by decide +kernel
  have hm2max : Cond.static Lib.Math.max.name ∈ wsX10_judge := by decide +kernel
  have hm3 : Cond.initialized "java/lang/Math" ∈ wsX10_judge := by decide +kernel
  have hm4max : Cond.code Lib.Math.max.name Lib.Math.max.code 2 (some .int) ∈ wsX10_judge := by decide +kernel
  have lk41 : Cond.fieldLink RX10 41 "TributeFleetModel" "goods" "[I" ∈ wsX10_judge := by decide +kernel
  have lk32 : Cond.fieldLink RX10 32 "TributeFleetModel" "boats" "[I" ∈ wsX10_judge := by decide +kernel
  have lk60 : Cond.fieldLink RX10 60 "TributeFleetModel" "days" "[I" ∈ wsX10_judge := by decide +kernel
  refine ci_of (cc := cX10_judge) (maxL := 7) (ret := (some .int)) (by decide +kernel) rfl (Nat.le_of_ble_eq_true rfl) ?_
  intro pv ev sv mv args below meth cv A C hrt9 hnm9
  have C : Cx pv sv mv args meth cv cX10_judge 7 RX10 wsX10_judge G A LL ad := C
  show XJ pv l ev _ sv mv args below meth cv G A LL ad _ 7 0 0 _ 0 [(0, .ref (ad 30)), (1, .int q), (2, .int b)] []
  refine x_aload_n C 0 dX10_judge_0 rfl rfl ?_
  refine x_iload_n C 1 dX10_judge_1 rfl rfl ?_
  refine x_Vi 30 C (k_X10_isSquadron l G nR LL ad hF S q n hz h12) gX10_judge_X10_isSquadron rfl (by decide +kernel) ⟨(Nat.le_of_ble_eq_true rfl), (Nat.le_of_ble_eq_true rfl)⟩ ⟨(Nat.le_of_ble_eq_true rfl), (Nat.le_of_ble_eq_true rfl)⟩ (hF 30 (by decide)) (pf_30 G nR ad _) (T := TX10) (N := 45) rfl (n := 1) rfl (st := []) (Nat.le_of_ble_eq_true rfl) rfl dX10_judge_2 (fun _ _ hr9 => ?_)
  subst hr9
  refine x_if_eq C (tgt := 27) dX10_judge_5 (by decide) (fun c5 => ?_) (fun c5 => ?_)
  · replace c5 := bI_z c5
    refine x_iconst C dX10_judge_27 (v := -1) (by decide) ?_
    refine x_iret C hrt9 () ?_ rfl dX10_judge_28
    show _ = _
    rw [mJudge, if_neg (show ¬ (isP q (nI n) = true ∧ ¬ S 48 q.toNatClampNeg = -1 ∧ isW b 0 3 = true) from fun h => by rw [c5] at h; exact absurd h.1 (by decide))]
  · replace c5 := bI_nz c5
    refine x_aload_n C 0 dX10_judge_8 rfl rfl ?_
    refine x_get C (T := TX10) (N := 45) (v := .ref (ad 48)) 30 18 hin10 (hF 30 (by decide)) (pf_30 G nR ad _) rfl (by decide) lk47 rfl rfl dX10_judge_9 ?_
    refine x_iload_n C 1 dX10_judge_12 rfl rfl ?_
    refine x_iald C 48 (hF 48 (by decide)) (pf_48 G nR ad _) (vp_ok c5 h12 (by decide)) (kk := q.toNatClampNeg) rfl dX10_judge_13 ?_
    refine x_iconst C dX10_judge_14 (v := -1) (by decide) ?_
    refine x_icmp_eq C (tgt := 27) dX10_judge_15 (by decide) (fun c15 => ?_) (fun c15 => ?_)
    · skip
      refine x_iconst C dX10_judge_27 (v := -1) (by decide) ?_
      refine x_iret C hrt9 () ?_ rfl dX10_judge_28
      show _ = _
      rw [mJudge, if_neg (show ¬ (isP q (nI n) = true ∧ ¬ S 48 q.toNatClampNeg = -1 ∧ isW b 0 3 = true) from fun h => h.2.1 c15)]
    · skip
      refine x_iload_n C 2 dX10_judge_18 rfl rfl ?_
      refine x_iconst C dX10_judge_19 (v := 0) (by decide) ?_
      refine x_iconst C dX10_judge_20 (v := 3) (by decide) ?_
      refine x_Si C (k_X10_isIn l G LL ad _ b 0 3) gX10_judge_X10_isIn rfl (by decide +kernel) ⟨(Nat.le_of_ble_eq_true rfl), (Nat.le_of_ble_eq_true rfl)⟩ ⟨(Nat.le_of_ble_eq_true rfl), (Nat.le_of_ble_eq_true rfl)⟩ (n := 3) rfl (st := []) (Nat.le_of_ble_eq_true rfl) rfl dX10_judge_21 (fun _ _ hr9 => ?_)
      subst hr9
      refine x_if_ne C (tgt := 29) dX10_judge_24 (by decide) (fun c24 => ?_) (fun c24 => ?_)
      · replace c24 := bI_nz c24
        refine x_aload_n C 0 dX10_judge_29 rfl rfl ?_
        refine x_get C (T := TX10) (N := 45) (v := .ref (ad 48)) 30 18 hin10 (hF 30 (by decide)) (pf_30 G nR ad _) rfl (by decide) lk47 rfl rfl dX10_judge_30 ?_
        refine x_iload_n C 1 dX10_judge_33 rfl rfl ?_
        refine x_iald C 48 (hF 48 (by decide)) (pf_48 G nR ad _) (vp_ok c5 h12 (by decide)) (kk := q.toNatClampNeg) rfl dX10_judge_34 ?_
        refine x_istore_n C (L1 := [(3, .int (S 48 (q.toNatClampNeg))), (0, .ref (ad 30)), (1, .int q), (2, .int b)]) dX10_judge_35 rfl (by decide) rfl ?_
        refine x_iconst C dX10_judge_36 (v := 0) (by decide) ?_
        refine x_istore C (L1 := [(4, .int 0), (3, .int (S 48 (q.toNatClampNeg))), (0, .ref (ad 30)), (1, .int q), (2, .int b)]) dX10_judge_37 (by decide) rfl ?_
        refine x_iconst C dX10_judge_39 (v := 0) (by decide) ?_
        refine x_istore C (L1 := [(5, .int 0), (4, .int 0), (3, .int (S 48 (q.toNatClampNeg))), (0, .ref (ad 30)), (1, .int q), (2, .int b)]) dX10_judge_40 (by decide) rfl ?_
        have lp42 : ∀ (d9 : Nat) (k : Nat) (sm : Int32), (k ≤ nR - 1) → (sm = sumI (fun k => imax 0 (S 52 (12 * q.toNatClampNeg + k) - mTells S t (S 48 q.toNatClampNeg) 1 (nI k) 3)) k) → (nR - 1) - k < d9 → XJ pv l ev ({ frames := 4, cells := 0, slots := 0, locals := 94 } : Room) sv mv args below meth cv G A LL ad (MQ below (va_Qi (fun x _ => x = mJudge nR S n t q b) (tf_B G LL ad (fun (_ : Unit) => pw G nR ad S)) A) args sv 0 0 A) 7 0 0 (pw G nR ad S) 42 [(0, .ref (ad 30)), (1, .int q), (2, .int b), (3, .int (S 48 q.toNatClampNeg)), (4, .int sm), (5, .int (nI k))] [] := by
          intro d9
          induction d9 with
          | zero => intro k sm hkn e0 hd9; omega
          | succ d9 ih42 =>
            intro k sm hkn e0 hd9
            have ih := ih42
            refine x_iload C 5 dX10_judge_42 rfl ?_
            refine x_aload_n C 0 dX10_judge_44 rfl rfl ?_
            refine x_get C (T := TX10) (N := 45) (v := .int (S 30 0)) 30 0 hin10 (hF 30 (by decide)) (pf_30 G nR ad _) rfl (by decide) lk121 rfl rfl dX10_judge_45 ?_
            refine x_iconst C dX10_judge_48 (v := 1) (by decide) ?_
            refine x_isub C dX10_judge_49 ?_
            refine x_icmp_ge C (tgt := 88) dX10_judge_50 (by decide) (fun c50 => ?_) (fun c50 => ?_)
            · skip
              have hge : nR - 1 ≤ k := nI_ge' (by rw [← nI_sub1 (by omega), ← hn]; exact c50) (by omega)
              have hk9 : k = nR - 1 := by omega
              have e9 : sm = mOver nR S t q.toNatClampNeg (S 48 q.toNatClampNeg) := by rw [e0, hk9]; rfl
              refine x_iconst C dX10_judge_88 (v := 0) (by decide) ?_
              refine x_aload_n C 0 dX10_judge_89 rfl rfl ?_
              refine x_get C (T := TX10) (N := 45) (v := .ref (ad 45)) 30 15 hin10 (hF 30 (by decide)) (pf_30 G nR ad _) rfl (by decide) lk38 rfl rfl dX10_judge_90 ?_
              refine x_iload_n C 1 dX10_judge_93 rfl rfl ?_
              refine x_iald C 45 (hF 45 (by decide)) (pf_45 G nR ad _) (vp_ok c5 h12 (by decide)) (kk := q.toNatClampNeg) rfl dX10_judge_94 ?_
              refine x_aload_n C 0 dX10_judge_95 rfl rfl ?_
              refine x_get C (T := TX10) (N := 45) (v := .ref (ad 44)) 30 14 hin10 (hF 30 (by decide)) (pf_30 G nR ad _) rfl (by decide) lk35 rfl rfl dX10_judge_96 ?_
              refine x_iload_n C 1 dX10_judge_99 rfl rfl ?_
              refine x_iald C 44 (hF 44 (by decide)) (pf_44 G nR ad _) (vp_ok c5 h12 (by decide)) (kk := q.toNatClampNeg) rfl dX10_judge_100 ?_
              refine x_aload_n C 0 dX10_judge_101 rfl rfl ?_
              refine x_iload_n C 3 dX10_judge_102 rfl rfl ?_
              refine x_iconst C dX10_judge_103 (v := 1) (by decide) ?_
              refine x_Vi 30 C (k_X10_law l G nR LL ad hF S (S 48 q.toNatClampNeg) 1 hn hR t ht ht10 hst) gX10_judge_X10_law rfl (by decide +kernel) ⟨(Nat.le_of_ble_eq_true rfl), (Nat.le_of_ble_eq_true rfl)⟩ ⟨(Nat.le_of_ble_eq_true rfl), (Nat.le_of_ble_eq_true rfl)⟩ (hF 30 (by decide)) (pf_30 G nR ad _) (T := TX10) (N := 45) rfl (n := 2) rfl (st := [.int (S 44 (q.toNatClampNeg)), .int (S 45 (q.toNatClampNeg)), .int 0]) (Nat.le_of_ble_eq_true rfl) rfl dX10_judge_104 (fun _ _ hr9 => ?_)
              subst hr9
              refine x_imul C dX10_judge_107 ?_
              refine x_sipush C dX10_judge_108 (v := 1000) (by decide) ?_
              refine x_idiv C dX10_judge_111 (by decide) ?_
              refine x_isub C dX10_judge_112 ?_
              refine x_mmax C hm1max hm2max hm3 hm4max (Nat.le_of_ble_eq_true rfl) (Nat.le_of_ble_eq_true rfl) (Nat.le_of_ble_eq_true rfl) (Nat.le_of_ble_eq_true rfl) dX10_judge_113 ?_
              refine x_istore C (L1 := [(5, .int (if 0 < (S 45 (q.toNatClampNeg)) - (((S 44 (q.toNatClampNeg)) * (mLaw nR S t (S 48 q.toNatClampNeg) 1)) / 1000) then (S 45 (q.toNatClampNeg)) - (((S 44 (q.toNatClampNeg)) * (mLaw nR S t (S 48 q.toNatClampNeg) 1)) / 1000) else 0)), (0, .ref (ad 30)), (1, .int q), (2, .int b), (3, .int (S 48 q.toNatClampNeg)), (4, .int sm)]) dX10_judge_116 (by decide) rfl ?_
              refine x_iconst C dX10_judge_118 (v := 0) (by decide) ?_
              refine x_aload_n C 1 dX10_judge_119 rfl rfl ?_
              refine x_get C (T := TX10) (N := 45) (v := .ref (ad 46)) 30 16 hin10 (hF 30 (by decide)) (pf_30 G nR ad _) rfl (by decide) lk41 rfl rfl dX10_judge_120 ?_
              refine x_iload_n C 2 dX10_judge_123 rfl rfl ?_
              refine x_iald C 46 (hF 46 (by decide)) (pf_46 G nR ad _) (vp_ok c5 h12 (by decide)) (kk := q.toNatClampNeg) rfl dX10_judge_124 ?_
              refine x_aload_n C 1 dX10_judge_125 rfl rfl ?_
              refine x_iload_n C 4 dX10_judge_126 rfl rfl ?_
              refine x_iconst C dX10_judge_127 (v := 2) (by decide) ?_
              refine x_Vi 30 C (k_X10_law l G nR LL ad hF S (S 48 q.toNatClampNeg) 2 hn hR t ht ht10 hst) gX10_judge_X10_law rfl (by decide +kernel) ⟨(Nat.le_of_ble_eq_true rfl), (Nat.le_of_ble_eq_true rfl)⟩ ⟨(Nat.le_of_ble_eq_true rfl), (Nat.le_of_ble_eq_true rfl)⟩ (hF 30 (by decide)) (pf_30 G nR ad _) (T := TX10) (N := 45) rfl (n := 2) rfl (st := [.int (S 46 (q.toNatClampNeg)), .int 0]) (Nat.le_of_ble_eq_true rfl) rfl dX10_judge_128 (fun _ _ hr9 => ?_)
              subst hr9
              refine x_aload_n C 1 dX10_judge_131 rfl rfl ?_
              refine x_get C (T := TX10) (N := 45) (v := .ref (ad 43)) 30 13 hin10 (hF 30 (by decide)) (pf_30 G nR ad _) rfl (by decide) lk32 rfl rfl dX10_judge_132 ?_
              refine x_iload_n C 2 dX10_judge_135 rfl rfl ?_
              refine x_iald C 43 (hF 43 (by decide)) (pf_43 G nR ad _) (vp_ok c5 h12 (by decide)) (kk := q.toNatClampNeg) rfl dX10_judge_136 ?_
              refine x_imul C dX10_judge_137 ?_
              refine x_isub C dX10_judge_138 ?_
              refine x_mmax C hm1max hm2max hm3 hm4max (Nat.le_of_ble_eq_true rfl) (Nat.le_of_ble_eq_true rfl) (Nat.le_of_ble_eq_true rfl) (Nat.le_of_ble_eq_true rfl) dX10_judge_139 ?_
              refine x_istore C (L1 := [(6, .int (if 0 < (S 46 (q.toNatClampNeg)) - ((mLaw nR S t (S 48 q.toNatClampNeg) 2) * (S 43 (q.toNatClampNeg))) then (S 46 (q.toNatClampNeg)) - ((mLaw nR S t (S 48 q.toNatClampNeg) 2) * (S 43 (q.toNatClampNeg))) else 0)), (5, .int (if 0 < (S 45 (q.toNatClampNeg)) - (((S 44 (q.toNatClampNeg)) * (mLaw nR S t (S 48 q.toNatClampNeg) 1)) / 1000) then (S 45 (q.toNatClampNeg)) - (((S 44 (q.toNatClampNeg)) * (mLaw nR S t (S 48 q.toNatClampNeg) 1)) / 1000) else 0)), (0, .ref (ad 30)), (1, .int q), (2, .int b), (3, .int (S 48 q.toNatClampNeg)), (4, .int sm)]) dX10_judge_142 (by decide) rfl ?_
              refine x_iload_n C 4 dX10_judge_144 rfl rfl ?_
              refine x_if_ne C (tgt := 153) dX10_judge_145 (by decide) (fun c145 => ?_) (fun c145 => ?_)
              · skip
                refine x_iload_n C 4 dX10_judge_153 rfl rfl ?_
                refine x_iconst C dX10_judge_154 (v := 1) (by decide) ?_
                refine x_icmp_ne C (tgt := 163) dX10_judge_155 (by decide) (fun c155 => ?_) (fun c155 => ?_)
                · skip
                  refine x_iload_n C 4 dX10_judge_163 rfl rfl ?_
                  refine x_iconst C dX10_judge_164 (v := 2) (by decide) ?_
                  refine x_icmp_ne C (tgt := 173) dX10_judge_165 (by decide) (fun c165 => ?_) (fun c165 => ?_)
                  · skip
                    refine x_aload_n C 2 dX10_judge_173 rfl rfl ?_
                    refine x_iload_n C 5 dX10_judge_174 rfl rfl ?_
                    refine x_iconst C dX10_judge_175 (v := 3) (by decide) ?_
                    refine x_Vi 30 C (k_X10_law l G nR LL ad hF S (S 48 q.toNatClampNeg) 3 hn hR t ht ht10 hst) gX10_judge_X10_law rfl (by decide +kernel) ⟨(Nat.le_of_ble_eq_true rfl), (Nat.le_of_ble_eq_true rfl)⟩ ⟨(Nat.le_of_ble_eq_true rfl), (Nat.le_of_ble_eq_true rfl)⟩ (hF 30 (by decide)) (pf_30 G nR ad _) (T := TX10) (N := 45) rfl (n := 2) rfl (st := []) (Nat.le_of_ble_eq_true rfl) rfl dX10_judge_176 (fun _ _ hr9 => ?_)
                    subst hr9
                    refine x_iload C 6 dX10_judge_179 rfl ?_
                    refine x_iload C 1 dX10_judge_181 rfl ?_
                    refine x_iadd C dX10_judge_183 ?_
                    refine x_iload C 0 dX10_judge_184 rfl ?_
                    refine x_iadd C dX10_judge_186 ?_
                    refine x_imul C dX10_judge_187 ?_
                    refine x_iret C hrt9 () ?_ rfl dX10_judge_188
                    show _ = _
                    rw [mJudge, if_pos (show isP q (nI n) = true ∧ ¬ S 48 q.toNatClampNeg = -1 ∧ isW b 0 3 = true from ⟨c5, c15, c24⟩), if_neg c145, if_neg c155, if_neg c165, e9]
                    rfl
                  · skip
                    refine x_iload C 0 dX10_judge_168 rfl ?_
                    refine x_goto C (tgt := 188) dX10_judge_170 (by decide) ?_
                    refine x_iret C hrt9 () ?_ rfl dX10_judge_188
                    show _ = _
                    rw [mJudge, if_pos (show isP q (nI n) = true ∧ ¬ S 48 q.toNatClampNeg = -1 ∧ isW b 0 3 = true from ⟨c5, c15, c24⟩), if_neg c145, if_neg c155, if_pos c165]
                    rfl
                · skip
                  refine x_iload C 1 dX10_judge_158 rfl ?_
                  refine x_goto C (tgt := 188) dX10_judge_160 (by decide) ?_
                  refine x_iret C hrt9 () ?_ rfl dX10_judge_188
                  show _ = _
                  rw [mJudge, if_pos (show isP q (nI n) = true ∧ ¬ S 48 q.toNatClampNeg = -1 ∧ isW b 0 3 = true from ⟨c5, c15, c24⟩), if_neg c145, if_pos c155]
                  rfl
              · skip
                refine x_iload C 6 dX10_judge_148 rfl ?_
                refine x_goto C (tgt := 188) dX10_judge_150 (by decide) ?_
                refine x_iret C hrt9 () ?_ rfl dX10_judge_188
                show _ = _
                rw [mJudge, if_pos (show isP q (nI n) = true ∧ ¬ S 48 q.toNatClampNeg = -1 ∧ isW b 0 3 = true from ⟨c5, c15, c24⟩), if_pos c145, e9]
            · skip
              have hlt : k < nR - 1 := nI_lt' (by rw [← nI_sub1 (by omega), ← hn]; exact c50) (by omega)
              refine x_iload C 4 dX10_judge_53 rfl ?_
              refine x_iconst C dX10_judge_55 (v := 0) (by decide) ?_
              refine x_aload_n C 0 dX10_judge_56 rfl rfl ?_
              refine x_get C (T := TX10) (N := 45) (v := .ref (ad 52)) 30 22 hin10 (hF 30 (by decide)) (pf_30 G nR ad _) rfl (by decide) lk60 rfl rfl dX10_judge_57 ?_
              refine x_bipush C dX10_judge_60 (v := 12) (by decide) ?_
              refine x_iload_n C 1 dX10_judge_62 rfl rfl ?_
              refine x_imul C dX10_judge_63 ?_
              refine x_iload C 5 dX10_judge_64 rfl ?_
              refine x_iadd C dX10_judge_66 ?_
              obtain ⟨hq1, hq2⟩ := isP_nat c5 (by omega)
              rw [show (12 * q) + (nI k) = nI (12 * q.toNatClampNeg + k) by rw [nI_ad, nI_ml, ← hq2]; rfl]
              refine x_iald C 52 (hF 52 (by decide)) (pf_52 G nR ad _) (nI_in (N := 144) (show 12 * q.toNatClampNeg + k < 144 by omega) (by decide)) (kk := 12 * q.toNatClampNeg + k) (nI_clamp (by omega)) dX10_judge_67 ?_
              refine x_aload_n C 0 dX10_judge_68 rfl rfl ?_
              refine x_iload_n C 3 dX10_judge_69 rfl rfl ?_
              refine x_iload C 5 dX10_judge_70 rfl ?_
              refine x_Vi 30 C (k_X10_allowed l G nR LL ad hF S (S 48 q.toNatClampNeg) (nI k) t ht ht10 hst) gX10_judge_X10_allowed rfl (by decide +kernel) ⟨(Nat.le_of_ble_eq_true rfl), (Nat.le_of_ble_eq_true rfl)⟩ ⟨(Nat.le_of_ble_eq_true rfl), (Nat.le_of_ble_eq_true rfl)⟩ (hF 30 (by decide)) (pf_30 G nR ad _) (T := TX10) (N := 45) rfl (n := 2) rfl (st := [.int (S 52 (12 * q.toNatClampNeg + k)), .int 0, .int sm]) (Nat.le_of_ble_eq_true rfl) rfl dX10_judge_72 (fun _ _ hr9 => ?_)
              subst hr9
              refine x_isub C dX10_judge_75 ?_
              refine x_mmax C hm1max hm2max hm3 hm4max (Nat.le_of_ble_eq_true rfl) (Nat.le_of_ble_eq_true rfl) (Nat.le_of_ble_eq_true rfl) (Nat.le_of_ble_eq_true rfl) dX10_judge_76 ?_
              refine x_iadd C dX10_judge_79 ?_
              refine x_istore C (L1 := [(4, .int (sm + (if 0 < (S 52 (12 * q.toNatClampNeg + k)) - (mTells S t (S 48 q.toNatClampNeg) 1 (nI k) 3) then (S 52 (12 * q.toNatClampNeg + k)) - (mTells S t (S 48 q.toNatClampNeg) 1 (nI k) 3) else 0))), (0, .ref (ad 30)), (1, .int q), (2, .int b), (3, .int (S 48 q.toNatClampNeg)), (5, .int (nI k))]) dX10_judge_80 (by decide) rfl ?_
              refine x_iinc C (L1 := [(5, .int ((nI k) + 1)), (4, .int (sm + (if 0 < (S 52 (12 * q.toNatClampNeg + k)) - (mTells S t (S 48 q.toNatClampNeg) 1 (nI k) 3) then (S 52 (12 * q.toNatClampNeg + k)) - (mTells S t (S 48 q.toNatClampNeg) 1 (nI k) 3) else 0))), (0, .ref (ad 30)), (1, .int q), (2, .int b), (3, .int (S 48 q.toNatClampNeg))]) 5 dX10_judge_82 rfl rfl (by decide) rfl ?_
              refine x_goto C (tgt := 42) dX10_judge_85 (by decide) ?_
              refine x_sub [2, 3, 4, 5, 1, 0] (L1 := [(0, .ref (ad 30)), (1, .int q), (2, .int b), (3, .int (S 48 q.toNatClampNeg)), (4, .int (sm + (if 0 < (S 52 (12 * q.toNatClampNeg + k)) - (mTells S t (S 48 q.toNatClampNeg) 1 (nI k) 3) then (S 52 (12 * q.toNatClampNeg + k)) - (mTells S t (S 48 q.toNatClampNeg) 1 (nI k) 3) else 0))), (5, .int ((nI k) + 1))]) rfl ?_
              rw [← nI_succ]
              exact ih (k + 1) _ (by omega) (by rw [e0]; rfl) (by omega)
        refine x_sub [3, 4, 5, 2, 1, 0] (L1 := [(0, .ref (ad 30)), (1, .int q), (2, .int b), (3, .int (S 48 (q.toNatClampNeg))), (4, .int 0), (5, .int 0)]) rfl ?_
        exact lp42 nR 0 0 (Nat.zero_le _) rfl (by omega)
      · replace c24 := bI_z c24
        refine x_iconst C dX10_judge_27 (v := -1) (by decide) ?_
        refine x_iret C hrt9 () ?_ rfl dX10_judge_28
        show _ = _
        rw [mJudge, if_neg (show ¬ (isP q (nI n) = true ∧ ¬ S 48 q.toNatClampNeg = -1 ∧ isW b 0 3 = true) from fun h => by rw [c24] at h; exact absurd h.2.2 (by decide))]

