/-! the reference's day -/
def mBeg (nR : Nat) (Z : tf_M) (i : Nat) : tf_M := if nI nR - 1 ≤ Z 47 i then s2 Z 49 i 0 else s2 (s2 Z 49 i 0) 52 (12 * i + (Z 47 i).toNatClampNeg) (Z 52 (12 * i + (Z 47 i).toNatClampNeg) + 1)
def mBegin (nR : Nat) (S : tf_M) : Nat → tf_M
  | 0 => S
  | i + 1 => mBeg nR (mBegin nR S i) i
theorem mBegin_ne {nR x : Nat} {S : tf_M} (h1 : x ≠ 49) (h2 : x ≠ 52) : ∀ i, mBegin nR S i x = S x := by
  intro i
  induction i with
  | zero => rfl
  | succ i ih =>
    unfold mBegin mBeg
    split
    · rw [s2_ne h1, ih]
    · rw [s2_ne h2, s2_ne h1, ih]
def mOpen (nR n t : Nat) (Z : tf_M) (k : Nat) : tf_M := opL nR n (mTells Z t (Z 30 3) 0 0 2) k (ngo (goneS Z k n) n + 1) (goneS Z k n) (Z 32 k) 0
theorem opL_ne {nR n k x : Nat} {q : Int32} (h : opKeep x) : ∀ (f : Nat) (Z : tf_M) (lf w : Int32), opL nR n q k f Z lf w x = Z x := by
  intro f
  induction f with
  | zero => intro Z lf w; rfl
  | succ f ih =>
    intro Z lf w
    unfold opL
    split
    · rfl
    · rw [ih, opStep_ne h]
theorem mOpen_ne {nR n t k x : Nat} {Z : tf_M} (h : opKeep x) : mOpen nR n t Z k x = Z x := by
  unfold mOpen
  rw [opL_ne h, goneS_ne h.1]
def mWkDn (nR n t : Nat) : Nat → tf_M → tf_M
  | 0, Z => Z
  | k + 1, Z => mWkDn nR n t k (mOpen nR n t Z k)
def mDay3 (nR n nk : Nat) (S : tf_M) : tf_M := mBegin nR (lkAll S 31 40 41 39 nk) n
def mDay (nR n t nk : Nat) (S : tf_M) : tf_M := s2 (mWkDn nR n t (nR - 1) (mDay3 nR n nk S)) 30 3 (mWkDn nR n t (nR - 1) (mDay3 nR n nk S) 30 3 + 1)
set_option maxHeartbeats 4000000 in
set_option maxRecDepth 100000 in
theorem k_X10_day (l : Launch) (G : tf_G) (nR : Nat) (LL : List Nat) (ad : Nat → Nat) (hF : ∀ j ∈ tf_fix, j ∈ LL) (S : tf_M) (hn : S 30 0 = nI nR) (hR : nR ≤ 12) (hR3 : 3 ≤ nR) (n : Nat) (hz : S 30 5 = nI n) (h12 : n ≤ 12) (t : Nat) (ht : S 30 33 = nI t) (ht10 : t ≤ 10) (hst : ∀ k, k < t → ∃ c, c ≤ 16 ∧ S 64 k = nI c) (nk : Nat) (hk : S 30 4 = nI nk) (hk4 : nk ≤ 4) (hlk : ∀ k, k < nk → isP (S 39 k) (nI nR) = true) (hat : ∀ j, j < n → ∃ r, r < nR ∧ S 47 j = nI r) : Ci l yX10_day wsX10_day ({ frames := 3, cells := 0, slots := 0, locals := 75 } : Room) G LL ad (pw G nR ad) (pw G nR ad S) [.ref (ad 30)] (fun x u => x = (if S 30 3 = 400 then -1 else S 30 3 + 1) ∧ u = if S 30 3 = 400 then S else mDay nR n t nk S) := by
  have hin10 : ∀ w ∈ u_ws RX10 TX10 45, w ∈ wsX10_day := by decide +kernel
  have lk144 : Cond.fieldLink RX10 144 "TributeFleetModel" "today" "I" ∈ wsX10_day := by decide +kernel
  have lk138 : Cond.fieldLink RX10 138 "TributeFleetModel" "lakes" "I" ∈ wsX10_day := by decide +kernel
  have lk128 : Cond.fieldLink RX10 128 "TributeFleetModel" "squadrons" "I" ∈ wsX10_day := by decide +kernel
  have lk121 : Cond.fieldLink RX10 121 "TributeFleetModel" "reaches" "I" ∈ wsX10_day := by decide +kernel
  have lk50 : Cond.fieldLink RX10 50 "TributeFleetModel" "why" "[I" ∈ wsX10_day := by decide +kernel
  have lk44 : Cond.fieldLink RX10 44 "TributeFleetModel" "at" "[I" ∈ wsX10_day := by decide +kernel
  have lk60 : Cond.fieldLink RX10 60 "TributeFleetModel" "days" "[I" ∈ wsX10_day := by decide +kernel
  have lk26 : Cond.fieldLink RX10 26 "TributeFleetModel" "gives" "[I" ∈ wsX10_day := by decide +kernel
  have lk23 : Cond.fieldLink RX10 23 "TributeFleetModel" "store" "[I" ∈ wsX10_day := by decide +kernel
  have hm1min : Cond.methodLink RX10 112 Lib.Math.min.name ∈ wsX10_day := by decide +kernel
  have hm2min : Cond.static Lib.Math.min.name ∈ wsX10_day := by decide +kernel
  have hm3 : Cond.initialized "java/lang/Math" ∈ wsX10_day := by decide +kernel
  have hm4min : Cond.code Lib.Math.min.name Lib.Math.min.code 2 (some .int) ∈ wsX10_day := by decide +kernel
  have lk7 : Cond.fieldLink RX10 7 "TributeFleetModel" "water" "[I" ∈ wsX10_day := by decide +kernel
  have lk20 : Cond.fieldLink RX10 20 "TributeFleetModel" "lakeReach" "[I" ∈ wsX10_day := by decide +kernel
  refine ci_of (cc := cX10_day) (maxL := 3) (ret := (some .int)) (by decide +kernel) rfl (Nat.le_of_ble_eq_true rfl) ?_
  intro pv ev sv mv args below meth cv A C hrt9 hnm9
  have C : Cx pv sv mv args meth cv cX10_day 3 RX10 wsX10_day G A LL ad := C
  show XJ pv l ev _ sv mv args below meth cv G A LL ad _ 3 0 0 _ 0 [(0, .ref (ad 30))] []
  refine x_aload_n C 0 dX10_day_0 rfl rfl ?_
  refine x_get C (T := TX10) (N := 45) (v := .int (S 30 3)) 30 3 hin10 (hF 30 (by decide)) (pf_30 G nR ad _) rfl (by decide) lk144 rfl rfl dX10_day_1 ?_
  refine x_sipush C dX10_day_4 (v := 400) (by decide) ?_
  refine x_icmp_ne C (tgt := 12) dX10_day_7 (by decide) (fun c7 => ?_) (fun c7 => ?_)
  · skip
    refine x_iconst C dX10_day_12 (v := 0) (by decide) ?_
    refine x_istore_n C (L1 := [(1, .int 0), (0, .ref (ad 30))]) dX10_day_13 rfl (by decide) rfl ?_
    have lp14 : ∀ (d9 : Nat) (k : Nat) (S1 : tf_M), (k ≤ nk) → (S1 = lkAll S 31 40 41 39 k) → (S1 30 = S 30) → (S1 39 = S 39) → nk - k < d9 → XJ pv l ev ({ frames := 3, cells := 0, slots := 0, locals := 75 } : Room) sv mv args below meth cv G A LL ad (MQ below (va_Qi (fun x u => x = (if S 30 3 = 400 then -1 else S 30 3 + 1) ∧ u = if S 30 3 = 400 then S else mDay nR n t nk S) (tf_B G LL ad (pw G nR ad)) A) args sv 0 0 A) 3 0 0 (pw G nR ad S1) 14 [(0, .ref (ad 30)), (1, .int (nI k))] [] := by
      intro d9
      induction d9 with
      | zero => intro k S1 hkn e0 e1 e4 hd9; omega
      | succ d9 ih14 =>
        intro k S1 hkn e0 e1 e4 hd9
        have ih := ih14
        refine x_iload_n C 1 dX10_day_14 rfl rfl ?_
        refine x_aload_n C 0 dX10_day_15 rfl rfl ?_
        refine x_get C (T := TX10) (N := 45) (v := .int (S1 30 4)) 30 4 hin10 (hF 30 (by decide)) (pf_30 G nR ad _) rfl (by decide) lk138 rfl rfl dX10_day_16 ?_
        refine x_icmp_ge C (tgt := 87) dX10_day_19 (by decide) (fun c19 => ?_) (fun c19 => ?_)
        · skip
          have hge : nk ≤ k := nI_ge' (by rw [← hk, ← e1]; exact c19) (by omega)
          refine x_iconst C dX10_day_87 (v := 0) (by decide) ?_
          refine x_istore_n C (L1 := [(1, .int 0), (0, .ref (ad 30))]) dX10_day_88 rfl (by decide) rfl ?_
          have lp89 : ∀ (d9 : Nat) (k : Nat) (S1 : tf_M), (k ≤ n) → (S1 = mBegin nR (lkAll S 31 40 41 39 nk) k) → (∀ x, x ≠ 31 → x ≠ 40 → x ≠ 49 → x ≠ 52 → S1 x = S x) → n - k < d9 → XJ pv l ev ({ frames := 3, cells := 0, slots := 0, locals := 75 } : Room) sv mv args below meth cv G A LL ad (MQ below (va_Qi (fun x u => x = (if S 30 3 = 400 then -1 else S 30 3 + 1) ∧ u = if S 30 3 = 400 then S else mDay nR n t nk S) (tf_B G LL ad (pw G nR ad)) A) args sv 0 0 A) 3 0 0 (pw G nR ad S1) 89 [(0, .ref (ad 30)), (1, .int (nI k))] [] := by
            intro d9
            induction d9 with
            | zero => intro k S1 hkn e0 hkp hd9; omega
            | succ d9 ih89 =>
              intro k S1 hkn e0 hkp hd9
              have ih := ih89
              refine x_iload_n C 1 dX10_day_89 rfl rfl ?_
              refine x_aload_n C 0 dX10_day_90 rfl rfl ?_
              refine x_get C (T := TX10) (N := 45) (v := .int (S1 30 5)) 30 5 hin10 (hF 30 (by decide)) (pf_30 G nR ad _) rfl (by decide) lk128 rfl rfl dX10_day_91 ?_
              refine x_icmp_ge C (tgt := 145) dX10_day_94 (by decide) (fun c94 => ?_) (fun c94 => ?_)
              · skip
                have hge : k = n := by
                  have : n ≤ k := nI_ge' (by rw [← hz, ← hkp 30 (by decide) (by decide) (by decide) (by decide)]; exact c94) (by omega)
                  omega
                rw [hge] at e0
                have hD : ∀ x, x ≠ 31 → x ≠ 40 → x ≠ 49 → x ≠ 52 → mDay3 nR n nk S x = S x := fun x h1 h2 h3 h4 => by rw [← hkp x h1 h2 h3 h4, e0]; rfl
                rw [show S1 = mDay3 nR n nk S from e0]
                refine x_aload_n C 0 dX10_day_145 rfl rfl ?_
                refine x_get C (T := TX10) (N := 45) (v := .int ((mDay3 nR n nk S) 30 0)) 30 0 hin10 (hF 30 (by decide)) (pf_30 G nR ad _) rfl (by decide) lk121 rfl rfl dX10_day_146 ?_
                refine x_iconst C dX10_day_149 (v := 2) (by decide) ?_
                refine x_isub C dX10_day_150 ?_
                refine x_istore_n C (L1 := [(1, .int (((mDay3 nR n nk S) 30 0) - 2)), (0, .ref (ad 30))]) dX10_day_151 rfl (by decide) rfl ?_
                have lp152 : ∀ (k : Nat) (Z : tf_M), (k ≤ nR - 1) → (mWkDn nR n t k Z = mWkDn nR n t (nR - 1) (mDay3 nR n nk S)) → (∀ x, opKeep x → Z x = mDay3 nR n nk S x) → XJ pv l ev ({ frames := 3, cells := 0, slots := 0, locals := 75 } : Room) sv mv args below meth cv G A LL ad (MQ below (va_Qi (fun x u => x = (if S 30 3 = 400 then -1 else S 30 3 + 1) ∧ u = if S 30 3 = 400 then S else mDay nR n t nk S) (tf_B G LL ad (pw G nR ad)) A) args sv 0 0 A) 3 0 0 (pw G nR ad Z) 152 [(0, .ref (ad 30)), (1, .int (nI k - 1))] [] := by
                  intro k
                  induction k with
                  | zero =>
                    intro Z hkn hr9 hkp
                    rw [show nI 0 - 1 = -1 from rfl]
                    refine x_iload_n C 1 dX10_day_152 rfl rfl ?_
                    refine x_if_lt C (tgt := 167) dX10_day_153 (by decide) (fun c153 => ?_) (fun c153 => ?_)
                    rotate_left
                    · exact absurd (by decide) c153
                    refine x_aload_n C 0 dX10_day_167 rfl rfl ?_
                    refine x_dup C dX10_day_168 rfl ?_
                    refine x_get C (T := TX10) (N := 45) (v := .int (Z 30 3)) 30 3 hin10 (hF 30 (by decide)) (pf_30 G nR ad _) rfl (by decide) lk144 rfl rfl dX10_day_169 ?_
                    refine x_iconst C dX10_day_172 (v := 1) (by decide) ?_
                    refine x_iadd C dX10_day_173 ?_
                    refine y_put C (T := TX10) (N := 45) (ty := .int) 30 3 hin10 tyX10 tyX10_ok nmX10 (hF 30 (by decide)) (pf_30 G nR ad _) (pf_30 G nR ad _) rfl (by decide) lk144 rfl rfl (by decide +kernel) rfl rfl (Nat.le_of_ble_eq_true rfl) dX10_day_174 ?_
                    refine x_aload_n C 0 dX10_day_177 rfl rfl ?_
                    refine x_get C (T := TX10) (N := 45) (v := .int ((Z 30 3) + 1)) 30 3 hin10 (hF 30 (by decide)) (pf_30 G nR ad _) rfl (by decide) lk144 rfl rfl dX10_day_178 ?_
                    refine x_iret C hrt9 (s2 Z 30 3 ((Z 30 3) + 1)) ?_ rfl dX10_day_181
                    rw [if_neg c7, if_neg c7]
                    have hZ : Z = mWkDn nR n t (nR - 1) (mDay3 nR n nk S) := hr9
                    refine ⟨?_, ?_⟩
                    · show Z 30 3 + 1 = _
                      rw [hkp 30 (by unfold opKeep; decide), hD 30 (by decide) (by decide) (by decide) (by decide)]
                    · rw [hZ]
                      rfl
                  | succ k ih152 =>
                    intro Z hkn hr9 hkp
                    have ih := ih152
                    rw [nI_pred]
                    have h30 : Z 30 = S 30 := by rw [hkp 30 (by unfold opKeep; decide), hD 30 (by decide) (by decide) (by decide) (by decide)]
                    have h64 : Z 64 = S 64 := by rw [hkp 64 (by unfold opKeep; decide), hD 64 (by decide) (by decide) (by decide) (by decide)]
                    have hnZ : Z 30 0 = nI nR := by rw [h30]; exact hn
                    have hzZ : Z 30 5 = nI n := by rw [h30]; exact hz
                    have htZ : Z 30 33 = nI t := by rw [h30]; exact ht
                    have hstZ : ∀ k, k < t → ∃ c, c ≤ 16 ∧ Z 64 k = nI c := by rw [h64]; exact hst
                    refine x_iload_n C 1 dX10_day_152 rfl rfl ?_
                    refine x_if_lt C (tgt := 167) dX10_day_153 (by decide) (fun c153 => ?_) (fun c153 => ?_)
                    · skip
                      exact absurd c153 (nI_pos (by omega))
                    · skip
                      refine x_aload_n C 0 dX10_day_156 rfl rfl ?_
                      refine x_iload_n C 1 dX10_day_157 rfl rfl ?_
                      refine x_Vv 30 C (k_X10_opens l G nR LL ad hF Z k (by omega) hnZ hR hR3 n hzZ h12 t htZ ht10 hstZ) gX10_day_X10_opens rfl (by decide +kernel) ⟨(Nat.le_of_ble_eq_true rfl), (Nat.le_of_ble_eq_true rfl)⟩ ⟨(Nat.le_of_ble_eq_true rfl), (Nat.le_of_ble_eq_true rfl)⟩ (hF 30 (by decide)) (pf_30 G nR ad _) (T := TX10) (N := 45) rfl (n := 1) rfl (st := []) (Nat.le_of_ble_eq_true rfl) rfl dX10_day_158 (fun _ hr9 => ?_)
                      subst hr9
                      refine x_iinc C (L1 := [(1, .int ((nI k) - 1)), (0, .ref (ad 30))]) 1 dX10_day_161 rfl (i_dec1 _) (by decide) rfl ?_
                      refine x_goto C (tgt := 152) dX10_day_164 (by decide) ?_
                      refine x_sub [1, 0] (L1 := [(0, .ref (ad 30)), (1, .int ((nI k) - 1))]) rfl ?_
                      exact ih _ (by omega) (by rw [← hr9]; rfl) (fun x hx => (mOpen_ne (nR := nR) (n := n) (t := t) (k := k) (Z := Z) hx).trans (hkp x hx))
                refine x_sub [1, 0] (L1 := [(0, .ref (ad 30)), (1, .int (((mDay3 nR n nk S) 30 0) - 2))]) rfl ?_
                rw [show mDay3 nR n nk S 30 0 - 2 = nI (nR - 1) - 1 by rw [hD 30 (by decide) (by decide) (by decide) (by decide), hn, show (2 : Int32) = nI 2 from rfl, nI_sub (by omega), nI_sub1 (by omega)]; congr 1]
                exact lp152 (nR - 1) _ (Nat.le_refl _) rfl (fun _ _ => rfl)
              · skip
                have hlt : k < n := nI_lt' (by rw [← hz, ← hkp 30 (by decide) (by decide) (by decide) (by decide)]; exact c94) (by omega)
                refine x_aload_n C 0 dX10_day_97 rfl rfl ?_
                refine x_get C (T := TX10) (N := 45) (v := .ref (ad 49)) 30 19 hin10 (hF 30 (by decide)) (pf_30 G nR ad _) rfl (by decide) lk50 rfl rfl dX10_day_98 ?_
                refine x_iload_n C 1 dX10_day_101 rfl rfl ?_
                refine x_iconst C dX10_day_102 (v := 0) (by decide) ?_
                refine y_iast C 49 (hF 49 (by decide)) (fun f => (pf_49 G nR ad f)) (nI_in (N := 12) (show k < 12 by omega) (by omega)) (kk := k) (nI_clamp (by omega)) dX10_day_103 ?_
                refine x_aload_n C 0 dX10_day_104 rfl rfl ?_
                refine x_get C (T := TX10) (N := 45) (v := .ref (ad 47)) 30 17 hin10 (hF 30 (by decide)) (pf_30 G nR ad _) rfl (by decide) lk44 rfl rfl dX10_day_105 ?_
                refine x_iload_n C 1 dX10_day_108 rfl rfl ?_
                refine x_iald C 47 (hF 47 (by decide)) (pf_47 G nR ad _) (nI_in (N := 12) (show k < 12 by omega) (by omega)) (kk := k) (nI_clamp (by omega)) dX10_day_109 ?_
                refine x_aload_n C 0 dX10_day_110 rfl rfl ?_
                refine x_get C (T := TX10) (N := 45) (v := .int (S1 30 0)) 30 0 hin10 (hF 30 (by decide)) (pf_30 G nR ad _) rfl (by decide) lk121 rfl rfl dX10_day_111 ?_
                refine x_iconst C dX10_day_114 (v := 1) (by decide) ?_
                refine x_isub C dX10_day_115 ?_
                refine x_top C (v2 := nI nR - 1) (by show S1 30 0 - 1 = _; rw [hkp 30 (by decide) (by decide) (by decide) (by decide), hn]) ?_
                refine x_icmp_ge C (tgt := 139) dX10_day_116 (by decide) (fun c116 => ?_) (fun c116 => ?_)
                · skip
                  refine x_iinc C (L1 := [(1, .int ((nI k) + 1)), (0, .ref (ad 30))]) 1 dX10_day_139 rfl rfl (by decide) rfl ?_
                  refine x_goto C (tgt := 89) dX10_day_142 (by decide) ?_
                  refine x_sub [1, 0] (L1 := [(0, .ref (ad 30)), (1, .int ((nI k) + 1))]) rfl ?_
                  rw [← nI_succ]
                  exact ih (k + 1) _ (by omega) (by rw [mBegin, ← e0, mBeg, if_pos (show nI nR - 1 ≤ S1 47 k from c116)]) (fun x h1 h2 h3 h4 => by rw [s2_ne h3]; exact hkp x h1 h2 h3 h4) (by omega)
                · skip
                  refine x_aload_n C 0 dX10_day_119 rfl rfl ?_
                  refine x_get C (T := TX10) (N := 45) (v := .ref (ad 52)) 30 22 hin10 (hF 30 (by decide)) (pf_30 G nR ad _) rfl (by decide) lk60 rfl rfl dX10_day_120 ?_
                  refine x_bipush C dX10_day_123 (v := 12) (by decide) ?_
                  refine x_iload_n C 1 dX10_day_125 rfl rfl ?_
                  refine x_imul C dX10_day_126 ?_
                  refine x_aload_n C 0 dX10_day_127 rfl rfl ?_
                  refine x_get C (T := TX10) (N := 45) (v := .ref (ad 47)) 30 17 hin10 (hF 30 (by decide)) (pf_30 G nR ad _) rfl (by decide) lk44 rfl rfl dX10_day_128 ?_
                  refine x_iload_n C 1 dX10_day_131 rfl rfl ?_
                  refine x_iald C 47 (hF 47 (by decide)) (pf_47 G nR ad _) (nI_in (N := 12) (show k < 12 by omega) (by omega)) (kk := k) (nI_clamp (by omega)) dX10_day_132 ?_
                  refine x_iadd C dX10_day_133 ?_
                  obtain ⟨r9, hr9, hr8⟩ := hat k hlt
                  have hr7 : S1 47 k = nI r9 := by rw [hkp 47 (by decide) (by decide) (by decide) (by decide)]; exact hr8
                  have hr6 : (S1 47 k).toNatClampNeg = r9 := by rw [hr7]; exact nI_clamp (by omega)
                  refine x_top C (v2 := nI (12 * k + (S1 47 k).toNatClampNeg)) (by show 12 * nI k + S1 47 k = _; rw [hr6, hr7, nI_ad, nI_ml]; rfl) ?_
                  refine x_dup2 C dX10_day_134 rfl rfl ?_
                  refine x_iald C 52 (hF 52 (by decide)) (pf_52 G nR ad _) (nI_in (N := 144) (by rw [hr6]; omega) (by decide)) (kk := 12 * k + (S1 47 k).toNatClampNeg) (nI_clamp (by rw [hr6]; omega)) dX10_day_135 ?_
                  refine x_iconst C dX10_day_136 (v := 1) (by decide) ?_
                  refine x_iadd C dX10_day_137 ?_
                  refine y_iast C 52 (hF 52 (by decide)) (fun f => (pf_52 G nR ad f)) (nI_in (N := 144) (by rw [hr6]; omega) (by decide)) (kk := 12 * k + (S1 47 k).toNatClampNeg) (nI_clamp (by rw [hr6]; omega)) dX10_day_138 ?_
                  refine x_iinc C (L1 := [(1, .int ((nI k) + 1)), (0, .ref (ad 30))]) 1 dX10_day_139 rfl rfl (by decide) rfl ?_
                  refine x_goto C (tgt := 89) dX10_day_142 (by decide) ?_
                  refine x_sub [1, 0] (L1 := [(0, .ref (ad 30)), (1, .int ((nI k) + 1))]) rfl ?_
                  rw [← nI_succ]
                  exact ih (k + 1) _ (by omega) (by rw [mBegin, ← e0, mBeg, if_neg (show ¬ nI nR - 1 ≤ S1 47 k from c116)]; rfl) (fun x h1 h2 h3 h4 => by rw [s2_ne h4, s2_ne h3]; exact hkp x h1 h2 h3 h4) (by omega)
          refine x_sub [1, 0] (L1 := [(0, .ref (ad 30)), (1, .int 0)]) rfl ?_
          rw [show k = nk by omega] at e0
          exact lp89 (n + 1) 0 _ (Nat.zero_le _) e0 (fun x h1 h2 _ _ => by rw [e0]; exact lkAll_ne h1 h2 nk) (by omega)
        · skip
          have hlt : k < nk := nI_lt' (by rw [← hk, ← e1]; exact c19) (by omega)
          refine x_aload_n C 0 dX10_day_22 rfl rfl ?_
          refine x_get C (T := TX10) (N := 45) (v := .ref (ad 41)) 30 11 hin10 (hF 30 (by decide)) (pf_30 G nR ad _) rfl (by decide) lk26 rfl rfl dX10_day_23 ?_
          refine x_iload_n C 1 dX10_day_26 rfl rfl ?_
          refine x_iald C 41 (hF 41 (by decide)) (pf_41 G nR ad _) (nI_in (N := 4) (show k < 4 by omega) (by omega)) (kk := k) (nI_clamp (by omega)) dX10_day_27 ?_
          refine x_aload_n C 0 dX10_day_28 rfl rfl ?_
          refine x_get C (T := TX10) (N := 45) (v := .ref (ad 40)) 30 10 hin10 (hF 30 (by decide)) (pf_30 G nR ad _) rfl (by decide) lk23 rfl rfl dX10_day_29 ?_
          refine x_iload_n C 1 dX10_day_32 rfl rfl ?_
          refine x_iald C 40 (hF 40 (by decide)) (pf_40 G nR ad _) (nI_in (N := 4) (show k < 4 by omega) (by omega)) (kk := k) (nI_clamp (by omega)) dX10_day_33 ?_
          refine x_mmin C hm1min hm2min hm3 hm4min (Nat.le_of_ble_eq_true rfl) (Nat.le_of_ble_eq_true rfl) (Nat.le_of_ble_eq_true rfl) (Nat.le_of_ble_eq_true rfl) dX10_day_34 ?_
          refine x_sipush C dX10_day_37 (v := 1000) (by decide) ?_
          refine x_aload_n C 0 dX10_day_40 rfl rfl ?_
          refine x_get C (T := TX10) (N := 45) (v := .ref (ad 31)) 30 1 hin10 (hF 30 (by decide)) (pf_30 G nR ad _) rfl (by decide) lk7 rfl rfl dX10_day_41 ?_
          refine x_aload_n C 0 dX10_day_44 rfl rfl ?_
          refine x_get C (T := TX10) (N := 45) (v := .ref (ad 39)) 30 9 hin10 (hF 30 (by decide)) (pf_30 G nR ad _) rfl (by decide) lk20 rfl rfl dX10_day_45 ?_
          refine x_iload_n C 1 dX10_day_48 rfl rfl ?_
          refine x_iald C 39 (hF 39 (by decide)) (pf_39 G nR ad _) (nI_in (N := 4) (show k < 4 by omega) (by omega)) (kk := k) (nI_clamp (by omega)) dX10_day_49 ?_
          refine x_iald C 31 (hF 31 (by decide)) (pf_31 G nR ad _) (vp_ok (n := nR) (show isP (S1 39 k) (nI nR) = true by rw [e4]; exact hlk k hlt) hR (by decide)) (kk := (S1 39 (k)).toNatClampNeg) rfl dX10_day_50 ?_
          refine x_isub C dX10_day_51 ?_
          refine x_mmin C hm1min hm2min hm3 hm4min (Nat.le_of_ble_eq_true rfl) (Nat.le_of_ble_eq_true rfl) (Nat.le_of_ble_eq_true rfl) (Nat.le_of_ble_eq_true rfl) dX10_day_52 ?_
          refine x_istore_n C (L1 := [(2, .int (if 1000 - (S1 31 ((S1 39 (k)).toNatClampNeg)) < if S1 40 (k) < S1 41 (k) then S1 40 (k) else S1 41 (k) then 1000 - (S1 31 ((S1 39 (k)).toNatClampNeg)) else if S1 40 (k) < S1 41 (k) then S1 40 (k) else S1 41 (k))), (0, .ref (ad 30)), (1, .int (nI k))]) dX10_day_55 rfl (by decide) rfl ?_
          refine x_aload_n C 1 dX10_day_56 rfl rfl ?_
          refine x_get C (T := TX10) (N := 45) (v := .ref (ad 40)) 30 10 hin10 (hF 30 (by decide)) (pf_30 G nR ad _) rfl (by decide) lk23 rfl rfl dX10_day_57 ?_
          refine x_iload_n C 2 dX10_day_60 rfl rfl ?_
          refine x_dup2 C dX10_day_61 rfl rfl ?_
          refine x_iald C 40 (hF 40 (by decide)) (pf_40 G nR ad _) (nI_in (N := 4) (show k < 4 by omega) (by omega)) (kk := k) (nI_clamp (by omega)) dX10_day_62 ?_
          refine x_iload_n C 0 dX10_day_63 rfl rfl ?_
          refine x_isub C dX10_day_64 ?_
          refine y_iast C 40 (hF 40 (by decide)) (fun f => (pf_40 G nR ad f)) (nI_in (N := 4) (show k < 4 by omega) (by omega)) (kk := k) (nI_clamp (by omega)) dX10_day_65 ?_
          refine x_aload_n C 1 dX10_day_66 rfl rfl ?_
          refine x_get C (T := TX10) (N := 45) (v := .ref (ad 31)) 30 1 hin10 (hF 30 (by decide)) (pf_30 G nR ad _) rfl (by decide) lk7 rfl rfl dX10_day_67 ?_
          refine x_aload_n C 1 dX10_day_70 rfl rfl ?_
          refine x_get C (T := TX10) (N := 45) (v := .ref (ad 39)) 30 9 hin10 (hF 30 (by decide)) (pf_30 G nR ad _) rfl (by decide) lk20 rfl rfl dX10_day_71 ?_
          refine x_iload_n C 2 dX10_day_74 rfl rfl ?_
          refine x_iald C 39 (hF 39 (by decide)) (pf_39 G nR ad _) (nI_in (N := 4) (show k < 4 by omega) (by omega)) (kk := k) (nI_clamp (by omega)) dX10_day_75 ?_
          refine x_dup2 C dX10_day_76 rfl rfl ?_
          refine x_iald C 31 (hF 31 (by decide)) (pf_31 G nR ad _) (vp_ok (n := nR) (show isP (S1 39 k) (nI nR) = true by rw [e4]; exact hlk k hlt) hR (by decide)) (kk := (S1 39 (k)).toNatClampNeg) rfl dX10_day_77 ?_
          refine x_iload_n C 0 dX10_day_78 rfl rfl ?_
          refine x_iadd C dX10_day_79 ?_
          refine y_iast C 31 (hF 31 (by decide)) (fun f => (pf_31 G nR ad f)) (vp_ok (n := nR) (show isP (S1 39 k) (nI nR) = true by rw [e4]; exact hlk k hlt) hR (by decide)) (kk := (S1 39 (k)).toNatClampNeg) rfl dX10_day_80 ?_
          refine x_iinc C (L1 := [(1, .int ((nI k) + 1)), (2, .int (if 1000 - (S1 31 ((S1 39 (k)).toNatClampNeg)) < if S1 40 (k) < S1 41 (k) then S1 40 (k) else S1 41 (k) then 1000 - (S1 31 ((S1 39 (k)).toNatClampNeg)) else if S1 40 (k) < S1 41 (k) then S1 40 (k) else S1 41 (k))), (0, .ref (ad 30))]) 2 dX10_day_81 rfl rfl (by decide) rfl ?_
          refine x_goto C (tgt := 14) dX10_day_84 (by decide) ?_
          refine x_sub [2, 0] (L1 := [(0, .ref (ad 30)), (1, .int ((nI k) + 1))]) rfl ?_
          rw [← nI_succ]
          exact ih (k + 1) _ (by omega) (by rw [e0]; rfl) (by rw [s2_ne (by decide), s2_ne (by decide)]; exact e1) (by rw [s2_ne (by decide), s2_ne (by decide)]; exact e4) (by omega)
    refine x_sub [1, 0] (L1 := [(0, .ref (ad 30)), (1, .int 0)]) rfl ?_
    exact lp14 (nk + 1) 0 S (Nat.zero_le _) rfl rfl rfl (by omega)
  · skip
    refine x_iconst C dX10_day_10 (v := -1) (by decide) ?_
    refine x_iret C hrt9 S ?_ rfl dX10_day_11
    rw [if_pos c7, if_pos c7]
    exact ⟨rfl, rfl⟩

