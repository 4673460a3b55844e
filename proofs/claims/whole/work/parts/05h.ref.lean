/-! the reference's lock -/
def mBar (Z : tf_M) (k j : Nat) (lf w : Int32) : Int32 := if icy (Z 30 6) (Z 30 7) (nI k) (Z 30 3) = true ∨ icy (Z 30 6) (Z 30 7) (nI k + 1) (Z 30 3) = true then 1 else if Z 31 (k + 1) < 20 + Z 43 j then 2 else if lf < Z 43 j then 3 else if ¬ w = 0 ∧ Z 51 j = 0 then 4 else 0
def mWhy (Z : tf_M) (j : Nat) (b : Int32) : tf_M := s2 (s2 Z 71 j 1) 49 j b
def mThru (Z : tf_M) (k j : Nat) (b : Int32) : tf_M := s2 (s2 (s2 (mWhy Z j b) 31 (k + 1) (Z 31 (k + 1) - Z 43 j)) 31 k (imin 1000 (s2 (mWhy Z j b) 31 (k + 1) (Z 31 (k + 1) - Z 43 j) 31 k + Z 43 j))) 47 j (nI k + 1)
def opStep (nR : Nat) (Z : tf_M) (k : Nat) (lf w : Int32) (j : Nat) : tf_M × Int32 × Int32 := if mBar Z k j lf w = 0 then (if nI k + 1 = nI nR - 1 then s2 (mThru Z k j 0) 48 j (Z 30 3) else mThru Z k j 0, lf - Z 43 j, w) else (s2 (mWhy Z j (mBar Z k j lf w)) 53 (5 * j + (mBar Z k j lf w).toNatClampNeg) (Z 53 (5 * j + (mBar Z k j lf w).toNatClampNeg) + 1), lf, 1)
def opL (nR n : Nat) (q : Int32) (k : Nat) : Nat → tf_M → Int32 → Int32 → tf_M
  | 0, Z, _, _ => Z
  | f + 1, Z, lf, w => if mNext Z q n = -1 then Z else opL nR n q k f (opStep nR Z k lf w (mNext Z q n).toNatClampNeg).1 (opStep nR Z k lf w (mNext Z q n).toNatClampNeg).2.1 (opStep nR Z k lf w (mNext Z q n).toNatClampNeg).2.2
def goneS (S : tf_M) (k : Nat) : Nat → tf_M
  | 0 => S
  | i + 1 => s2 (goneS S k i) 71 i (if S 47 i = nI k then 0 else 1)
theorem goneS_ne {S : tf_M} {k x : Nat} (h : x ≠ 71) : ∀ i, goneS S k i x = S x := by
  intro i
  induction i with
  | zero => rfl
  | succ i ih => unfold goneS; rw [s2_ne h, ih]
/-- how many haven't gone -/
def ngo (Z : tf_M) : Nat → Nat
  | 0 => 0
  | i + 1 => (if Z 71 i = 0 then 1 else 0) + ngo Z i
theorem ngo_same {Z Z1 : tf_M} {n : Nat} (h : ∀ i, i < n → Z1 71 i = Z 71 i) : ngo Z1 n = ngo Z n := by
  induction n with
  | zero => rfl
  | succ n ih => rw [ngo, ngo, h n (by omega), ih (fun i hi => h i (by omega))]
theorem ngo_put {Z Z1 : tf_M} {n j : Nat} (hj : j < n) (h0 : Z 71 j = 0) (h1 : Z1 71 j = 1) (h : ∀ i, i ≠ j → Z1 71 i = Z 71 i) : ngo Z1 n + 1 = ngo Z n := by
  induction n with
  | zero => omega
  | succ n ih =>
    by_cases e : j = n
    · subst e
      rw [ngo, ngo, h0, h1, ngo_same (Z := Z) (fun i hi => h i (by omega)), if_neg (by decide), if_pos rfl]
      omega
    · rw [ngo, ngo, h n (Ne.symm e)]
      have := ih (by omega)
      omega
theorem mNext_zero {S : tf_M} {q : Int32} : ∀ k, mNext S q k = -1 ∨ ∃ j, j < k ∧ mNext S q k = nI j ∧ S 71 j = 0 := by
  intro k
  induction k with
  | zero => exact Or.inl rfl
  | succ k ih =>
    unfold mNext
    split
    · rename_i h
      exact Or.inr ⟨k, by omega, rfl, h.1⟩
    · rcases ih with h | ⟨j, h1, h2⟩
      · exact Or.inl h
      · exact Or.inr ⟨j, by omega, h2⟩
def opKeep (x : Nat) : Prop := x ≠ 71 ∧ x ≠ 49 ∧ x ≠ 53 ∧ x ≠ 31 ∧ x ≠ 47 ∧ x ≠ 48
theorem opStep_ne {nR : Nat} {Z : tf_M} {k j x : Nat} {lf w : Int32} (h : opKeep x) : (opStep nR Z k lf w j).1 x = Z x := by
  obtain ⟨h1, h2, h3, h4, h5, h6⟩ := h
  unfold opStep
  split
  · dsimp only
    split
    · rw [s2_ne h6]; unfold mThru mWhy; rw [s2_ne h5, s2_ne h4, s2_ne h4, s2_ne h2, s2_ne h1]
    · unfold mThru mWhy; rw [s2_ne h5, s2_ne h4, s2_ne h4, s2_ne h2, s2_ne h1]
  · dsimp only
    unfold mWhy; rw [s2_ne h3, s2_ne h2, s2_ne h1]
theorem opStep_71 {nR : Nat} {Z : tf_M} {k j : Nat} {lf w : Int32} : (opStep nR Z k lf w j).1 71 = s2 Z 71 j 1 71 := by
  unfold opStep
  split
  · dsimp only
    split
    · rw [s2_ne (by decide)]; unfold mThru mWhy; rw [s2_ne (by decide), s2_ne (by decide), s2_ne (by decide), s2_ne (by decide)]
    · unfold mThru mWhy; rw [s2_ne (by decide), s2_ne (by decide), s2_ne (by decide), s2_ne (by decide)]
  · dsimp only
    unfold mWhy; rw [s2_ne (by decide), s2_ne (by decide)]
set_option maxHeartbeats 4000000 in
set_option maxRecDepth 100000 in
theorem k_X10_opens (l : Launch) (G : tf_G) (nR : Nat) (LL : List Nat) (ad : Nat → Nat) (hF : ∀ j ∈ tf_fix, j ∈ LL) (S : tf_M) (k : Nat) (hk : k + 1 < nR) (hn : S 30 0 = nI nR) (hR : nR ≤ 12) (hR3 : 3 ≤ nR) (n : Nat) (hz : S 30 5 = nI n) (h12 : n ≤ 12) (t : Nat) (ht : S 30 33 = nI t) (ht10 : t ≤ 10) (hst : ∀ k, k < t → ∃ c, c ≤ 16 ∧ S 64 k = nI c) : Cv l yX10_opens wsX10_opens ({ frames := 2, cells := 0, slots := 0, locals := 50 } : Room) G LL ad (pw G nR ad) (pw G nR ad S) [.ref (ad 30), .int (nI k)] (fun u => u = opL nR n (mTells S t (S 30 3) 0 0 2) k (ngo (goneS S k n) n + 1) (goneS S k n) (S 32 k) 0) := by
  have hin10 : ∀ w ∈ u_ws RX10 TX10 45, w ∈ wsX10_opens := by decide +kernel
  have lk13 : Cond.fieldLink RX10 13 "TributeFleetModel" "boatsADay" "[I" ∈ wsX10_opens := by decide +kernel
  have lk144 : Cond.fieldLink RX10 144 "TributeFleetModel" "today" "I" ∈ wsX10_opens := by decide +kernel
  have lk128 : Cond.fieldLink RX10 128 "TributeFleetModel" "squadrons" "I" ∈ wsX10_opens := by decide +kernel
  have lk100 : Cond.fieldLink RX10 100 "TributeFleetModel" "hasGone" "[Z" ∈ wsX10_opens := by decide +kernel
  have lk50 : Cond.fieldLink RX10 50 "TributeFleetModel" "why" "[I" ∈ wsX10_opens := by decide +kernel
  have lk63 : Cond.fieldLink RX10 63 "TributeFleetModel" "causes" "[I" ∈ wsX10_opens := by decide +kernel
  have lk7 : Cond.fieldLink RX10 7 "TributeFleetModel" "water" "[I" ∈ wsX10_opens := by decide +kernel
  have lk32 : Cond.fieldLink RX10 32 "TributeFleetModel" "boats" "[I" ∈ wsX10_opens := by decide +kernel
  have hm1min : Cond.methodLink RX10 112 Lib.Math.min.name ∈ wsX10_opens := by decide +kernel
  have hm2min : Cond.static Lib.Math.min.name ∈ wsX10_opens := by decide +kernel
  have hm3 : Cond.initialized "java/lang/Math" ∈ wsX10_opens := by decide +kernel
  have hm4min : Cond.code Lib.Math.min.name Lib.Math.min.code 2 (some .int) ∈ wsX10_opens := by decide +kernel
  have lk44 : Cond.fieldLink RX10 44 "TributeFleetModel" "at" "[I" ∈ wsX10_opens := by decide +kernel
  have lk121 : Cond.fieldLink RX10 121 "TributeFleetModel" "reaches" "I" ∈ wsX10_opens := by decide +kernel
  have lk47 : Cond.fieldLink RX10 47 "TributeFleetModel" "came" "[I" ∈ wsX10_opens := by decide +kernel
  have lk56 : Cond.fieldLink RX10 56 "TributeFleetModel" "hasLeave" "[Z" ∈ wsX10_opens := by decide +kernel
  obtain ⟨q, hq⟩ : ∃ q, q = mTells S t (S 30 3) 0 0 2 := ⟨_, rfl⟩
  rw [← hq]
  obtain ⟨OPT, hO⟩ : ∃ z, opL nR n q k (ngo (goneS S k n) n + 1) (goneS S k n) (S 32 k) 0 = z := ⟨_, rfl⟩
  rw [hO]
  refine cv_of (cc := cX10_opens) (maxL := 6) (ret := none) (by decide +kernel) rfl (Nat.le_of_ble_eq_true rfl) ?_
  intro pv ev sv mv args below meth cv A C hrt9 hnm9
  have C : Cx pv sv mv args meth cv cX10_opens 6 RX10 wsX10_opens G A LL ad := C
  show XJ pv l ev _ sv mv args below meth cv G A LL ad _ 6 0 0 _ 0 [(0, .ref (ad 30)), (1, .int (nI k))] []
  refine x_aload_n C 0 dX10_opens_0 rfl rfl ?_
  refine x_get C (T := TX10) (N := 45) (v := .ref (ad 32)) 30 2 hin10 (hF 30 (by decide)) (pf_30 G nR ad _) rfl (by decide) lk13 rfl rfl dX10_opens_1 ?_
  refine x_iload_n C 1 dX10_opens_4 rfl rfl ?_
  refine x_iald C 32 (hF 32 (by decide)) (pf_32 G nR ad _) (nI_in (N := 11) (show k < 11 by omega) (by omega)) (kk := k) (nI_clamp (by omega)) dX10_opens_5 ?_
  refine x_istore_n C (L1 := [(2, .int (S 32 (k))), (0, .ref (ad 30)), (1, .int (nI k))]) dX10_opens_6 rfl (by decide) rfl ?_
  refine x_iconst C dX10_opens_7 (v := 0) (by decide) ?_
  refine x_istore_n C (L1 := [(3, .int 0), (2, .int (S 32 (k))), (0, .ref (ad 30)), (1, .int (nI k))]) dX10_opens_8 rfl (by decide) rfl ?_
  refine x_aload_n C 2 dX10_opens_9 rfl rfl ?_
  refine x_aload_n C 2 dX10_opens_10 rfl rfl ?_
  refine x_get C (T := TX10) (N := 45) (v := .int (S 30 3)) 30 3 hin10 (hF 30 (by decide)) (pf_30 G nR ad _) rfl (by decide) lk144 rfl rfl dX10_opens_11 ?_
  refine x_iconst C dX10_opens_14 (v := 0) (by decide) ?_
  refine x_iconst C dX10_opens_15 (v := 0) (by decide) ?_
  refine x_iconst C dX10_opens_16 (v := 2) (by decide) ?_
  refine x_Vi 30 C (k_X10_tells l G nR LL ad hF S (S 30 3) 0 0 2 t ht ht10 hst) gX10_opens_X10_tells rfl (by decide +kernel) ⟨(Nat.le_of_ble_eq_true rfl), (Nat.le_of_ble_eq_true rfl)⟩ ⟨(Nat.le_of_ble_eq_true rfl), (Nat.le_of_ble_eq_true rfl)⟩ (hF 30 (by decide)) (pf_30 G nR ad _) (T := TX10) (N := 45) rfl (n := 4) rfl (st := []) (Nat.le_of_ble_eq_true rfl) rfl dX10_opens_17 (fun _ _ hr9 => ?_)
  subst hr9
  rw [← hq]
  refine x_istore C (L1 := [(4, .int q), (3, .int 0), (2, .int (S 32 (k))), (0, .ref (ad 30)), (1, .int (nI k))]) dX10_opens_20 (by decide) rfl ?_
  refine x_iconst C dX10_opens_22 (v := 0) (by decide) ?_
  refine x_istore C (L1 := [(5, .int 0), (4, .int q), (3, .int 0), (2, .int (S 32 (k))), (0, .ref (ad 30)), (1, .int (nI k))]) dX10_opens_23 (by decide) rfl ?_
  have lp25 : ∀ (d9 : Nat) (i : Nat), (i ≤ n) → n - i < d9 → XJ pv l ev ({ frames := 2, cells := 0, slots := 0, locals := 50 } : Room) sv mv args below meth cv G A LL ad (MQ below (va_Qv (fun u => u = OPT) (tf_B G LL ad (pw G nR ad)) A) args sv 0 0 A) 6 0 0 (pw G nR ad (goneS S k i)) 25 [(0, .ref (ad 30)), (1, .int (nI k)), (2, .int (S 32 k)), (3, .int 0), (4, .int q), (5, .int (nI i))] [] := by
    intro d9
    induction d9 with
    | zero => intro i hin hd9; omega
    | succ d9 ih25 =>
      intro i hin hd9
      have ih := ih25
      refine x_iload C 5 dX10_opens_25 rfl ?_
      refine x_aload_n C 0 dX10_opens_27 rfl rfl ?_
      refine x_get C (T := TX10) (N := 45) (v := .int ((goneS S k i) 30 5)) 30 5 hin10 (hF 30 (by decide)) (pf_30 G nR ad _) rfl (by decide) lk128 rfl rfl dX10_opens_28 ?_
      refine x_icmp_ge C (tgt := 63) dX10_opens_31 (by decide) (fun c31 => ?_) (fun c31 => ?_)
      · skip
        have hge : i = n := by
          have : n ≤ i := nI_ge' (by rw [goneS_ne (by decide)] at c31; rw [← hz]; exact c31) (by omega)
          omega
        rw [hge]
        refine x_aload_n C 0 dX10_opens_63 rfl rfl ?_
        refine x_iload C 4 dX10_opens_64 rfl ?_
        refine x_Vi 30 C (k_X10_next l G nR LL ad hF (goneS S k n) q n (by rw [goneS_ne (by decide)]; exact hz) h12) gX10_opens_X10_next rfl (by decide +kernel) ⟨(Nat.le_of_ble_eq_true rfl), (Nat.le_of_ble_eq_true rfl)⟩ ⟨(Nat.le_of_ble_eq_true rfl), (Nat.le_of_ble_eq_true rfl)⟩ (hF 30 (by decide)) (pf_30 G nR ad _) (T := TX10) (N := 45) rfl (n := 1) rfl (st := []) (Nat.le_of_ble_eq_true rfl) rfl dX10_opens_66 (fun _ _ hr9 => ?_)
        subst hr9
        refine x_istore C (L1 := [(5, .int (mNext (goneS S k n) q n)), (0, .ref (ad 30)), (1, .int (nI k)), (2, .int (S 32 k)), (3, .int 0), (4, .int q)]) dX10_opens_69 (by decide) rfl ?_
        have lp71 : ∀ (d9 : Nat) (Z : tf_M) (lf w : Int32), (∀ x, opKeep x → Z x = S x) → (opL nR n q k (ngo Z n + 1) Z lf w = OPT) → ngo Z n - 0 < d9 → XJ pv l ev ({ frames := 2, cells := 0, slots := 0, locals := 50 } : Room) sv mv args below meth cv G A LL ad (MQ below (va_Qv (fun u => u = OPT) (tf_B G LL ad (pw G nR ad)) A) args sv 0 0 A) 6 0 0 (pw G nR ad Z) 71 [(0, .ref (ad 30)), (1, .int (nI k)), (2, .int lf), (3, .int w), (4, .int q), (5, .int (mNext Z q n))] [] := by
          intro d9
          induction d9 with
          | zero => intro Z lf w hkp e0 hd9; omega
          | succ d9 ih71 =>
            intro Z lf w hkp e0 hd9
            have ih := ih71
            have hz1 : Z 30 5 = nI n := by rw [hkp 30 (by unfold opKeep; decide)]; exact hz
            refine x_iload C 5 dX10_opens_71 rfl ?_
            refine x_iconst C dX10_opens_73 (v := -1) (by decide) ?_
            refine x_icmp_eq C (tgt := 311) dX10_opens_74 (by decide) (fun c74 => ?_) (fun c74 => ?_)
            · skip
              refine x_vret C hrt9 Z ?_ rfl dX10_opens_311
              show _ = _
              rw [← e0, opL, if_pos c74]
            · skip
              rcases mNext_zero (S := Z) (q := q) n with h9 | ⟨j, hj, hj9, hj0⟩
              · exact absurd h9 c74
              rw [hj9]
              refine x_aload_n C 0 dX10_opens_77 rfl rfl ?_
              refine x_get C (T := TX10) (N := 45) (v := .ref (ad 71)) 30 41 hin10 (hF 30 (by decide)) (pf_30 G nR ad _) rfl (by decide) lk100 rfl rfl dX10_opens_78 ?_
              refine x_iload C 5 dX10_opens_81 rfl ?_
              refine x_iconst C dX10_opens_83 (v := 1) (by decide) ?_
              refine y_zast C 71 (hF 71 (by decide)) (fun f => (pf_71 G nR ad f)) (nI_in (N := 12) (show j < 12 by omega) (by omega)) (kk := j) (nI_clamp (by omega)) dX10_opens_84 ?_
              refine x_aload_n C 0 dX10_opens_85 rfl rfl ?_
              refine x_get C (T := TX10) (N := 45) (v := .ref (ad 49)) 30 19 hin10 (hF 30 (by decide)) (pf_30 G nR ad _) rfl (by decide) lk50 rfl rfl dX10_opens_86 ?_
              refine x_iload C 5 dX10_opens_89 rfl ?_
              refine x_aload_n C 0 dX10_opens_91 rfl rfl ?_
              refine x_iload_n C 1 dX10_opens_92 rfl rfl ?_
              refine x_Vi 30 C (k_X10_hasIce l G nR LL ad hF (s2 Z 71 j (vp_nar .boolean 1)) (nI k)) gX10_opens_X10_hasIce rfl (by decide +kernel) ⟨(Nat.le_of_ble_eq_true rfl), (Nat.le_of_ble_eq_true rfl)⟩ ⟨(Nat.le_of_ble_eq_true rfl), (Nat.le_of_ble_eq_true rfl)⟩ (hF 30 (by decide)) (pf_30 G nR ad _) (T := TX10) (N := 45) rfl (n := 1) rfl (st := [.int (nI j), .ref (ad 49)]) (Nat.le_of_ble_eq_true rfl) rfl dX10_opens_93 (fun _ _ hr9 => ?_)
              subst hr9
              refine x_if_ne C (tgt := 109) dX10_opens_96 (by decide) (fun c96 => ?_) (fun c96 => ?_)
              · replace c96 := bI_nz c96
                refine x_iconst C dX10_opens_109 (v := 1) (by decide) ?_
                refine x_goto C (tgt := 172) dX10_opens_110 (by decide) ?_
                refine y_iast C 49 (hF 49 (by decide)) (fun f => (pf_49 G nR ad f)) (nI_in (N := 12) (show j < 12 by omega) (by omega)) (kk := j) (nI_clamp (by omega)) dX10_opens_172 ?_
                refine x_aload_n C 0 dX10_opens_173 rfl rfl ?_
                refine x_get C (T := TX10) (N := 45) (v := .ref (ad 49)) 30 19 hin10 (hF 30 (by decide)) (pf_30 G nR ad _) rfl (by decide) lk50 rfl rfl dX10_opens_174 ?_
                refine x_iload C 5 dX10_opens_177 rfl ?_
                refine x_iald C 49 (hF 49 (by decide)) (pf_49 G nR ad _) (nI_in (N := 12) (show j < 12 by omega) (by omega)) (kk := j) (nI_clamp (by omega)) dX10_opens_179 ?_
                refine x_top C (v2 := 1) s2_eq ?_
                refine x_if_eq C (tgt := 209) dX10_opens_180 (by decide) (fun c180 => ?_) (fun c180 => ?_)
                · exact absurd c180 (by decide)
                refine x_iconst C dX10_opens_183 (v := 1) (by decide) ?_
                refine x_istore_n C (L1 := [(3, .int 1), (0, .ref (ad 30)), (1, .int (nI k)), (2, .int lf), (4, .int q), (5, .int (nI j))]) dX10_opens_184 rfl (by decide) rfl ?_
                refine x_aload_n C 1 dX10_opens_185 rfl rfl ?_
                refine x_get C (T := TX10) (N := 45) (v := .ref (ad 53)) 30 23 hin10 (hF 30 (by decide)) (pf_30 G nR ad _) rfl (by decide) lk63 rfl rfl dX10_opens_186 ?_
                refine x_iconst C dX10_opens_189 (v := 5) (by decide) ?_
                refine x_iload C 5 dX10_opens_190 rfl ?_
                refine x_imul C dX10_opens_192 ?_
                refine x_aload_n C 1 dX10_opens_193 rfl rfl ?_
                refine x_get C (T := TX10) (N := 45) (v := .ref (ad 49)) 30 19 hin10 (hF 30 (by decide)) (pf_30 G nR ad _) rfl (by decide) lk50 rfl rfl dX10_opens_194 ?_
                refine x_iload C 5 dX10_opens_197 rfl ?_
                refine x_iald C 49 (hF 49 (by decide)) (pf_49 G nR ad _) (nI_in (N := 12) (show j < 12 by omega) (by omega)) (kk := j) (nI_clamp (by omega)) dX10_opens_199 ?_
                refine x_top C (v2 := 1) s2_eq ?_
                refine x_iadd C dX10_opens_200 ?_
                refine x_top C (v2 := nI (5 * j + 1)) (by rw [nI_ad, nI_ml]; rfl) ?_
                refine x_dup2 C dX10_opens_201 rfl rfl ?_
                refine x_iald C 53 (hF 53 (by decide)) (pf_53 G nR ad _) (nI_in (N := 60) (show 5 * j + 1 < 60 by omega) (by omega)) (kk := 5 * j + 1) (nI_clamp (by omega)) dX10_opens_202 ?_
                refine x_iconst C dX10_opens_203 (v := 1) (by decide) ?_
                refine x_iadd C dX10_opens_204 ?_
                refine y_iast C 53 (hF 53 (by decide)) (fun f => (pf_53 G nR ad f)) (nI_in (N := 60) (show 5 * j + 1 < 60 by omega) (by omega)) (kk := 5 * j + 1) (nI_clamp (by omega)) dX10_opens_205 ?_
                refine x_goto C (tgt := 300) dX10_opens_206 (by decide) ?_
                refine x_aload_n C 1 dX10_opens_300 rfl rfl ?_
                refine x_iload C 4 dX10_opens_301 rfl ?_
                refine x_Vi 30 C (k_X10_next l G nR LL ad hF (s2 (s2 (s2 Z 71 j (vp_nar .boolean 1)) 49 j 1) 53 (5 * j + 1) ((Z 53 (5 * j + 1)) + 1)) q n (by show Z 30 5 = nI n; exact hz1) h12) gX10_opens_X10_next rfl (by decide +kernel) ⟨(Nat.le_of_ble_eq_true rfl), (Nat.le_of_ble_eq_true rfl)⟩ ⟨(Nat.le_of_ble_eq_true rfl), (Nat.le_of_ble_eq_true rfl)⟩ (hF 30 (by decide)) (pf_30 G nR ad _) (T := TX10) (N := 45) rfl (n := 1) rfl (st := []) (Nat.le_of_ble_eq_true rfl) rfl dX10_opens_303 (fun _ _ hr9 => ?_)
                subst hr9
                refine x_istore C (L1 := [(5, .int (mNext (s2 (s2 (s2 Z 71 j (vp_nar .boolean 1)) 49 j 1) 53 (5 * j + 1) ((Z 53 (5 * j + 1)) + 1)) q n)), (3, .int 1), (0, .ref (ad 30)), (1, .int (nI k)), (2, .int lf), (4, .int q)]) dX10_opens_306 (by decide) rfl ?_
                refine x_goto C (tgt := 71) dX10_opens_308 (by decide) ?_
                refine x_sub [2, 3, 4, 1, 5, 0] (L1 := [(0, .ref (ad 30)), (1, .int (nI k)), (2, .int lf), (3, .int 1), (4, .int q), (5, .int (mNext (s2 (s2 (s2 Z 71 j (vp_nar .boolean 1)) 49 j 1) 53 (5 * j + 1) ((Z 53 (5 * j + 1)) + 1)) q n))]) rfl ?_
                have hb9 : mBar Z k j lf w = 1 := by simp [mBar, (show icy (Z 30 6) (Z 30 7) (nI k) (Z 30 3) = true from c96)]
                have e1 : opStep nR Z k lf w j = ((s2 (s2 (s2 Z 71 j (vp_nar .boolean 1)) 49 j 1) 53 (5 * j + 1) ((Z 53 (5 * j + 1)) + 1)), lf, 1) := by
                  rw [opStep, if_neg (by rw [hb9]; decide), hb9]
                  rfl
                have hng : ngo (opStep nR Z k lf w j).1 n + 1 = ngo Z n := ngo_put hj hj0 (by rw [opStep_71, s2_eq]) (fun i hi => by rw [opStep_71, s2_nk hi])
                have hkp1 : ∀ x, opKeep x → (opStep nR Z k lf w j).1 x = S x := fun x hx => by rw [opStep_ne hx, hkp x hx]
                have e2 : opL nR n q k (ngo (opStep nR Z k lf w j).1 n + 1) (opStep nR Z k lf w j).1 (opStep nR Z k lf w j).2.1 (opStep nR Z k lf w j).2.2 = OPT := by
                  rw [← e0, hng]
                  conv => rhs; rw [opL, if_neg (by rw [hj9]; exact nI_nm (by omega)), hj9, nI_clamp (by omega)]
                rw [e1] at hng hkp1 e2
                dsimp only at hng hkp1 e2
                exact ih _ _ _ hkp1 e2 (by omega)
              · replace c96 := bI_z c96
                refine x_aload_n C 0 dX10_opens_99 rfl rfl ?_
                refine x_iload_n C 1 dX10_opens_100 rfl rfl ?_
                refine x_iconst C dX10_opens_101 (v := 1) (by decide) ?_
                refine x_iadd C dX10_opens_102 ?_
                refine x_Vi 30 C (k_X10_hasIce l G nR LL ad hF (s2 Z 71 j (vp_nar .boolean 1)) ((nI k) + 1)) gX10_opens_X10_hasIce rfl (by decide +kernel) ⟨(Nat.le_of_ble_eq_true rfl), (Nat.le_of_ble_eq_true rfl)⟩ ⟨(Nat.le_of_ble_eq_true rfl), (Nat.le_of_ble_eq_true rfl)⟩ (hF 30 (by decide)) (pf_30 G nR ad _) (T := TX10) (N := 45) rfl (n := 1) rfl (st := [.int (nI j), .ref (ad 49)]) (Nat.le_of_ble_eq_true rfl) rfl dX10_opens_103 (fun _ _ hr9 => ?_)
                subst hr9
                refine x_if_eq C (tgt := 113) dX10_opens_106 (by decide) (fun c106 => ?_) (fun c106 => ?_)
                · replace c106 := bI_z c106
                  refine x_aload_n C 0 dX10_opens_113 rfl rfl ?_
                  refine x_get C (T := TX10) (N := 45) (v := .ref (ad 31)) 30 1 hin10 (hF 30 (by decide)) (pf_30 G nR ad _) rfl (by decide) lk7 rfl rfl dX10_opens_114 ?_
                  refine x_iload_n C 1 dX10_opens_117 rfl rfl ?_
                  refine x_iconst C dX10_opens_118 (v := 1) (by decide) ?_
                  refine x_iadd C dX10_opens_119 ?_
                  refine x_iald C 31 (hF 31 (by decide)) (pf_31 G nR ad _) (by rw [← nI_succ]; exact nI_in (N := 12) (show k + 1 < 12 by omega) (by decide)) (kk := k + 1) (by rw [← nI_succ]; exact nI_clamp (by omega)) dX10_opens_120 ?_
                  refine x_bipush C dX10_opens_121 (v := 20) (by decide) ?_
                  refine x_aload_n C 0 dX10_opens_123 rfl rfl ?_
                  refine x_get C (T := TX10) (N := 45) (v := .ref (ad 43)) 30 13 hin10 (hF 30 (by decide)) (pf_30 G nR ad _) rfl (by decide) lk32 rfl rfl dX10_opens_124 ?_
                  refine x_iload C 5 dX10_opens_127 rfl ?_
                  refine x_iald C 43 (hF 43 (by decide)) (pf_43 G nR ad _) (nI_in (N := 12) (show j < 12 by omega) (by omega)) (kk := j) (nI_clamp (by omega)) dX10_opens_129 ?_
                  refine x_iadd C dX10_opens_130 ?_
                  refine x_icmp_ge C (tgt := 138) dX10_opens_131 (by decide) (fun c131 => ?_) (fun c131 => ?_)
                  · skip
                    refine x_iload_n C 2 dX10_opens_138 rfl rfl ?_
                    refine x_aload_n C 0 dX10_opens_139 rfl rfl ?_
                    refine x_get C (T := TX10) (N := 45) (v := .ref (ad 43)) 30 13 hin10 (hF 30 (by decide)) (pf_30 G nR ad _) rfl (by decide) lk32 rfl rfl dX10_opens_140 ?_
                    refine x_iload C 5 dX10_opens_143 rfl ?_
                    refine x_iald C 43 (hF 43 (by decide)) (pf_43 G nR ad _) (nI_in (N := 12) (show j < 12 by omega) (by omega)) (kk := j) (nI_clamp (by omega)) dX10_opens_145 ?_
                    refine x_icmp_ge C (tgt := 153) dX10_opens_146 (by decide) (fun c146 => ?_) (fun c146 => ?_)
                    · skip
                      refine x_iload_n C 3 dX10_opens_153 rfl rfl ?_
                      refine x_if_eq C (tgt := 171) dX10_opens_154 (by decide) (fun c154 => ?_) (fun c154 => ?_)
                      · skip
                        refine x_iconst C dX10_opens_171 (v := 0) (by decide) ?_
                        refine y_iast C 49 (hF 49 (by decide)) (fun f => (pf_49 G nR ad f)) (nI_in (N := 12) (show j < 12 by omega) (by omega)) (kk := j) (nI_clamp (by omega)) dX10_opens_172 ?_
                        refine x_aload_n C 0 dX10_opens_173 rfl rfl ?_
                        refine x_get C (T := TX10) (N := 45) (v := .ref (ad 49)) 30 19 hin10 (hF 30 (by decide)) (pf_30 G nR ad _) rfl (by decide) lk50 rfl rfl dX10_opens_174 ?_
                        refine x_iload C 5 dX10_opens_177 rfl ?_
                        refine x_iald C 49 (hF 49 (by decide)) (pf_49 G nR ad _) (nI_in (N := 12) (show j < 12 by omega) (by omega)) (kk := j) (nI_clamp (by omega)) dX10_opens_179 ?_
                        refine x_top C (v2 := 0) s2_eq ?_
                        refine x_if_eq C (tgt := 209) dX10_opens_180 (by decide) (fun c180 => ?_) (fun c180 => ?_)
                        rotate_left
                        · exact absurd (by decide) c180
                        refine x_iload_n C 2 dX10_opens_209 rfl rfl ?_
                        refine x_aload_n C 0 dX10_opens_210 rfl rfl ?_
                        refine x_get C (T := TX10) (N := 45) (v := .ref (ad 43)) 30 13 hin10 (hF 30 (by decide)) (pf_30 G nR ad _) rfl (by decide) lk32 rfl rfl dX10_opens_211 ?_
                        refine x_iload C 5 dX10_opens_214 rfl ?_
                        refine x_iald C 43 (hF 43 (by decide)) (pf_43 G nR ad _) (nI_in (N := 12) (show j < 12 by omega) (by omega)) (kk := j) (nI_clamp (by omega)) dX10_opens_216 ?_
                        refine x_isub C dX10_opens_217 ?_
                        refine x_istore_n C (L1 := [(2, .int (lf - (Z 43 (j)))), (0, .ref (ad 30)), (1, .int (nI k)), (3, .int w), (4, .int q), (5, .int (nI j))]) dX10_opens_218 rfl (by decide) rfl ?_
                        refine x_aload_n C 1 dX10_opens_219 rfl rfl ?_
                        refine x_get C (T := TX10) (N := 45) (v := .ref (ad 31)) 30 1 hin10 (hF 30 (by decide)) (pf_30 G nR ad _) rfl (by decide) lk7 rfl rfl dX10_opens_220 ?_
                        refine x_iload_n C 2 dX10_opens_223 rfl rfl ?_
                        refine x_iconst C dX10_opens_224 (v := 1) (by decide) ?_
                        refine x_iadd C dX10_opens_225 ?_
                        refine x_dup2 C dX10_opens_226 rfl rfl ?_
                        refine x_iald C 31 (hF 31 (by decide)) (pf_31 G nR ad _) (by rw [← nI_succ]; exact nI_in (N := 12) (show k + 1 < 12 by omega) (by decide)) (kk := k + 1) (by rw [← nI_succ]; exact nI_clamp (by omega)) dX10_opens_227 ?_
                        refine x_aload_n C 1 dX10_opens_228 rfl rfl ?_
                        refine x_get C (T := TX10) (N := 45) (v := .ref (ad 43)) 30 13 hin10 (hF 30 (by decide)) (pf_30 G nR ad _) rfl (by decide) lk32 rfl rfl dX10_opens_229 ?_
                        refine x_iload C 5 dX10_opens_232 rfl ?_
                        refine x_iald C 43 (hF 43 (by decide)) (pf_43 G nR ad _) (nI_in (N := 12) (show j < 12 by omega) (by omega)) (kk := j) (nI_clamp (by omega)) dX10_opens_234 ?_
                        refine x_isub C dX10_opens_235 ?_
                        refine y_iast C 31 (hF 31 (by decide)) (fun f => (pf_31 G nR ad f)) (by rw [← nI_succ]; exact nI_in (N := 12) (show k + 1 < 12 by omega) (by decide)) (kk := k + 1) (by rw [← nI_succ]; exact nI_clamp (by omega)) dX10_opens_236 ?_
                        refine x_aload_n C 1 dX10_opens_237 rfl rfl ?_
                        refine x_get C (T := TX10) (N := 45) (v := .ref (ad 31)) 30 1 hin10 (hF 30 (by decide)) (pf_30 G nR ad _) rfl (by decide) lk7 rfl rfl dX10_opens_238 ?_
                        refine x_iload_n C 2 dX10_opens_241 rfl rfl ?_
                        refine x_sipush C dX10_opens_242 (v := 1000) (by decide) ?_
                        refine x_aload_n C 1 dX10_opens_245 rfl rfl ?_
                        refine x_get C (T := TX10) (N := 45) (v := .ref (ad 31)) 30 1 hin10 (hF 30 (by decide)) (pf_30 G nR ad _) rfl (by decide) lk7 rfl rfl dX10_opens_246 ?_
                        refine x_iload_n C 2 dX10_opens_249 rfl rfl ?_
                        refine x_iald C 31 (hF 31 (by decide)) (pf_31 G nR ad _) (nI_in (N := 12) (show k < 12 by omega) (by omega)) (kk := k) (nI_clamp (by omega)) dX10_opens_250 ?_
                        refine x_aload_n C 1 dX10_opens_251 rfl rfl ?_
                        refine x_get C (T := TX10) (N := 45) (v := .ref (ad 43)) 30 13 hin10 (hF 30 (by decide)) (pf_30 G nR ad _) rfl (by decide) lk32 rfl rfl dX10_opens_252 ?_
                        refine x_iload C 5 dX10_opens_255 rfl ?_
                        refine x_iald C 43 (hF 43 (by decide)) (pf_43 G nR ad _) (nI_in (N := 12) (show j < 12 by omega) (by omega)) (kk := j) (nI_clamp (by omega)) dX10_opens_257 ?_
                        refine x_iadd C dX10_opens_258 ?_
                        refine x_mmin C hm1min hm2min hm3 hm4min (Nat.le_of_ble_eq_true rfl) (Nat.le_of_ble_eq_true rfl) (Nat.le_of_ble_eq_true rfl) (Nat.le_of_ble_eq_true rfl) dX10_opens_259 ?_
                        refine y_iast C 31 (hF 31 (by decide)) (fun f => (pf_31 G nR ad f)) (nI_in (N := 12) (show k < 12 by omega) (by omega)) (kk := k) (nI_clamp (by omega)) dX10_opens_262 ?_
                        refine x_aload_n C 1 dX10_opens_263 rfl rfl ?_
                        refine x_get C (T := TX10) (N := 45) (v := .ref (ad 47)) 30 17 hin10 (hF 30 (by decide)) (pf_30 G nR ad _) rfl (by decide) lk44 rfl rfl dX10_opens_264 ?_
                        refine x_iload C 5 dX10_opens_267 rfl ?_
                        refine x_iload_n C 2 dX10_opens_269 rfl rfl ?_
                        refine x_iconst C dX10_opens_270 (v := 1) (by decide) ?_
                        refine x_iadd C dX10_opens_271 ?_
                        refine y_iast C 47 (hF 47 (by decide)) (fun f => (pf_47 G nR ad f)) (nI_in (N := 12) (show j < 12 by omega) (by omega)) (kk := j) (nI_clamp (by omega)) dX10_opens_272 ?_
                        refine x_aload_n C 1 dX10_opens_273 rfl rfl ?_
                        refine x_get C (T := TX10) (N := 45) (v := .ref (ad 47)) 30 17 hin10 (hF 30 (by decide)) (pf_30 G nR ad _) rfl (by decide) lk44 rfl rfl dX10_opens_274 ?_
                        refine x_iload C 5 dX10_opens_277 rfl ?_
                        refine x_iald C 47 (hF 47 (by decide)) (pf_47 G nR ad _) (nI_in (N := 12) (show j < 12 by omega) (by omega)) (kk := j) (nI_clamp (by omega)) dX10_opens_279 ?_
                        refine x_aload_n C 1 dX10_opens_280 rfl rfl ?_
                        refine x_get C (T := TX10) (N := 45) (v := .int (Z 30 0)) 30 0 hin10 (hF 30 (by decide)) (pf_30 G nR ad _) rfl (by decide) lk121 rfl rfl dX10_opens_281 ?_
                        refine x_iconst C dX10_opens_284 (v := 1) (by decide) ?_
                        refine x_isub C dX10_opens_285 ?_
                        refine x_top2 C (v2 := nI k + 1) s2_eq ?_
                        refine x_top C (v2 := nI nR - 1) (by show Z 30 0 - 1 = _; rw [hkp 30 (by unfold opKeep; decide), hn]) ?_
                        refine x_icmp_ne C (tgt := 300) dX10_opens_286 (by decide) (fun c286 => ?_) (fun c286 => ?_)
                        · skip
                          refine x_aload_n C 1 dX10_opens_300 rfl rfl ?_
                          refine x_iload C 4 dX10_opens_301 rfl ?_
                          refine x_Vi 30 C (k_X10_next l G nR LL ad hF (s2 (s2 (s2 (s2 (s2 Z 71 j (vp_nar .boolean 1)) 49 j 0) 31 (k + 1) ((Z 31 (k + 1)) - (Z 43 (j)))) 31 k (if ((s2 (s2 (s2 Z 71 j (vp_nar .boolean 1)) 49 j 0) 31 (k + 1) ((Z 31 (k + 1)) - (Z 43 (j)))) 31 (k)) + (Z 43 (j)) < 1000 then ((s2 (s2 (s2 Z 71 j (vp_nar .boolean 1)) 49 j 0) 31 (k + 1) ((Z 31 (k + 1)) - (Z 43 (j)))) 31 (k)) + (Z 43 (j)) else 1000)) 47 j ((nI k) + 1)) q n (by show Z 30 5 = nI n; exact hz1) h12) gX10_opens_X10_next rfl (by decide +kernel) ⟨(Nat.le_of_ble_eq_true rfl), (Nat.le_of_ble_eq_true rfl)⟩ ⟨(Nat.le_of_ble_eq_true rfl), (Nat.le_of_ble_eq_true rfl)⟩ (hF 30 (by decide)) (pf_30 G nR ad _) (T := TX10) (N := 45) rfl (n := 1) rfl (st := []) (Nat.le_of_ble_eq_true rfl) rfl dX10_opens_303 (fun _ _ hr9 => ?_)
                          subst hr9
                          refine x_istore C (L1 := [(5, .int (mNext (s2 (s2 (s2 (s2 (s2 Z 71 j (vp_nar .boolean 1)) 49 j 0) 31 (k + 1) ((Z 31 (k + 1)) - (Z 43 (j)))) 31 k (if ((s2 (s2 (s2 Z 71 j (vp_nar .boolean 1)) 49 j 0) 31 (k + 1) ((Z 31 (k + 1)) - (Z 43 (j)))) 31 (k)) + (Z 43 (j)) < 1000 then ((s2 (s2 (s2 Z 71 j (vp_nar .boolean 1)) 49 j 0) 31 (k + 1) ((Z 31 (k + 1)) - (Z 43 (j)))) 31 (k)) + (Z 43 (j)) else 1000)) 47 j ((nI k) + 1)) q n)), (2, .int (lf - (Z 43 (j)))), (0, .ref (ad 30)), (1, .int (nI k)), (3, .int w), (4, .int q)]) dX10_opens_306 (by decide) rfl ?_
                          refine x_goto C (tgt := 71) dX10_opens_308 (by decide) ?_
                          refine x_sub [2, 3, 1, 4, 5, 0] (L1 := [(0, .ref (ad 30)), (1, .int (nI k)), (2, .int (lf - (Z 43 (j)))), (3, .int w), (4, .int q), (5, .int (mNext (s2 (s2 (s2 (s2 (s2 Z 71 j (vp_nar .boolean 1)) 49 j 0) 31 (k + 1) ((Z 31 (k + 1)) - (Z 43 (j)))) 31 k (if ((s2 (s2 (s2 Z 71 j (vp_nar .boolean 1)) 49 j 0) 31 (k + 1) ((Z 31 (k + 1)) - (Z 43 (j)))) 31 (k)) + (Z 43 (j)) < 1000 then ((s2 (s2 (s2 Z 71 j (vp_nar .boolean 1)) 49 j 0) 31 (k + 1) ((Z 31 (k + 1)) - (Z 43 (j)))) 31 (k)) + (Z 43 (j)) else 1000)) 47 j ((nI k) + 1)) q n))]) rfl ?_
                          have hb9 : mBar Z k j lf w = 0 := by simp [mBar, (show icy (Z 30 6) (Z 30 7) (nI k) (Z 30 3) = false from c96), (show icy (Z 30 6) (Z 30 7) (nI k + 1) (Z 30 3) = false from c106), (show ¬ Z 31 (k + 1) < 20 + Z 43 j from Int32.not_lt.mpr c131), (show ¬ lf < Z 43 j from Int32.not_lt.mpr c146), (show w = 0 from c154)]
                          have e1 : opStep nR Z k lf w j = ((s2 (s2 (s2 (s2 (s2 Z 71 j (vp_nar .boolean 1)) 49 j 0) 31 (k + 1) ((Z 31 (k + 1)) - (Z 43 (j)))) 31 k (if ((s2 (s2 (s2 Z 71 j (vp_nar .boolean 1)) 49 j 0) 31 (k + 1) ((Z 31 (k + 1)) - (Z 43 (j)))) 31 (k)) + (Z 43 (j)) < 1000 then ((s2 (s2 (s2 Z 71 j (vp_nar .boolean 1)) 49 j 0) 31 (k + 1) ((Z 31 (k + 1)) - (Z 43 (j)))) 31 (k)) + (Z 43 (j)) else 1000)) 47 j ((nI k) + 1)), lf - (Z 43 (j)), w) := by
                            rw [opStep, if_pos hb9, if_neg c286]
                            rfl
                          have hng : ngo (opStep nR Z k lf w j).1 n + 1 = ngo Z n := ngo_put hj hj0 (by rw [opStep_71, s2_eq]) (fun i hi => by rw [opStep_71, s2_nk hi])
                          have hkp1 : ∀ x, opKeep x → (opStep nR Z k lf w j).1 x = S x := fun x hx => by rw [opStep_ne hx, hkp x hx]
                          have e2 : opL nR n q k (ngo (opStep nR Z k lf w j).1 n + 1) (opStep nR Z k lf w j).1 (opStep nR Z k lf w j).2.1 (opStep nR Z k lf w j).2.2 = OPT := by
                            rw [← e0, hng]
                            conv => rhs; rw [opL, if_neg (by rw [hj9]; exact nI_nm (by omega)), hj9, nI_clamp (by omega)]
                          rw [e1] at hng hkp1 e2
                          dsimp only at hng hkp1 e2
                          exact ih _ _ _ hkp1 e2 (by omega)
                        · skip
                          refine x_aload_n C 1 dX10_opens_289 rfl rfl ?_
                          refine x_get C (T := TX10) (N := 45) (v := .ref (ad 48)) 30 18 hin10 (hF 30 (by decide)) (pf_30 G nR ad _) rfl (by decide) lk47 rfl rfl dX10_opens_290 ?_
                          refine x_iload C 5 dX10_opens_293 rfl ?_
                          refine x_aload_n C 1 dX10_opens_295 rfl rfl ?_
                          refine x_get C (T := TX10) (N := 45) (v := .int (Z 30 3)) 30 3 hin10 (hF 30 (by decide)) (pf_30 G nR ad _) rfl (by decide) lk144 rfl rfl dX10_opens_296 ?_
                          refine y_iast C 48 (hF 48 (by decide)) (fun f => (pf_48 G nR ad f)) (nI_in (N := 12) (show j < 12 by omega) (by omega)) (kk := j) (nI_clamp (by omega)) dX10_opens_299 ?_
                          refine x_aload_n C 1 dX10_opens_300 rfl rfl ?_
                          refine x_iload C 4 dX10_opens_301 rfl ?_
                          refine x_Vi 30 C (k_X10_next l G nR LL ad hF (s2 (s2 (s2 (s2 (s2 (s2 Z 71 j (vp_nar .boolean 1)) 49 j 0) 31 (k + 1) ((Z 31 (k + 1)) - (Z 43 (j)))) 31 k (if ((s2 (s2 (s2 Z 71 j (vp_nar .boolean 1)) 49 j 0) 31 (k + 1) ((Z 31 (k + 1)) - (Z 43 (j)))) 31 (k)) + (Z 43 (j)) < 1000 then ((s2 (s2 (s2 Z 71 j (vp_nar .boolean 1)) 49 j 0) 31 (k + 1) ((Z 31 (k + 1)) - (Z 43 (j)))) 31 (k)) + (Z 43 (j)) else 1000)) 47 j ((nI k) + 1)) 48 j (Z 30 3)) q n (by show Z 30 5 = nI n; exact hz1) h12) gX10_opens_X10_next rfl (by decide +kernel) ⟨(Nat.le_of_ble_eq_true rfl), (Nat.le_of_ble_eq_true rfl)⟩ ⟨(Nat.le_of_ble_eq_true rfl), (Nat.le_of_ble_eq_true rfl)⟩ (hF 30 (by decide)) (pf_30 G nR ad _) (T := TX10) (N := 45) rfl (n := 1) rfl (st := []) (Nat.le_of_ble_eq_true rfl) rfl dX10_opens_303 (fun _ _ hr9 => ?_)
                          subst hr9
                          refine x_istore C (L1 := [(5, .int (mNext (s2 (s2 (s2 (s2 (s2 (s2 Z 71 j (vp_nar .boolean 1)) 49 j 0) 31 (k + 1) ((Z 31 (k + 1)) - (Z 43 (j)))) 31 k (if ((s2 (s2 (s2 Z 71 j (vp_nar .boolean 1)) 49 j 0) 31 (k + 1) ((Z 31 (k + 1)) - (Z 43 (j)))) 31 (k)) + (Z 43 (j)) < 1000 then ((s2 (s2 (s2 Z 71 j (vp_nar .boolean 1)) 49 j 0) 31 (k + 1) ((Z 31 (k + 1)) - (Z 43 (j)))) 31 (k)) + (Z 43 (j)) else 1000)) 47 j ((nI k) + 1)) 48 j (Z 30 3)) q n)), (2, .int (lf - (Z 43 (j)))), (0, .ref (ad 30)), (1, .int (nI k)), (3, .int w), (4, .int q)]) dX10_opens_306 (by decide) rfl ?_
                          refine x_goto C (tgt := 71) dX10_opens_308 (by decide) ?_
                          refine x_sub [2, 3, 1, 4, 5, 0] (L1 := [(0, .ref (ad 30)), (1, .int (nI k)), (2, .int (lf - (Z 43 (j)))), (3, .int w), (4, .int q), (5, .int (mNext (s2 (s2 (s2 (s2 (s2 (s2 Z 71 j (vp_nar .boolean 1)) 49 j 0) 31 (k + 1) ((Z 31 (k + 1)) - (Z 43 (j)))) 31 k (if ((s2 (s2 (s2 Z 71 j (vp_nar .boolean 1)) 49 j 0) 31 (k + 1) ((Z 31 (k + 1)) - (Z 43 (j)))) 31 (k)) + (Z 43 (j)) < 1000 then ((s2 (s2 (s2 Z 71 j (vp_nar .boolean 1)) 49 j 0) 31 (k + 1) ((Z 31 (k + 1)) - (Z 43 (j)))) 31 (k)) + (Z 43 (j)) else 1000)) 47 j ((nI k) + 1)) 48 j (Z 30 3)) q n))]) rfl ?_
                          have hb9 : mBar Z k j lf w = 0 := by simp [mBar, (show icy (Z 30 6) (Z 30 7) (nI k) (Z 30 3) = false from c96), (show icy (Z 30 6) (Z 30 7) (nI k + 1) (Z 30 3) = false from c106), (show ¬ Z 31 (k + 1) < 20 + Z 43 j from Int32.not_lt.mpr c131), (show ¬ lf < Z 43 j from Int32.not_lt.mpr c146), (show w = 0 from c154)]
                          have e1 : opStep nR Z k lf w j = ((s2 (s2 (s2 (s2 (s2 (s2 Z 71 j (vp_nar .boolean 1)) 49 j 0) 31 (k + 1) ((Z 31 (k + 1)) - (Z 43 (j)))) 31 k (if ((s2 (s2 (s2 Z 71 j (vp_nar .boolean 1)) 49 j 0) 31 (k + 1) ((Z 31 (k + 1)) - (Z 43 (j)))) 31 (k)) + (Z 43 (j)) < 1000 then ((s2 (s2 (s2 Z 71 j (vp_nar .boolean 1)) 49 j 0) 31 (k + 1) ((Z 31 (k + 1)) - (Z 43 (j)))) 31 (k)) + (Z 43 (j)) else 1000)) 47 j ((nI k) + 1)) 48 j (Z 30 3)), lf - (Z 43 (j)), w) := by
                            rw [opStep, if_pos hb9, if_pos c286]
                            rfl
                          have hng : ngo (opStep nR Z k lf w j).1 n + 1 = ngo Z n := ngo_put hj hj0 (by rw [opStep_71, s2_eq]) (fun i hi => by rw [opStep_71, s2_nk hi])
                          have hkp1 : ∀ x, opKeep x → (opStep nR Z k lf w j).1 x = S x := fun x hx => by rw [opStep_ne hx, hkp x hx]
                          have e2 : opL nR n q k (ngo (opStep nR Z k lf w j).1 n + 1) (opStep nR Z k lf w j).1 (opStep nR Z k lf w j).2.1 (opStep nR Z k lf w j).2.2 = OPT := by
                            rw [← e0, hng]
                            conv => rhs; rw [opL, if_neg (by rw [hj9]; exact nI_nm (by omega)), hj9, nI_clamp (by omega)]
                          rw [e1] at hng hkp1 e2
                          dsimp only at hng hkp1 e2
                          exact ih _ _ _ hkp1 e2 (by omega)
                      · skip
                        refine x_aload_n C 0 dX10_opens_157 rfl rfl ?_
                        refine x_get C (T := TX10) (N := 45) (v := .ref (ad 51)) 30 21 hin10 (hF 30 (by decide)) (pf_30 G nR ad _) rfl (by decide) lk56 rfl rfl dX10_opens_158 ?_
                        refine x_iload C 5 dX10_opens_161 rfl ?_
                        refine x_zald C 51 (hF 51 (by decide)) (pf_51 G nR ad _) (nI_in (N := 12) (show j < 12 by omega) (by omega)) (kk := j) (nI_clamp (by omega)) dX10_opens_163 ?_
                        refine x_if_ne C (tgt := 171) dX10_opens_164 (by decide) (fun c164 => ?_) (fun c164 => ?_)
                        · skip
                          refine x_iconst C dX10_opens_171 (v := 0) (by decide) ?_
                          refine y_iast C 49 (hF 49 (by decide)) (fun f => (pf_49 G nR ad f)) (nI_in (N := 12) (show j < 12 by omega) (by omega)) (kk := j) (nI_clamp (by omega)) dX10_opens_172 ?_
                          refine x_aload_n C 0 dX10_opens_173 rfl rfl ?_
                          refine x_get C (T := TX10) (N := 45) (v := .ref (ad 49)) 30 19 hin10 (hF 30 (by decide)) (pf_30 G nR ad _) rfl (by decide) lk50 rfl rfl dX10_opens_174 ?_
                          refine x_iload C 5 dX10_opens_177 rfl ?_
                          refine x_iald C 49 (hF 49 (by decide)) (pf_49 G nR ad _) (nI_in (N := 12) (show j < 12 by omega) (by omega)) (kk := j) (nI_clamp (by omega)) dX10_opens_179 ?_
                          refine x_top C (v2 := 0) s2_eq ?_
                          refine x_if_eq C (tgt := 209) dX10_opens_180 (by decide) (fun c180 => ?_) (fun c180 => ?_)
                          rotate_left
                          · exact absurd (by decide) c180
                          refine x_iload_n C 2 dX10_opens_209 rfl rfl ?_
                          refine x_aload_n C 0 dX10_opens_210 rfl rfl ?_
                          refine x_get C (T := TX10) (N := 45) (v := .ref (ad 43)) 30 13 hin10 (hF 30 (by decide)) (pf_30 G nR ad _) rfl (by decide) lk32 rfl rfl dX10_opens_211 ?_
                          refine x_iload C 5 dX10_opens_214 rfl ?_
                          refine x_iald C 43 (hF 43 (by decide)) (pf_43 G nR ad _) (nI_in (N := 12) (show j < 12 by omega) (by omega)) (kk := j) (nI_clamp (by omega)) dX10_opens_216 ?_
                          refine x_isub C dX10_opens_217 ?_
                          refine x_istore_n C (L1 := [(2, .int (lf - (Z 43 (j)))), (0, .ref (ad 30)), (1, .int (nI k)), (3, .int w), (4, .int q), (5, .int (nI j))]) dX10_opens_218 rfl (by decide) rfl ?_
                          refine x_aload_n C 1 dX10_opens_219 rfl rfl ?_
                          refine x_get C (T := TX10) (N := 45) (v := .ref (ad 31)) 30 1 hin10 (hF 30 (by decide)) (pf_30 G nR ad _) rfl (by decide) lk7 rfl rfl dX10_opens_220 ?_
                          refine x_iload_n C 2 dX10_opens_223 rfl rfl ?_
                          refine x_iconst C dX10_opens_224 (v := 1) (by decide) ?_
                          refine x_iadd C dX10_opens_225 ?_
                          refine x_dup2 C dX10_opens_226 rfl rfl ?_
                          refine x_iald C 31 (hF 31 (by decide)) (pf_31 G nR ad _) (by rw [← nI_succ]; exact nI_in (N := 12) (show k + 1 < 12 by omega) (by decide)) (kk := k + 1) (by rw [← nI_succ]; exact nI_clamp (by omega)) dX10_opens_227 ?_
                          refine x_aload_n C 1 dX10_opens_228 rfl rfl ?_
                          refine x_get C (T := TX10) (N := 45) (v := .ref (ad 43)) 30 13 hin10 (hF 30 (by decide)) (pf_30 G nR ad _) rfl (by decide) lk32 rfl rfl dX10_opens_229 ?_
                          refine x_iload C 5 dX10_opens_232 rfl ?_
                          refine x_iald C 43 (hF 43 (by decide)) (pf_43 G nR ad _) (nI_in (N := 12) (show j < 12 by omega) (by omega)) (kk := j) (nI_clamp (by omega)) dX10_opens_234 ?_
                          refine x_isub C dX10_opens_235 ?_
                          refine y_iast C 31 (hF 31 (by decide)) (fun f => (pf_31 G nR ad f)) (by rw [← nI_succ]; exact nI_in (N := 12) (show k + 1 < 12 by omega) (by decide)) (kk := k + 1) (by rw [← nI_succ]; exact nI_clamp (by omega)) dX10_opens_236 ?_
                          refine x_aload_n C 1 dX10_opens_237 rfl rfl ?_
                          refine x_get C (T := TX10) (N := 45) (v := .ref (ad 31)) 30 1 hin10 (hF 30 (by decide)) (pf_30 G nR ad _) rfl (by decide) lk7 rfl rfl dX10_opens_238 ?_
                          refine x_iload_n C 2 dX10_opens_241 rfl rfl ?_
                          refine x_sipush C dX10_opens_242 (v := 1000) (by decide) ?_
                          refine x_aload_n C 1 dX10_opens_245 rfl rfl ?_
                          refine x_get C (T := TX10) (N := 45) (v := .ref (ad 31)) 30 1 hin10 (hF 30 (by decide)) (pf_30 G nR ad _) rfl (by decide) lk7 rfl rfl dX10_opens_246 ?_
                          refine x_iload_n C 2 dX10_opens_249 rfl rfl ?_
                          refine x_iald C 31 (hF 31 (by decide)) (pf_31 G nR ad _) (nI_in (N := 12) (show k < 12 by omega) (by omega)) (kk := k) (nI_clamp (by omega)) dX10_opens_250 ?_
                          refine x_aload_n C 1 dX10_opens_251 rfl rfl ?_
                          refine x_get C (T := TX10) (N := 45) (v := .ref (ad 43)) 30 13 hin10 (hF 30 (by decide)) (pf_30 G nR ad _) rfl (by decide) lk32 rfl rfl dX10_opens_252 ?_
                          refine x_iload C 5 dX10_opens_255 rfl ?_
                          refine x_iald C 43 (hF 43 (by decide)) (pf_43 G nR ad _) (nI_in (N := 12) (show j < 12 by omega) (by omega)) (kk := j) (nI_clamp (by omega)) dX10_opens_257 ?_
                          refine x_iadd C dX10_opens_258 ?_
                          refine x_mmin C hm1min hm2min hm3 hm4min (Nat.le_of_ble_eq_true rfl) (Nat.le_of_ble_eq_true rfl) (Nat.le_of_ble_eq_true rfl) (Nat.le_of_ble_eq_true rfl) dX10_opens_259 ?_
                          refine y_iast C 31 (hF 31 (by decide)) (fun f => (pf_31 G nR ad f)) (nI_in (N := 12) (show k < 12 by omega) (by omega)) (kk := k) (nI_clamp (by omega)) dX10_opens_262 ?_
                          refine x_aload_n C 1 dX10_opens_263 rfl rfl ?_
                          refine x_get C (T := TX10) (N := 45) (v := .ref (ad 47)) 30 17 hin10 (hF 30 (by decide)) (pf_30 G nR ad _) rfl (by decide) lk44 rfl rfl dX10_opens_264 ?_
                          refine x_iload C 5 dX10_opens_267 rfl ?_
                          refine x_iload_n C 2 dX10_opens_269 rfl rfl ?_
                          refine x_iconst C dX10_opens_270 (v := 1) (by decide) ?_
                          refine x_iadd C dX10_opens_271 ?_
                          refine y_iast C 47 (hF 47 (by decide)) (fun f => (pf_47 G nR ad f)) (nI_in (N := 12) (show j < 12 by omega) (by omega)) (kk := j) (nI_clamp (by omega)) dX10_opens_272 ?_
                          refine x_aload_n C 1 dX10_opens_273 rfl rfl ?_
                          refine x_get C (T := TX10) (N := 45) (v := .ref (ad 47)) 30 17 hin10 (hF 30 (by decide)) (pf_30 G nR ad _) rfl (by decide) lk44 rfl rfl dX10_opens_274 ?_
                          refine x_iload C 5 dX10_opens_277 rfl ?_
                          refine x_iald C 47 (hF 47 (by decide)) (pf_47 G nR ad _) (nI_in (N := 12) (show j < 12 by omega) (by omega)) (kk := j) (nI_clamp (by omega)) dX10_opens_279 ?_
                          refine x_aload_n C 1 dX10_opens_280 rfl rfl ?_
                          refine x_get C (T := TX10) (N := 45) (v := .int (Z 30 0)) 30 0 hin10 (hF 30 (by decide)) (pf_30 G nR ad _) rfl (by decide) lk121 rfl rfl dX10_opens_281 ?_
                          refine x_iconst C dX10_opens_284 (v := 1) (by decide) ?_
                          refine x_isub C dX10_opens_285 ?_
                          refine x_top2 C (v2 := nI k + 1) s2_eq ?_
                          refine x_top C (v2 := nI nR - 1) (by show Z 30 0 - 1 = _; rw [hkp 30 (by unfold opKeep; decide), hn]) ?_
                          refine x_icmp_ne C (tgt := 300) dX10_opens_286 (by decide) (fun c286 => ?_) (fun c286 => ?_)
                          · skip
                            refine x_aload_n C 1 dX10_opens_300 rfl rfl ?_
                            refine x_iload C 4 dX10_opens_301 rfl ?_
                            refine x_Vi 30 C (k_X10_next l G nR LL ad hF (s2 (s2 (s2 (s2 (s2 Z 71 j (vp_nar .boolean 1)) 49 j 0) 31 (k + 1) ((Z 31 (k + 1)) - (Z 43 (j)))) 31 k (if ((s2 (s2 (s2 Z 71 j (vp_nar .boolean 1)) 49 j 0) 31 (k + 1) ((Z 31 (k + 1)) - (Z 43 (j)))) 31 (k)) + (Z 43 (j)) < 1000 then ((s2 (s2 (s2 Z 71 j (vp_nar .boolean 1)) 49 j 0) 31 (k + 1) ((Z 31 (k + 1)) - (Z 43 (j)))) 31 (k)) + (Z 43 (j)) else 1000)) 47 j ((nI k) + 1)) q n (by show Z 30 5 = nI n; exact hz1) h12) gX10_opens_X10_next rfl (by decide +kernel) ⟨(Nat.le_of_ble_eq_true rfl), (Nat.le_of_ble_eq_true rfl)⟩ ⟨(Nat.le_of_ble_eq_true rfl), (Nat.le_of_ble_eq_true rfl)⟩ (hF 30 (by decide)) (pf_30 G nR ad _) (T := TX10) (N := 45) rfl (n := 1) rfl (st := []) (Nat.le_of_ble_eq_true rfl) rfl dX10_opens_303 (fun _ _ hr9 => ?_)
                            subst hr9
                            refine x_istore C (L1 := [(5, .int (mNext (s2 (s2 (s2 (s2 (s2 Z 71 j (vp_nar .boolean 1)) 49 j 0) 31 (k + 1) ((Z 31 (k + 1)) - (Z 43 (j)))) 31 k (if ((s2 (s2 (s2 Z 71 j (vp_nar .boolean 1)) 49 j 0) 31 (k + 1) ((Z 31 (k + 1)) - (Z 43 (j)))) 31 (k)) + (Z 43 (j)) < 1000 then ((s2 (s2 (s2 Z 71 j (vp_nar .boolean 1)) 49 j 0) 31 (k + 1) ((Z 31 (k + 1)) - (Z 43 (j)))) 31 (k)) + (Z 43 (j)) else 1000)) 47 j ((nI k) + 1)) q n)), (2, .int (lf - (Z 43 (j)))), (0, .ref (ad 30)), (1, .int (nI k)), (3, .int w), (4, .int q)]) dX10_opens_306 (by decide) rfl ?_
                            refine x_goto C (tgt := 71) dX10_opens_308 (by decide) ?_
                            refine x_sub [2, 3, 1, 4, 5, 0] (L1 := [(0, .ref (ad 30)), (1, .int (nI k)), (2, .int (lf - (Z 43 (j)))), (3, .int w), (4, .int q), (5, .int (mNext (s2 (s2 (s2 (s2 (s2 Z 71 j (vp_nar .boolean 1)) 49 j 0) 31 (k + 1) ((Z 31 (k + 1)) - (Z 43 (j)))) 31 k (if ((s2 (s2 (s2 Z 71 j (vp_nar .boolean 1)) 49 j 0) 31 (k + 1) ((Z 31 (k + 1)) - (Z 43 (j)))) 31 (k)) + (Z 43 (j)) < 1000 then ((s2 (s2 (s2 Z 71 j (vp_nar .boolean 1)) 49 j 0) 31 (k + 1) ((Z 31 (k + 1)) - (Z 43 (j)))) 31 (k)) + (Z 43 (j)) else 1000)) 47 j ((nI k) + 1)) q n))]) rfl ?_
                            have hb9 : mBar Z k j lf w = 0 := by simp [mBar, (show icy (Z 30 6) (Z 30 7) (nI k) (Z 30 3) = false from c96), (show icy (Z 30 6) (Z 30 7) (nI k + 1) (Z 30 3) = false from c106), (show ¬ Z 31 (k + 1) < 20 + Z 43 j from Int32.not_lt.mpr c131), (show ¬ lf < Z 43 j from Int32.not_lt.mpr c146), (show ¬ w = 0 from c154), (show ¬ Z 51 j = 0 from c164)]
                            have e1 : opStep nR Z k lf w j = ((s2 (s2 (s2 (s2 (s2 Z 71 j (vp_nar .boolean 1)) 49 j 0) 31 (k + 1) ((Z 31 (k + 1)) - (Z 43 (j)))) 31 k (if ((s2 (s2 (s2 Z 71 j (vp_nar .boolean 1)) 49 j 0) 31 (k + 1) ((Z 31 (k + 1)) - (Z 43 (j)))) 31 (k)) + (Z 43 (j)) < 1000 then ((s2 (s2 (s2 Z 71 j (vp_nar .boolean 1)) 49 j 0) 31 (k + 1) ((Z 31 (k + 1)) - (Z 43 (j)))) 31 (k)) + (Z 43 (j)) else 1000)) 47 j ((nI k) + 1)), lf - (Z 43 (j)), w) := by
                              rw [opStep, if_pos hb9, if_neg c286]
                              rfl
                            have hng : ngo (opStep nR Z k lf w j).1 n + 1 = ngo Z n := ngo_put hj hj0 (by rw [opStep_71, s2_eq]) (fun i hi => by rw [opStep_71, s2_nk hi])
                            have hkp1 : ∀ x, opKeep x → (opStep nR Z k lf w j).1 x = S x := fun x hx => by rw [opStep_ne hx, hkp x hx]
                            have e2 : opL nR n q k (ngo (opStep nR Z k lf w j).1 n + 1) (opStep nR Z k lf w j).1 (opStep nR Z k lf w j).2.1 (opStep nR Z k lf w j).2.2 = OPT := by
                              rw [← e0, hng]
                              conv => rhs; rw [opL, if_neg (by rw [hj9]; exact nI_nm (by omega)), hj9, nI_clamp (by omega)]
                            rw [e1] at hng hkp1 e2
                            dsimp only at hng hkp1 e2
                            exact ih _ _ _ hkp1 e2 (by omega)
                          · skip
                            refine x_aload_n C 1 dX10_opens_289 rfl rfl ?_
                            refine x_get C (T := TX10) (N := 45) (v := .ref (ad 48)) 30 18 hin10 (hF 30 (by decide)) (pf_30 G nR ad _) rfl (by decide) lk47 rfl rfl dX10_opens_290 ?_
                            refine x_iload C 5 dX10_opens_293 rfl ?_
                            refine x_aload_n C 1 dX10_opens_295 rfl rfl ?_
                            refine x_get C (T := TX10) (N := 45) (v := .int (Z 30 3)) 30 3 hin10 (hF 30 (by decide)) (pf_30 G nR ad _) rfl (by decide) lk144 rfl rfl dX10_opens_296 ?_
                            refine y_iast C 48 (hF 48 (by decide)) (fun f => (pf_48 G nR ad f)) (nI_in (N := 12) (show j < 12 by omega) (by omega)) (kk := j) (nI_clamp (by omega)) dX10_opens_299 ?_
                            refine x_aload_n C 1 dX10_opens_300 rfl rfl ?_
                            refine x_iload C 4 dX10_opens_301 rfl ?_
                            refine x_Vi 30 C (k_X10_next l G nR LL ad hF (s2 (s2 (s2 (s2 (s2 (s2 Z 71 j (vp_nar .boolean 1)) 49 j 0) 31 (k + 1) ((Z 31 (k + 1)) - (Z 43 (j)))) 31 k (if ((s2 (s2 (s2 Z 71 j (vp_nar .boolean 1)) 49 j 0) 31 (k + 1) ((Z 31 (k + 1)) - (Z 43 (j)))) 31 (k)) + (Z 43 (j)) < 1000 then ((s2 (s2 (s2 Z 71 j (vp_nar .boolean 1)) 49 j 0) 31 (k + 1) ((Z 31 (k + 1)) - (Z 43 (j)))) 31 (k)) + (Z 43 (j)) else 1000)) 47 j ((nI k) + 1)) 48 j (Z 30 3)) q n (by show Z 30 5 = nI n; exact hz1) h12) gX10_opens_X10_next rfl (by decide +kernel) ⟨(Nat.le_of_ble_eq_true rfl), (Nat.le_of_ble_eq_true rfl)⟩ ⟨(Nat.le_of_ble_eq_true rfl), (Nat.le_of_ble_eq_true rfl)⟩ (hF 30 (by decide)) (pf_30 G nR ad _) (T := TX10) (N := 45) rfl (n := 1) rfl (st := []) (Nat.le_of_ble_eq_true rfl) rfl dX10_opens_303 (fun _ _ hr9 => ?_)
                            subst hr9
                            refine x_istore C (L1 := [(5, .int (mNext (s2 (s2 (s2 (s2 (s2 (s2 Z 71 j (vp_nar .boolean 1)) 49 j 0) 31 (k + 1) ((Z 31 (k + 1)) - (Z 43 (j)))) 31 k (if ((s2 (s2 (s2 Z 71 j (vp_nar .boolean 1)) 49 j 0) 31 (k + 1) ((Z 31 (k + 1)) - (Z 43 (j)))) 31 (k)) + (Z 43 (j)) < 1000 then ((s2 (s2 (s2 Z 71 j (vp_nar .boolean 1)) 49 j 0) 31 (k + 1) ((Z 31 (k + 1)) - (Z 43 (j)))) 31 (k)) + (Z 43 (j)) else 1000)) 47 j ((nI k) + 1)) 48 j (Z 30 3)) q n)), (2, .int (lf - (Z 43 (j)))), (0, .ref (ad 30)), (1, .int (nI k)), (3, .int w), (4, .int q)]) dX10_opens_306 (by decide) rfl ?_
                            refine x_goto C (tgt := 71) dX10_opens_308 (by decide) ?_
                            refine x_sub [2, 3, 1, 4, 5, 0] (L1 := [(0, .ref (ad 30)), (1, .int (nI k)), (2, .int (lf - (Z 43 (j)))), (3, .int w), (4, .int q), (5, .int (mNext (s2 (s2 (s2 (s2 (s2 (s2 Z 71 j (vp_nar .boolean 1)) 49 j 0) 31 (k + 1) ((Z 31 (k + 1)) - (Z 43 (j)))) 31 k (if ((s2 (s2 (s2 Z 71 j (vp_nar .boolean 1)) 49 j 0) 31 (k + 1) ((Z 31 (k + 1)) - (Z 43 (j)))) 31 (k)) + (Z 43 (j)) < 1000 then ((s2 (s2 (s2 Z 71 j (vp_nar .boolean 1)) 49 j 0) 31 (k + 1) ((Z 31 (k + 1)) - (Z 43 (j)))) 31 (k)) + (Z 43 (j)) else 1000)) 47 j ((nI k) + 1)) 48 j (Z 30 3)) q n))]) rfl ?_
                            have hb9 : mBar Z k j lf w = 0 := by simp [mBar, (show icy (Z 30 6) (Z 30 7) (nI k) (Z 30 3) = false from c96), (show icy (Z 30 6) (Z 30 7) (nI k + 1) (Z 30 3) = false from c106), (show ¬ Z 31 (k + 1) < 20 + Z 43 j from Int32.not_lt.mpr c131), (show ¬ lf < Z 43 j from Int32.not_lt.mpr c146), (show ¬ w = 0 from c154), (show ¬ Z 51 j = 0 from c164)]
                            have e1 : opStep nR Z k lf w j = ((s2 (s2 (s2 (s2 (s2 (s2 Z 71 j (vp_nar .boolean 1)) 49 j 0) 31 (k + 1) ((Z 31 (k + 1)) - (Z 43 (j)))) 31 k (if ((s2 (s2 (s2 Z 71 j (vp_nar .boolean 1)) 49 j 0) 31 (k + 1) ((Z 31 (k + 1)) - (Z 43 (j)))) 31 (k)) + (Z 43 (j)) < 1000 then ((s2 (s2 (s2 Z 71 j (vp_nar .boolean 1)) 49 j 0) 31 (k + 1) ((Z 31 (k + 1)) - (Z 43 (j)))) 31 (k)) + (Z 43 (j)) else 1000)) 47 j ((nI k) + 1)) 48 j (Z 30 3)), lf - (Z 43 (j)), w) := by
                              rw [opStep, if_pos hb9, if_pos c286]
                              rfl
                            have hng : ngo (opStep nR Z k lf w j).1 n + 1 = ngo Z n := ngo_put hj hj0 (by rw [opStep_71, s2_eq]) (fun i hi => by rw [opStep_71, s2_nk hi])
                            have hkp1 : ∀ x, opKeep x → (opStep nR Z k lf w j).1 x = S x := fun x hx => by rw [opStep_ne hx, hkp x hx]
                            have e2 : opL nR n q k (ngo (opStep nR Z k lf w j).1 n + 1) (opStep nR Z k lf w j).1 (opStep nR Z k lf w j).2.1 (opStep nR Z k lf w j).2.2 = OPT := by
                              rw [← e0, hng]
                              conv => rhs; rw [opL, if_neg (by rw [hj9]; exact nI_nm (by omega)), hj9, nI_clamp (by omega)]
                            rw [e1] at hng hkp1 e2
                            dsimp only at hng hkp1 e2
                            exact ih _ _ _ hkp1 e2 (by omega)
                        · skip
                          refine x_iconst C dX10_opens_167 (v := 4) (by decide) ?_
                          refine x_goto C (tgt := 172) dX10_opens_168 (by decide) ?_
                          refine y_iast C 49 (hF 49 (by decide)) (fun f => (pf_49 G nR ad f)) (nI_in (N := 12) (show j < 12 by omega) (by omega)) (kk := j) (nI_clamp (by omega)) dX10_opens_172 ?_
                          refine x_aload_n C 0 dX10_opens_173 rfl rfl ?_
                          refine x_get C (T := TX10) (N := 45) (v := .ref (ad 49)) 30 19 hin10 (hF 30 (by decide)) (pf_30 G nR ad _) rfl (by decide) lk50 rfl rfl dX10_opens_174 ?_
                          refine x_iload C 5 dX10_opens_177 rfl ?_
                          refine x_iald C 49 (hF 49 (by decide)) (pf_49 G nR ad _) (nI_in (N := 12) (show j < 12 by omega) (by omega)) (kk := j) (nI_clamp (by omega)) dX10_opens_179 ?_
                          refine x_top C (v2 := 4) s2_eq ?_
                          refine x_if_eq C (tgt := 209) dX10_opens_180 (by decide) (fun c180 => ?_) (fun c180 => ?_)
                          · exact absurd c180 (by decide)
                          refine x_iconst C dX10_opens_183 (v := 1) (by decide) ?_
                          refine x_istore_n C (L1 := [(3, .int 1), (0, .ref (ad 30)), (1, .int (nI k)), (2, .int lf), (4, .int q), (5, .int (nI j))]) dX10_opens_184 rfl (by decide) rfl ?_
                          refine x_aload_n C 1 dX10_opens_185 rfl rfl ?_
                          refine x_get C (T := TX10) (N := 45) (v := .ref (ad 53)) 30 23 hin10 (hF 30 (by decide)) (pf_30 G nR ad _) rfl (by decide) lk63 rfl rfl dX10_opens_186 ?_
                          refine x_iconst C dX10_opens_189 (v := 5) (by decide) ?_
                          refine x_iload C 5 dX10_opens_190 rfl ?_
                          refine x_imul C dX10_opens_192 ?_
                          refine x_aload_n C 1 dX10_opens_193 rfl rfl ?_
                          refine x_get C (T := TX10) (N := 45) (v := .ref (ad 49)) 30 19 hin10 (hF 30 (by decide)) (pf_30 G nR ad _) rfl (by decide) lk50 rfl rfl dX10_opens_194 ?_
                          refine x_iload C 5 dX10_opens_197 rfl ?_
                          refine x_iald C 49 (hF 49 (by decide)) (pf_49 G nR ad _) (nI_in (N := 12) (show j < 12 by omega) (by omega)) (kk := j) (nI_clamp (by omega)) dX10_opens_199 ?_
                          refine x_top C (v2 := 4) s2_eq ?_
                          refine x_iadd C dX10_opens_200 ?_
                          refine x_top C (v2 := nI (5 * j + 4)) (by rw [nI_ad, nI_ml]; rfl) ?_
                          refine x_dup2 C dX10_opens_201 rfl rfl ?_
                          refine x_iald C 53 (hF 53 (by decide)) (pf_53 G nR ad _) (nI_in (N := 60) (show 5 * j + 4 < 60 by omega) (by omega)) (kk := 5 * j + 4) (nI_clamp (by omega)) dX10_opens_202 ?_
                          refine x_iconst C dX10_opens_203 (v := 1) (by decide) ?_
                          refine x_iadd C dX10_opens_204 ?_
                          refine y_iast C 53 (hF 53 (by decide)) (fun f => (pf_53 G nR ad f)) (nI_in (N := 60) (show 5 * j + 4 < 60 by omega) (by omega)) (kk := 5 * j + 4) (nI_clamp (by omega)) dX10_opens_205 ?_
                          refine x_goto C (tgt := 300) dX10_opens_206 (by decide) ?_
                          refine x_aload_n C 1 dX10_opens_300 rfl rfl ?_
                          refine x_iload C 4 dX10_opens_301 rfl ?_
                          refine x_Vi 30 C (k_X10_next l G nR LL ad hF (s2 (s2 (s2 Z 71 j (vp_nar .boolean 1)) 49 j 4) 53 (5 * j + 4) ((Z 53 (5 * j + 4)) + 1)) q n (by show Z 30 5 = nI n; exact hz1) h12) gX10_opens_X10_next rfl (by decide +kernel) ⟨(Nat.le_of_ble_eq_true rfl), (Nat.le_of_ble_eq_true rfl)⟩ ⟨(Nat.le_of_ble_eq_true rfl), (Nat.le_of_ble_eq_true rfl)⟩ (hF 30 (by decide)) (pf_30 G nR ad _) (T := TX10) (N := 45) rfl (n := 1) rfl (st := []) (Nat.le_of_ble_eq_true rfl) rfl dX10_opens_303 (fun _ _ hr9 => ?_)
                          subst hr9
                          refine x_istore C (L1 := [(5, .int (mNext (s2 (s2 (s2 Z 71 j (vp_nar .boolean 1)) 49 j 4) 53 (5 * j + 4) ((Z 53 (5 * j + 4)) + 1)) q n)), (3, .int 1), (0, .ref (ad 30)), (1, .int (nI k)), (2, .int lf), (4, .int q)]) dX10_opens_306 (by decide) rfl ?_
                          refine x_goto C (tgt := 71) dX10_opens_308 (by decide) ?_
                          refine x_sub [2, 3, 4, 1, 5, 0] (L1 := [(0, .ref (ad 30)), (1, .int (nI k)), (2, .int lf), (3, .int 1), (4, .int q), (5, .int (mNext (s2 (s2 (s2 Z 71 j (vp_nar .boolean 1)) 49 j 4) 53 (5 * j + 4) ((Z 53 (5 * j + 4)) + 1)) q n))]) rfl ?_
                          have hb9 : mBar Z k j lf w = 4 := by simp [mBar, (show icy (Z 30 6) (Z 30 7) (nI k) (Z 30 3) = false from c96), (show icy (Z 30 6) (Z 30 7) (nI k + 1) (Z 30 3) = false from c106), (show ¬ Z 31 (k + 1) < 20 + Z 43 j from Int32.not_lt.mpr c131), (show ¬ lf < Z 43 j from Int32.not_lt.mpr c146), (show ¬ w = 0 from c154), (show Z 51 j = 0 from c164)]
                          have e1 : opStep nR Z k lf w j = ((s2 (s2 (s2 Z 71 j (vp_nar .boolean 1)) 49 j 4) 53 (5 * j + 4) ((Z 53 (5 * j + 4)) + 1)), lf, 1) := by
                            rw [opStep, if_neg (by rw [hb9]; decide), hb9]
                            rfl
                          have hng : ngo (opStep nR Z k lf w j).1 n + 1 = ngo Z n := ngo_put hj hj0 (by rw [opStep_71, s2_eq]) (fun i hi => by rw [opStep_71, s2_nk hi])
                          have hkp1 : ∀ x, opKeep x → (opStep nR Z k lf w j).1 x = S x := fun x hx => by rw [opStep_ne hx, hkp x hx]
                          have e2 : opL nR n q k (ngo (opStep nR Z k lf w j).1 n + 1) (opStep nR Z k lf w j).1 (opStep nR Z k lf w j).2.1 (opStep nR Z k lf w j).2.2 = OPT := by
                            rw [← e0, hng]
                            conv => rhs; rw [opL, if_neg (by rw [hj9]; exact nI_nm (by omega)), hj9, nI_clamp (by omega)]
                          rw [e1] at hng hkp1 e2
                          dsimp only at hng hkp1 e2
                          exact ih _ _ _ hkp1 e2 (by omega)
                    · skip
                      refine x_iconst C dX10_opens_149 (v := 3) (by decide) ?_
                      refine x_goto C (tgt := 172) dX10_opens_150 (by decide) ?_
                      refine y_iast C 49 (hF 49 (by decide)) (fun f => (pf_49 G nR ad f)) (nI_in (N := 12) (show j < 12 by omega) (by omega)) (kk := j) (nI_clamp (by omega)) dX10_opens_172 ?_
                      refine x_aload_n C 0 dX10_opens_173 rfl rfl ?_
                      refine x_get C (T := TX10) (N := 45) (v := .ref (ad 49)) 30 19 hin10 (hF 30 (by decide)) (pf_30 G nR ad _) rfl (by decide) lk50 rfl rfl dX10_opens_174 ?_
                      refine x_iload C 5 dX10_opens_177 rfl ?_
                      refine x_iald C 49 (hF 49 (by decide)) (pf_49 G nR ad _) (nI_in (N := 12) (show j < 12 by omega) (by omega)) (kk := j) (nI_clamp (by omega)) dX10_opens_179 ?_
                      refine x_top C (v2 := 3) s2_eq ?_
                      refine x_if_eq C (tgt := 209) dX10_opens_180 (by decide) (fun c180 => ?_) (fun c180 => ?_)
                      · exact absurd c180 (by decide)
                      refine x_iconst C dX10_opens_183 (v := 1) (by decide) ?_
                      refine x_istore_n C (L1 := [(3, .int 1), (0, .ref (ad 30)), (1, .int (nI k)), (2, .int lf), (4, .int q), (5, .int (nI j))]) dX10_opens_184 rfl (by decide) rfl ?_
                      refine x_aload_n C 1 dX10_opens_185 rfl rfl ?_
                      refine x_get C (T := TX10) (N := 45) (v := .ref (ad 53)) 30 23 hin10 (hF 30 (by decide)) (pf_30 G nR ad _) rfl (by decide) lk63 rfl rfl dX10_opens_186 ?_
                      refine x_iconst C dX10_opens_189 (v := 5) (by decide) ?_
                      refine x_iload C 5 dX10_opens_190 rfl ?_
                      refine x_imul C dX10_opens_192 ?_
                      refine x_aload_n C 1 dX10_opens_193 rfl rfl ?_
                      refine x_get C (T := TX10) (N := 45) (v := .ref (ad 49)) 30 19 hin10 (hF 30 (by decide)) (pf_30 G nR ad _) rfl (by decide) lk50 rfl rfl dX10_opens_194 ?_
                      refine x_iload C 5 dX10_opens_197 rfl ?_
                      refine x_iald C 49 (hF 49 (by decide)) (pf_49 G nR ad _) (nI_in (N := 12) (show j < 12 by omega) (by omega)) (kk := j) (nI_clamp (by omega)) dX10_opens_199 ?_
                      refine x_top C (v2 := 3) s2_eq ?_
                      refine x_iadd C dX10_opens_200 ?_
                      refine x_top C (v2 := nI (5 * j + 3)) (by rw [nI_ad, nI_ml]; rfl) ?_
                      refine x_dup2 C dX10_opens_201 rfl rfl ?_
                      refine x_iald C 53 (hF 53 (by decide)) (pf_53 G nR ad _) (nI_in (N := 60) (show 5 * j + 3 < 60 by omega) (by omega)) (kk := 5 * j + 3) (nI_clamp (by omega)) dX10_opens_202 ?_
                      refine x_iconst C dX10_opens_203 (v := 1) (by decide) ?_
                      refine x_iadd C dX10_opens_204 ?_
                      refine y_iast C 53 (hF 53 (by decide)) (fun f => (pf_53 G nR ad f)) (nI_in (N := 60) (show 5 * j + 3 < 60 by omega) (by omega)) (kk := 5 * j + 3) (nI_clamp (by omega)) dX10_opens_205 ?_
                      refine x_goto C (tgt := 300) dX10_opens_206 (by decide) ?_
                      refine x_aload_n C 1 dX10_opens_300 rfl rfl ?_
                      refine x_iload C 4 dX10_opens_301 rfl ?_
                      refine x_Vi 30 C (k_X10_next l G nR LL ad hF (s2 (s2 (s2 Z 71 j (vp_nar .boolean 1)) 49 j 3) 53 (5 * j + 3) ((Z 53 (5 * j + 3)) + 1)) q n (by show Z 30 5 = nI n; exact hz1) h12) gX10_opens_X10_next rfl (by decide +kernel) ⟨(Nat.le_of_ble_eq_true rfl), (Nat.le_of_ble_eq_true rfl)⟩ ⟨(Nat.le_of_ble_eq_true rfl), (Nat.le_of_ble_eq_true rfl)⟩ (hF 30 (by decide)) (pf_30 G nR ad _) (T := TX10) (N := 45) rfl (n := 1) rfl (st := []) (Nat.le_of_ble_eq_true rfl) rfl dX10_opens_303 (fun _ _ hr9 => ?_)
                      subst hr9
                      refine x_istore C (L1 := [(5, .int (mNext (s2 (s2 (s2 Z 71 j (vp_nar .boolean 1)) 49 j 3) 53 (5 * j + 3) ((Z 53 (5 * j + 3)) + 1)) q n)), (3, .int 1), (0, .ref (ad 30)), (1, .int (nI k)), (2, .int lf), (4, .int q)]) dX10_opens_306 (by decide) rfl ?_
                      refine x_goto C (tgt := 71) dX10_opens_308 (by decide) ?_
                      refine x_sub [2, 3, 4, 1, 5, 0] (L1 := [(0, .ref (ad 30)), (1, .int (nI k)), (2, .int lf), (3, .int 1), (4, .int q), (5, .int (mNext (s2 (s2 (s2 Z 71 j (vp_nar .boolean 1)) 49 j 3) 53 (5 * j + 3) ((Z 53 (5 * j + 3)) + 1)) q n))]) rfl ?_
                      have hb9 : mBar Z k j lf w = 3 := by simp [mBar, (show icy (Z 30 6) (Z 30 7) (nI k) (Z 30 3) = false from c96), (show icy (Z 30 6) (Z 30 7) (nI k + 1) (Z 30 3) = false from c106), (show ¬ Z 31 (k + 1) < 20 + Z 43 j from Int32.not_lt.mpr c131), (show lf < Z 43 j from Int32.not_le.mp c146)]
                      have e1 : opStep nR Z k lf w j = ((s2 (s2 (s2 Z 71 j (vp_nar .boolean 1)) 49 j 3) 53 (5 * j + 3) ((Z 53 (5 * j + 3)) + 1)), lf, 1) := by
                        rw [opStep, if_neg (by rw [hb9]; decide), hb9]
                        rfl
                      have hng : ngo (opStep nR Z k lf w j).1 n + 1 = ngo Z n := ngo_put hj hj0 (by rw [opStep_71, s2_eq]) (fun i hi => by rw [opStep_71, s2_nk hi])
                      have hkp1 : ∀ x, opKeep x → (opStep nR Z k lf w j).1 x = S x := fun x hx => by rw [opStep_ne hx, hkp x hx]
                      have e2 : opL nR n q k (ngo (opStep nR Z k lf w j).1 n + 1) (opStep nR Z k lf w j).1 (opStep nR Z k lf w j).2.1 (opStep nR Z k lf w j).2.2 = OPT := by
                        rw [← e0, hng]
                        conv => rhs; rw [opL, if_neg (by rw [hj9]; exact nI_nm (by omega)), hj9, nI_clamp (by omega)]
                      rw [e1] at hng hkp1 e2
                      dsimp only at hng hkp1 e2
                      exact ih _ _ _ hkp1 e2 (by omega)
                  · skip
                    refine x_iconst C dX10_opens_134 (v := 2) (by decide) ?_
                    refine x_goto C (tgt := 172) dX10_opens_135 (by decide) ?_
                    refine y_iast C 49 (hF 49 (by decide)) (fun f => (pf_49 G nR ad f)) (nI_in (N := 12) (show j < 12 by omega) (by omega)) (kk := j) (nI_clamp (by omega)) dX10_opens_172 ?_
                    refine x_aload_n C 0 dX10_opens_173 rfl rfl ?_
                    refine x_get C (T := TX10) (N := 45) (v := .ref (ad 49)) 30 19 hin10 (hF 30 (by decide)) (pf_30 G nR ad _) rfl (by decide) lk50 rfl rfl dX10_opens_174 ?_
                    refine x_iload C 5 dX10_opens_177 rfl ?_
                    refine x_iald C 49 (hF 49 (by decide)) (pf_49 G nR ad _) (nI_in (N := 12) (show j < 12 by omega) (by omega)) (kk := j) (nI_clamp (by omega)) dX10_opens_179 ?_
                    refine x_top C (v2 := 2) s2_eq ?_
                    refine x_if_eq C (tgt := 209) dX10_opens_180 (by decide) (fun c180 => ?_) (fun c180 => ?_)
                    · exact absurd c180 (by decide)
                    refine x_iconst C dX10_opens_183 (v := 1) (by decide) ?_
                    refine x_istore_n C (L1 := [(3, .int 1), (0, .ref (ad 30)), (1, .int (nI k)), (2, .int lf), (4, .int q), (5, .int (nI j))]) dX10_opens_184 rfl (by decide) rfl ?_
                    refine x_aload_n C 1 dX10_opens_185 rfl rfl ?_
                    refine x_get C (T := TX10) (N := 45) (v := .ref (ad 53)) 30 23 hin10 (hF 30 (by decide)) (pf_30 G nR ad _) rfl (by decide) lk63 rfl rfl dX10_opens_186 ?_
                    refine x_iconst C dX10_opens_189 (v := 5) (by decide) ?_
                    refine x_iload C 5 dX10_opens_190 rfl ?_
                    refine x_imul C dX10_opens_192 ?_
                    refine x_aload_n C 1 dX10_opens_193 rfl rfl ?_
                    refine x_get C (T := TX10) (N := 45) (v := .ref (ad 49)) 30 19 hin10 (hF 30 (by decide)) (pf_30 G nR ad _) rfl (by decide) lk50 rfl rfl dX10_opens_194 ?_
                    refine x_iload C 5 dX10_opens_197 rfl ?_
                    refine x_iald C 49 (hF 49 (by decide)) (pf_49 G nR ad _) (nI_in (N := 12) (show j < 12 by omega) (by omega)) (kk := j) (nI_clamp (by omega)) dX10_opens_199 ?_
                    refine x_top C (v2 := 2) s2_eq ?_
                    refine x_iadd C dX10_opens_200 ?_
                    refine x_top C (v2 := nI (5 * j + 2)) (by rw [nI_ad, nI_ml]; rfl) ?_
                    refine x_dup2 C dX10_opens_201 rfl rfl ?_
                    refine x_iald C 53 (hF 53 (by decide)) (pf_53 G nR ad _) (nI_in (N := 60) (show 5 * j + 2 < 60 by omega) (by omega)) (kk := 5 * j + 2) (nI_clamp (by omega)) dX10_opens_202 ?_
                    refine x_iconst C dX10_opens_203 (v := 1) (by decide) ?_
                    refine x_iadd C dX10_opens_204 ?_
                    refine y_iast C 53 (hF 53 (by decide)) (fun f => (pf_53 G nR ad f)) (nI_in (N := 60) (show 5 * j + 2 < 60 by omega) (by omega)) (kk := 5 * j + 2) (nI_clamp (by omega)) dX10_opens_205 ?_
                    refine x_goto C (tgt := 300) dX10_opens_206 (by decide) ?_
                    refine x_aload_n C 1 dX10_opens_300 rfl rfl ?_
                    refine x_iload C 4 dX10_opens_301 rfl ?_
                    refine x_Vi 30 C (k_X10_next l G nR LL ad hF (s2 (s2 (s2 Z 71 j (vp_nar .boolean 1)) 49 j 2) 53 (5 * j + 2) ((Z 53 (5 * j + 2)) + 1)) q n (by show Z 30 5 = nI n; exact hz1) h12) gX10_opens_X10_next rfl (by decide +kernel) ⟨(Nat.le_of_ble_eq_true rfl), (Nat.le_of_ble_eq_true rfl)⟩ ⟨(Nat.le_of_ble_eq_true rfl), (Nat.le_of_ble_eq_true rfl)⟩ (hF 30 (by decide)) (pf_30 G nR ad _) (T := TX10) (N := 45) rfl (n := 1) rfl (st := []) (Nat.le_of_ble_eq_true rfl) rfl dX10_opens_303 (fun _ _ hr9 => ?_)
                    subst hr9
                    refine x_istore C (L1 := [(5, .int (mNext (s2 (s2 (s2 Z 71 j (vp_nar .boolean 1)) 49 j 2) 53 (5 * j + 2) ((Z 53 (5 * j + 2)) + 1)) q n)), (3, .int 1), (0, .ref (ad 30)), (1, .int (nI k)), (2, .int lf), (4, .int q)]) dX10_opens_306 (by decide) rfl ?_
                    refine x_goto C (tgt := 71) dX10_opens_308 (by decide) ?_
                    refine x_sub [2, 3, 4, 1, 5, 0] (L1 := [(0, .ref (ad 30)), (1, .int (nI k)), (2, .int lf), (3, .int 1), (4, .int q), (5, .int (mNext (s2 (s2 (s2 Z 71 j (vp_nar .boolean 1)) 49 j 2) 53 (5 * j + 2) ((Z 53 (5 * j + 2)) + 1)) q n))]) rfl ?_
                    have hb9 : mBar Z k j lf w = 2 := by simp [mBar, (show icy (Z 30 6) (Z 30 7) (nI k) (Z 30 3) = false from c96), (show icy (Z 30 6) (Z 30 7) (nI k + 1) (Z 30 3) = false from c106), (show Z 31 (k + 1) < 20 + Z 43 j from Int32.not_le.mp c131)]
                    have e1 : opStep nR Z k lf w j = ((s2 (s2 (s2 Z 71 j (vp_nar .boolean 1)) 49 j 2) 53 (5 * j + 2) ((Z 53 (5 * j + 2)) + 1)), lf, 1) := by
                      rw [opStep, if_neg (by rw [hb9]; decide), hb9]
                      rfl
                    have hng : ngo (opStep nR Z k lf w j).1 n + 1 = ngo Z n := ngo_put hj hj0 (by rw [opStep_71, s2_eq]) (fun i hi => by rw [opStep_71, s2_nk hi])
                    have hkp1 : ∀ x, opKeep x → (opStep nR Z k lf w j).1 x = S x := fun x hx => by rw [opStep_ne hx, hkp x hx]
                    have e2 : opL nR n q k (ngo (opStep nR Z k lf w j).1 n + 1) (opStep nR Z k lf w j).1 (opStep nR Z k lf w j).2.1 (opStep nR Z k lf w j).2.2 = OPT := by
                      rw [← e0, hng]
                      conv => rhs; rw [opL, if_neg (by rw [hj9]; exact nI_nm (by omega)), hj9, nI_clamp (by omega)]
                    rw [e1] at hng hkp1 e2
                    dsimp only at hng hkp1 e2
                    exact ih _ _ _ hkp1 e2 (by omega)
                · replace c106 := bI_nz c106
                  refine x_iconst C dX10_opens_109 (v := 1) (by decide) ?_
                  refine x_goto C (tgt := 172) dX10_opens_110 (by decide) ?_
                  refine y_iast C 49 (hF 49 (by decide)) (fun f => (pf_49 G nR ad f)) (nI_in (N := 12) (show j < 12 by omega) (by omega)) (kk := j) (nI_clamp (by omega)) dX10_opens_172 ?_
                  refine x_aload_n C 0 dX10_opens_173 rfl rfl ?_
                  refine x_get C (T := TX10) (N := 45) (v := .ref (ad 49)) 30 19 hin10 (hF 30 (by decide)) (pf_30 G nR ad _) rfl (by decide) lk50 rfl rfl dX10_opens_174 ?_
                  refine x_iload C 5 dX10_opens_177 rfl ?_
                  refine x_iald C 49 (hF 49 (by decide)) (pf_49 G nR ad _) (nI_in (N := 12) (show j < 12 by omega) (by omega)) (kk := j) (nI_clamp (by omega)) dX10_opens_179 ?_
                  refine x_top C (v2 := 1) s2_eq ?_
                  refine x_if_eq C (tgt := 209) dX10_opens_180 (by decide) (fun c180 => ?_) (fun c180 => ?_)
                  · exact absurd c180 (by decide)
                  refine x_iconst C dX10_opens_183 (v := 1) (by decide) ?_
                  refine x_istore_n C (L1 := [(3, .int 1), (0, .ref (ad 30)), (1, .int (nI k)), (2, .int lf), (4, .int q), (5, .int (nI j))]) dX10_opens_184 rfl (by decide) rfl ?_
                  refine x_aload_n C 1 dX10_opens_185 rfl rfl ?_
                  refine x_get C (T := TX10) (N := 45) (v := .ref (ad 53)) 30 23 hin10 (hF 30 (by decide)) (pf_30 G nR ad _) rfl (by decide) lk63 rfl rfl dX10_opens_186 ?_
                  refine x_iconst C dX10_opens_189 (v := 5) (by decide) ?_
                  refine x_iload C 5 dX10_opens_190 rfl ?_
                  refine x_imul C dX10_opens_192 ?_
                  refine x_aload_n C 1 dX10_opens_193 rfl rfl ?_
                  refine x_get C (T := TX10) (N := 45) (v := .ref (ad 49)) 30 19 hin10 (hF 30 (by decide)) (pf_30 G nR ad _) rfl (by decide) lk50 rfl rfl dX10_opens_194 ?_
                  refine x_iload C 5 dX10_opens_197 rfl ?_
                  refine x_iald C 49 (hF 49 (by decide)) (pf_49 G nR ad _) (nI_in (N := 12) (show j < 12 by omega) (by omega)) (kk := j) (nI_clamp (by omega)) dX10_opens_199 ?_
                  refine x_top C (v2 := 1) s2_eq ?_
                  refine x_iadd C dX10_opens_200 ?_
                  refine x_top C (v2 := nI (5 * j + 1)) (by rw [nI_ad, nI_ml]; rfl) ?_
                  refine x_dup2 C dX10_opens_201 rfl rfl ?_
                  refine x_iald C 53 (hF 53 (by decide)) (pf_53 G nR ad _) (nI_in (N := 60) (show 5 * j + 1 < 60 by omega) (by omega)) (kk := 5 * j + 1) (nI_clamp (by omega)) dX10_opens_202 ?_
                  refine x_iconst C dX10_opens_203 (v := 1) (by decide) ?_
                  refine x_iadd C dX10_opens_204 ?_
                  refine y_iast C 53 (hF 53 (by decide)) (fun f => (pf_53 G nR ad f)) (nI_in (N := 60) (show 5 * j + 1 < 60 by omega) (by omega)) (kk := 5 * j + 1) (nI_clamp (by omega)) dX10_opens_205 ?_
                  refine x_goto C (tgt := 300) dX10_opens_206 (by decide) ?_
                  refine x_aload_n C 1 dX10_opens_300 rfl rfl ?_
                  refine x_iload C 4 dX10_opens_301 rfl ?_
                  refine x_Vi 30 C (k_X10_next l G nR LL ad hF (s2 (s2 (s2 Z 71 j (vp_nar .boolean 1)) 49 j 1) 53 (5 * j + 1) ((Z 53 (5 * j + 1)) + 1)) q n (by show Z 30 5 = nI n; exact hz1) h12) gX10_opens_X10_next rfl (by decide +kernel) ⟨(Nat.le_of_ble_eq_true rfl), (Nat.le_of_ble_eq_true rfl)⟩ ⟨(Nat.le_of_ble_eq_true rfl), (Nat.le_of_ble_eq_true rfl)⟩ (hF 30 (by decide)) (pf_30 G nR ad _) (T := TX10) (N := 45) rfl (n := 1) rfl (st := []) (Nat.le_of_ble_eq_true rfl) rfl dX10_opens_303 (fun _ _ hr9 => ?_)
                  subst hr9
                  refine x_istore C (L1 := [(5, .int (mNext (s2 (s2 (s2 Z 71 j (vp_nar .boolean 1)) 49 j 1) 53 (5 * j + 1) ((Z 53 (5 * j + 1)) + 1)) q n)), (3, .int 1), (0, .ref (ad 30)), (1, .int (nI k)), (2, .int lf), (4, .int q)]) dX10_opens_306 (by decide) rfl ?_
                  refine x_goto C (tgt := 71) dX10_opens_308 (by decide) ?_
                  refine x_sub [2, 3, 4, 1, 5, 0] (L1 := [(0, .ref (ad 30)), (1, .int (nI k)), (2, .int lf), (3, .int 1), (4, .int q), (5, .int (mNext (s2 (s2 (s2 Z 71 j (vp_nar .boolean 1)) 49 j 1) 53 (5 * j + 1) ((Z 53 (5 * j + 1)) + 1)) q n))]) rfl ?_
                  have hb9 : mBar Z k j lf w = 1 := by simp [mBar, (show icy (Z 30 6) (Z 30 7) (nI k) (Z 30 3) = false from c96), (show icy (Z 30 6) (Z 30 7) (nI k + 1) (Z 30 3) = true from c106)]
                  have e1 : opStep nR Z k lf w j = ((s2 (s2 (s2 Z 71 j (vp_nar .boolean 1)) 49 j 1) 53 (5 * j + 1) ((Z 53 (5 * j + 1)) + 1)), lf, 1) := by
                    rw [opStep, if_neg (by rw [hb9]; decide), hb9]
                    rfl
                  have hng : ngo (opStep nR Z k lf w j).1 n + 1 = ngo Z n := ngo_put hj hj0 (by rw [opStep_71, s2_eq]) (fun i hi => by rw [opStep_71, s2_nk hi])
                  have hkp1 : ∀ x, opKeep x → (opStep nR Z k lf w j).1 x = S x := fun x hx => by rw [opStep_ne hx, hkp x hx]
                  have e2 : opL nR n q k (ngo (opStep nR Z k lf w j).1 n + 1) (opStep nR Z k lf w j).1 (opStep nR Z k lf w j).2.1 (opStep nR Z k lf w j).2.2 = OPT := by
                    rw [← e0, hng]
                    conv => rhs; rw [opL, if_neg (by rw [hj9]; exact nI_nm (by omega)), hj9, nI_clamp (by omega)]
                  rw [e1] at hng hkp1 e2
                  dsimp only at hng hkp1 e2
                  exact ih _ _ _ hkp1 e2 (by omega)
        refine x_sub [1, 2, 3, 4, 5, 0] (L1 := [(0, .ref (ad 30)), (1, .int (nI k)), (2, .int (S 32 k)), (3, .int 0), (4, .int q), (5, .int (mNext (goneS S k n) q n))]) rfl ?_
        exact lp71 (ngo (goneS S k n) n + 1) (goneS S k n) (S 32 k) 0 (fun x hx => goneS_ne hx.1 n) hO (by omega)
      · skip
        have hlt : i < n := nI_lt' (by rw [goneS_ne (by decide)] at c31; rw [← hz]; exact c31) (by omega)
        refine x_aload_n C 0 dX10_opens_34 rfl rfl ?_
        refine x_get C (T := TX10) (N := 45) (v := .ref (ad 71)) 30 41 hin10 (hF 30 (by decide)) (pf_30 G nR ad _) rfl (by decide) lk100 rfl rfl dX10_opens_35 ?_
        refine x_iload C 5 dX10_opens_38 rfl ?_
        refine x_aload_n C 0 dX10_opens_40 rfl rfl ?_
        refine x_get C (T := TX10) (N := 45) (v := .ref (ad 47)) 30 17 hin10 (hF 30 (by decide)) (pf_30 G nR ad _) rfl (by decide) lk44 rfl rfl dX10_opens_41 ?_
        refine x_iload C 5 dX10_opens_44 rfl ?_
        refine x_iald C 47 (hF 47 (by decide)) (pf_47 G nR ad _) (nI_in (N := 12) (show i < 12 by omega) (by omega)) (kk := i) (nI_clamp (by omega)) dX10_opens_46 ?_
        refine x_iload_n C 1 dX10_opens_47 rfl rfl ?_
        rw [goneS_ne (by decide)]
        refine x_icmp_eq C (tgt := 55) dX10_opens_48 (by decide) (fun c48 => ?_) (fun c48 => ?_)
        · skip
          refine x_iconst C dX10_opens_55 (v := 0) (by decide) ?_
          refine y_zast C 71 (hF 71 (by decide)) (fun f => (pf_71 G nR ad f)) (nI_in (N := 12) (show i < 12 by omega) (by omega)) (kk := i) (nI_clamp (by omega)) dX10_opens_56 ?_
          refine x_iinc C (L1 := [(5, .int ((nI i) + 1)), (0, .ref (ad 30)), (1, .int (nI k)), (2, .int (S 32 k)), (3, .int 0), (4, .int q)]) 5 dX10_opens_57 rfl rfl (by decide) rfl ?_
          refine x_goto C (tgt := 25) dX10_opens_60 (by decide) ?_
          refine x_sub [1, 2, 3, 4, 5, 0] (L1 := [(0, .ref (ad 30)), (1, .int (nI k)), (2, .int (S 32 k)), (3, .int 0), (4, .int q), (5, .int ((nI i) + 1))]) rfl ?_
          rw [← nI_succ]
          have e9 : s2 (goneS S k i) 71 i 0 = goneS S k (i + 1) := by
            rw [goneS]
            rw [if_pos c48]
          rw [show (s2 (goneS S k i) 71 i (vp_nar .boolean 0)) = goneS S k (i + 1) from e9]
          exact ih (i + 1) (by omega) (by omega)
        · skip
          refine x_iconst C dX10_opens_51 (v := 1) (by decide) ?_
          refine x_goto C (tgt := 56) dX10_opens_52 (by decide) ?_
          refine y_zast C 71 (hF 71 (by decide)) (fun f => (pf_71 G nR ad f)) (nI_in (N := 12) (show i < 12 by omega) (by omega)) (kk := i) (nI_clamp (by omega)) dX10_opens_56 ?_
          refine x_iinc C (L1 := [(5, .int ((nI i) + 1)), (0, .ref (ad 30)), (1, .int (nI k)), (2, .int (S 32 k)), (3, .int 0), (4, .int q)]) 5 dX10_opens_57 rfl rfl (by decide) rfl ?_
          refine x_goto C (tgt := 25) dX10_opens_60 (by decide) ?_
          refine x_sub [1, 2, 3, 4, 5, 0] (L1 := [(0, .ref (ad 30)), (1, .int (nI k)), (2, .int (S 32 k)), (3, .int 0), (4, .int q), (5, .int ((nI i) + 1))]) rfl ?_
          rw [← nI_succ]
          have e9 : s2 (goneS S k i) 71 i 1 = goneS S k (i + 1) := by
            rw [goneS]
            rw [if_neg c48]
          rw [show (s2 (goneS S k i) 71 i (vp_nar .boolean 1)) = goneS S k (i + 1) from e9]
          exact ih (i + 1) (by omega) (by omega)
  refine x_sub [4, 5, 3, 2, 1, 0] (L1 := [(0, .ref (ad 30)), (1, .int (nI k)), (2, .int (S 32 (k))), (3, .int 0), (4, .int q), (5, .int 0)]) rfl ?_
  exact lp25 (n + 1) 0 (Nat.zero_le _) (by omega)

