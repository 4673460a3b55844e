/-! what the last statement of a sort tells -/
def tellV (S : tf_M) (a r wo : Int32) (base : Nat) : Nat → Int32
  | 0 => wo
  | j + 1 => if S 66 (base + j) = a ∧ S 67 (base + j) = r then S 68 (base + j) else tellV S a r wo base j
def mTells (S : tf_M) (t : Nat) (day a r wo : Int32) : Int32 := if inF S day t = -1 then wo else tellV S a r wo (16 * (inF S day t).toNatClampNeg) (S 64 (inF S day t).toNatClampNeg).toNatClampNeg
theorem inF_ok {S : tf_M} {day : Int32} : ∀ k, inF S day k = -1 ∨ ∃ j, j < k ∧ inF S day k = nI j := by
  intro k
  induction k with
  | zero => exact Or.inl rfl
  | succ k ih =>
    unfold inF
    split
    · exact Or.inr ⟨k, by omega, rfl⟩
    · rcases ih with h | ⟨j, h1, h2⟩
      · exact Or.inl h
      · exact Or.inr ⟨j, by omega, h2⟩
theorem nI_nm {n : Nat} (h : n < 2 ^ 31) : ¬ nI n = -1 := fun q => by
  have := congrArg Int32.toInt q
  rw [nI_toInt h] at this
  have e : (-1 : Int32).toInt = -1 := rfl
  omega
def mLaw (nR : Nat) (S : tf_M) (t : Nat) (a b : Int32) : Int32 := if isW a 0 400 = true then (if b = 0 then mTells S t a 0 0 2 else if b = 1 then mTells S t a 2 0 20 else if b = 2 then mTells S t a 3 0 2 else if b = 3 then mTells S t a 4 0 1 else if b = 4 then inF S a t else if isP (b - 10) (nI nR) = true then mTells S t a 1 (b - 10) 3 else -1) else -1
set_option maxHeartbeats 4000000 in
set_option maxRecDepth 100000 in
theorem k_X10_tells (l : Launch) (G : tf_G) (nR : Nat) (LL : List Nat) (ad : Nat → Nat) (hF : ∀ j ∈ tf_fix, j ∈ LL) (S : tf_M) (day a r wo : Int32) (t : Nat) (ht : S 30 33 = nI t) (ht10 : t ≤ 10) (hst : ∀ k, k < t → ∃ c, c ≤ 16 ∧ S 64 k = nI c) : Ci l yX10_tells wsX10_tells ({ frames := 1, cells := 0, slots := 0, locals := 23 } : Room) G LL ad (fun (_ : Unit) => pw G nR ad S) (pw G nR ad S) [.ref (ad 30), .int day, .int a, .int r, .int wo] (fun x _ => x = mTells S t day a r wo) := by
  have hin10 : ∀ w ∈ u_ws RX10 TX10 45, w ∈ wsX10_tells := by decide +kernel
  have lk85 : Cond.fieldLink RX10 85 "TributeFleetModel" "statements" "[I" ∈ wsX10_tells := by decide +kernel
  have lk91 : Cond.fieldLink RX10 91 "TributeFleetModel" "sort" "[I" ∈ wsX10_tells := by decide +kernel
  have lk94 : Cond.fieldLink RX10 94 "TributeFleetModel" "first" "[I" ∈ wsX10_tells := by decide +kernel
  have lk97 : Cond.fieldLink RX10 97 "TributeFleetModel" "second" "[I" ∈ wsX10_tells := by decide +kernel
  refine ci_of (cc := cX10_tells) (maxL := 8) (ret := (some .int)) (by decide +kernel) rfl (Nat.le_of_ble_eq_true rfl) ?_
  intro pv ev sv mv args below meth cv A C hrt9 hnm9
  have C : Cx pv sv mv args meth cv cX10_tells 8 RX10 wsX10_tells G A LL ad := C
  show XJ pv l ev _ sv mv args below meth cv G A LL ad _ 8 0 0 _ 0 [(0, .ref (ad 30)), (1, .int day), (2, .int a), (3, .int r), (4, .int wo)] []
  refine x_aload_n C 0 dX10_tells_0 rfl rfl ?_
  refine x_iload_n C 1 dX10_tells_1 rfl rfl ?_
  refine x_Vi 30 C (k_X10_inForce l G nR LL ad hF S day t ht ht10) gX10_tells_X10_inForce rfl (by decide +kernel) ⟨(Nat.le_of_ble_eq_true rfl), (Nat.le_of_ble_eq_true rfl)⟩ ⟨(Nat.le_of_ble_eq_true rfl), (Nat.le_of_ble_eq_true rfl)⟩ (hF 30 (by decide)) (pf_30 G nR ad _) (T := TX10) (N := 45) rfl (n := 1) rfl (st := []) (Nat.le_of_ble_eq_true rfl) rfl dX10_tells_2 (fun _ _ hr9 => ?_)
  subst hr9
  rcases inF_ok (S := S) (day := day) t with hi9 | ⟨tt, htt, hi9⟩
  · rw [hi9]
    refine x_istore C (L1 := [(5, .int (-1)), (0, .ref (ad 30)), (1, .int day), (2, .int a), (3, .int r), (4, .int wo)]) dX10_tells_5 (by decide) rfl ?_
    refine x_iload C 5 dX10_tells_7 rfl ?_
    refine x_istore C (L1 := [(6, .int wo), (5, .int (-1)), (0, .ref (ad 30)), (1, .int day), (2, .int a), (3, .int r), (4, .int wo)]) dX10_tells_9 (by decide) rfl ?_
    refine x_bipush C dX10_tells_11 (v := 16) (by decide) ?_
    refine x_iload C 1 dX10_tells_13 rfl ?_
    refine x_imul C dX10_tells_15 ?_
    refine x_istore C (L1 := [(7, .int (16 * (-1))), (6, .int wo), (5, .int (-1)), (0, .ref (ad 30)), (1, .int day), (2, .int a), (3, .int r), (4, .int wo)]) dX10_tells_16 (by decide) rfl ?_
    refine x_iload C 2 dX10_tells_18 rfl ?_
    refine x_iconst C dX10_tells_20 (v := -1) (by decide) ?_
    refine x_icmp_eq C (tgt := 79) dX10_tells_21 (by decide) (fun c21 => ?_) (fun c21 => ?_)
    rotate_left
    · exact absurd (by decide) c21
    refine x_iload C 1 dX10_tells_79 rfl ?_
    refine x_iret C hrt9 () ?_ rfl dX10_tells_81
    show _ = _
    rw [mTells, if_pos hi9]
  · rw [hi9]
    obtain ⟨cc9, hc16, hc9⟩ := hst tt htt
    refine x_istore C (L1 := [(5, .int (nI tt)), (0, .ref (ad 30)), (1, .int day), (2, .int a), (3, .int r), (4, .int wo)]) dX10_tells_5 (by decide) rfl ?_
    refine x_iload C 5 dX10_tells_7 rfl ?_
    refine x_istore C (L1 := [(6, .int wo), (5, .int (nI tt)), (0, .ref (ad 30)), (1, .int day), (2, .int a), (3, .int r), (4, .int wo)]) dX10_tells_9 (by decide) rfl ?_
    refine x_bipush C dX10_tells_11 (v := 16) (by decide) ?_
    refine x_iload C 1 dX10_tells_13 rfl ?_
    refine x_imul C dX10_tells_15 ?_
    rw [show 16 * (nI tt) = nI (16 * tt) from (nI_ml 16 tt).symm]
    refine x_istore C (L1 := [(7, .int (nI (16 * tt))), (6, .int wo), (5, .int (nI tt)), (0, .ref (ad 30)), (1, .int day), (2, .int a), (3, .int r), (4, .int wo)]) dX10_tells_16 (by decide) rfl ?_
    have lp18 : ∀ (d9 : Nat) (k : Nat) (v : Int32), (k ≤ cc9) → (v = tellV S a r wo (16 * tt) k) → cc9 - k < d9 → XJ pv l ev ({ frames := 1, cells := 0, slots := 0, locals := 23 } : Room) sv mv args below meth cv G A LL ad (MQ below (va_Qi (fun x _ => x = mTells S t day a r wo) (tf_B G LL ad (fun (_ : Unit) => pw G nR ad S)) A) args sv 0 0 A) 8 0 0 (pw G nR ad S) 18 [(0, .ref (ad 30)), (1, .int day), (2, .int a), (3, .int r), (4, .int wo), (5, .int (nI tt)), (6, .int v), (7, .int (nI (16 * tt + k)))] [] := by
      intro d9
      induction d9 with
      | zero => intro k v hkn e0 hd9; omega
      | succ d9 ih18 =>
        intro k v hkn e0 hd9
        have ih := ih18
        refine x_iload C 5 dX10_tells_18 rfl ?_
        refine x_iconst C dX10_tells_20 (v := -1) (by decide) ?_
        refine x_icmp_eq C (tgt := 79) dX10_tells_21 (by decide) (fun c21 => ?_) (fun c21 => ?_)
        · skip
          exact absurd c21 (nI_nm (by omega))
        · skip
          refine x_iload C 7 dX10_tells_24 rfl ?_
          refine x_bipush C dX10_tells_26 (v := 16) (by decide) ?_
          refine x_iload C 5 dX10_tells_28 rfl ?_
          refine x_imul C dX10_tells_30 ?_
          refine x_aload_n C 0 dX10_tells_31 rfl rfl ?_
          refine x_get C (T := TX10) (N := 45) (v := .ref (ad 64)) 30 34 hin10 (hF 30 (by decide)) (pf_30 G nR ad _) rfl (by decide) lk85 rfl rfl dX10_tells_32 ?_
          refine x_iload C 5 dX10_tells_35 rfl ?_
          refine x_iald C 64 (hF 64 (by decide)) (pf_64 G nR ad _) (nI_in (N := 11) (show tt < 11 by omega) (by omega)) (kk := tt) (nI_clamp (by omega)) dX10_tells_37 ?_
          refine x_iadd C dX10_tells_38 ?_
          rw [show (16 * (nI tt)) + (S 64 (tt)) = nI (16 * tt + cc9) by rw [hc9, nI_ad, nI_ml]; rfl]
          refine x_icmp_ge C (tgt := 79) dX10_tells_39 (by decide) (fun c39 => ?_) (fun c39 => ?_)
          · skip
            refine x_iload C 6 dX10_tells_79 rfl ?_
            refine x_iret C hrt9 () ?_ rfl dX10_tells_81
            show _ = _
            have hge : 16 * tt + cc9 ≤ 16 * tt + k := nI_ge' c39 (by omega)
            rw [mTells, if_neg (by rw [hi9]; exact nI_nm (by omega)), hi9, nI_clamp (by omega), hc9, nI_clamp (by omega), e0, show k = cc9 by omega]
          · skip
            have hlt : k < cc9 := by
              have := nI_lt' c39 (by omega)
              omega
            refine x_aload_n C 0 dX10_tells_42 rfl rfl ?_
            refine x_get C (T := TX10) (N := 45) (v := .ref (ad 66)) 30 36 hin10 (hF 30 (by decide)) (pf_30 G nR ad _) rfl (by decide) lk91 rfl rfl dX10_tells_43 ?_
            refine x_iload C 7 dX10_tells_46 rfl ?_
            refine x_iald C 66 (hF 66 (by decide)) (pf_66 G nR ad _) (nI_in (N := 176) (show 16 * tt + k < 176 by omega) (by omega)) (kk := 16 * tt + k) (nI_clamp (by omega)) dX10_tells_48 ?_
            refine x_iload_n C 2 dX10_tells_49 rfl rfl ?_
            refine x_icmp_ne C (tgt := 73) dX10_tells_50 (by decide) (fun c50 => ?_) (fun c50 => ?_)
            · skip
              refine x_iinc C (L1 := [(7, .int ((nI (16 * tt + k)) + 1)), (0, .ref (ad 30)), (1, .int day), (2, .int a), (3, .int r), (4, .int wo), (5, .int (nI tt)), (6, .int v)]) 7 dX10_tells_73 rfl rfl (by decide) rfl ?_
              refine x_goto C (tgt := 18) dX10_tells_76 (by decide) ?_
              refine x_sub [1, 2, 3, 4, 5, 6, 7, 0] (L1 := [(0, .ref (ad 30)), (1, .int day), (2, .int a), (3, .int r), (4, .int wo), (5, .int (nI tt)), (6, .int v), (7, .int ((nI (16 * tt + k)) + 1))]) rfl ?_
              rw [← nI_succ]
              exact ih (k + 1) _ (by omega) (by rw [tellV, if_neg (fun h => c50 h.1)]; exact e0) (by omega)
            · skip
              refine x_aload_n C 0 dX10_tells_53 rfl rfl ?_
              refine x_get C (T := TX10) (N := 45) (v := .ref (ad 67)) 30 37 hin10 (hF 30 (by decide)) (pf_30 G nR ad _) rfl (by decide) lk94 rfl rfl dX10_tells_54 ?_
              refine x_iload C 7 dX10_tells_57 rfl ?_
              refine x_iald C 67 (hF 67 (by decide)) (pf_67 G nR ad _) (nI_in (N := 176) (show 16 * tt + k < 176 by omega) (by omega)) (kk := 16 * tt + k) (nI_clamp (by omega)) dX10_tells_59 ?_
              refine x_iload_n C 3 dX10_tells_60 rfl rfl ?_
              refine x_icmp_ne C (tgt := 73) dX10_tells_61 (by decide) (fun c61 => ?_) (fun c61 => ?_)
              · skip
                refine x_iinc C (L1 := [(7, .int ((nI (16 * tt + k)) + 1)), (0, .ref (ad 30)), (1, .int day), (2, .int a), (3, .int r), (4, .int wo), (5, .int (nI tt)), (6, .int v)]) 7 dX10_tells_73 rfl rfl (by decide) rfl ?_
                refine x_goto C (tgt := 18) dX10_tells_76 (by decide) ?_
                refine x_sub [1, 2, 3, 4, 5, 6, 7, 0] (L1 := [(0, .ref (ad 30)), (1, .int day), (2, .int a), (3, .int r), (4, .int wo), (5, .int (nI tt)), (6, .int v), (7, .int ((nI (16 * tt + k)) + 1))]) rfl ?_
                rw [← nI_succ]
                exact ih (k + 1) _ (by omega) (by rw [tellV, if_neg (fun h => c61 h.2)]; exact e0) (by omega)
              · skip
                refine x_aload_n C 0 dX10_tells_64 rfl rfl ?_
                refine x_get C (T := TX10) (N := 45) (v := .ref (ad 68)) 30 38 hin10 (hF 30 (by decide)) (pf_30 G nR ad _) rfl (by decide) lk97 rfl rfl dX10_tells_65 ?_
                refine x_iload C 7 dX10_tells_68 rfl ?_
                refine x_iald C 68 (hF 68 (by decide)) (pf_68 G nR ad _) (nI_in (N := 176) (show 16 * tt + k < 176 by omega) (by omega)) (kk := 16 * tt + k) (nI_clamp (by omega)) dX10_tells_70 ?_
                refine x_istore C (L1 := [(6, .int (S 68 (16 * tt + k))), (0, .ref (ad 30)), (1, .int day), (2, .int a), (3, .int r), (4, .int wo), (5, .int (nI tt)), (7, .int (nI (16 * tt + k)))]) dX10_tells_71 (by decide) rfl ?_
                refine x_iinc C (L1 := [(7, .int ((nI (16 * tt + k)) + 1)), (6, .int (S 68 (16 * tt + k))), (0, .ref (ad 30)), (1, .int day), (2, .int a), (3, .int r), (4, .int wo), (5, .int (nI tt))]) 7 dX10_tells_73 rfl rfl (by decide) rfl ?_
                refine x_goto C (tgt := 18) dX10_tells_76 (by decide) ?_
                refine x_sub [2, 3, 4, 5, 6, 7, 1, 0] (L1 := [(0, .ref (ad 30)), (1, .int day), (2, .int a), (3, .int r), (4, .int wo), (5, .int (nI tt)), (6, .int (S 68 (16 * tt + k))), (7, .int ((nI (16 * tt + k)) + 1))]) rfl ?_
                rw [← nI_succ]
                exact ih (k + 1) _ (by omega) (by rw [tellV, if_pos ⟨c50, c61⟩]) (by omega)
    refine x_sub [3, 4, 5, 6, 7, 2, 1, 0] (L1 := [(0, .ref (ad 30)), (1, .int day), (2, .int a), (3, .int r), (4, .int wo), (5, .int (nI tt)), (6, .int wo), (7, .int (nI (16 * tt)))]) rfl ?_
    exact lp18 (cc9 + 1) 0 wo (Nat.zero_le _) rfl (by omega)

set_option maxHeartbeats 4000000 in
set_option maxRecDepth 100000 in
theorem k_X10_allowed (l : Launch) (G : tf_G) (nR : Nat) (LL : List Nat) (ad : Nat → Nat) (hF : ∀ j ∈ tf_fix, j ∈ LL) (S : tf_M) (day r : Int32) (t : Nat) (ht : S 30 33 = nI t) (ht10 : t ≤ 10) (hst : ∀ k, k < t → ∃ c, c ≤ 16 ∧ S 64 k = nI c) : Ci l yX10_allowed wsX10_allowed ({ frames := 2, cells := 0, slots := 0, locals := 50 } : Room) G LL ad (fun (_ : Unit) => pw G nR ad S) (pw G nR ad S) [.ref (ad 30), .int day, .int r] (fun x _ => x = mTells S t day 1 r 3) := by
  refine ci_of (cc := cX10_allowed) (maxL := 3) (ret := (some .int)) (by decide +kernel) rfl (Nat.le_of_ble_eq_true rfl) ?_
  intro pv ev sv mv args below meth cv A C hrt9 hnm9
  have C : Cx pv sv mv args meth cv cX10_allowed 3 RX10 wsX10_allowed G A LL ad := C
  show XJ pv l ev _ sv mv args below meth cv G A LL ad _ 3 0 0 _ 0 [(0, .ref (ad 30)), (1, .int day), (2, .int r)] []
  refine x_aload_n C 0 dX10_allowed_0 rfl rfl ?_
  refine x_iload_n C 1 dX10_allowed_1 rfl rfl ?_
  refine x_iconst C dX10_allowed_2 (v := 1) (by decide) ?_
  refine x_iload_n C 2 dX10_allowed_3 rfl rfl ?_
  refine x_iconst C dX10_allowed_4 (v := 3) (by decide) ?_
  refine x_Vi 30 C (k_X10_tells l G nR LL ad hF S day 1 r 3 t ht ht10 hst) gX10_allowed_X10_tells rfl (by decide +kernel) ⟨(Nat.le_of_ble_eq_true rfl), (Nat.le_of_ble_eq_true rfl)⟩ ⟨(Nat.le_of_ble_eq_true rfl), (Nat.le_of_ble_eq_true rfl)⟩ (hF 30 (by decide)) (pf_30 G nR ad _) (T := TX10) (N := 45) rfl (n := 4) rfl (st := []) (Nat.le_of_ble_eq_true rfl) rfl dX10_allowed_5 (fun _ _ hr9 => ?_)
  subst hr9
  refine x_iret C hrt9 () ?_ rfl dX10_allowed_8
  rfl

set_option maxHeartbeats 4000000 in
set_option maxRecDepth 100000 in
theorem k_X10_law (l : Launch) (G : tf_G) (nR : Nat) (LL : List Nat) (ad : Nat → Nat) (hF : ∀ j ∈ tf_fix, j ∈ LL) (S : tf_M) (a b : Int32) (hn : S 30 0 = nI nR) (hR : nR ≤ 12) (t : Nat) (ht : S 30 33 = nI t) (ht10 : t ≤ 10) (hst : ∀ k, k < t → ∃ c, c ≤ 16 ∧ S 64 k = nI c) : Ci l yX10_law wsX10_law ({ frames := 3, cells := 0, slots := 0, locals := 72 } : Room) G LL ad (fun (_ : Unit) => pw G nR ad S) (pw G nR ad S) [.ref (ad 30), .int a, .int b] (fun x _ => x = mLaw nR S t a b) := by
  refine ci_of (cc := cX10_law) (maxL := 3) (ret := (some .int)) (by decide +kernel) rfl (Nat.le_of_ble_eq_true rfl) ?_
  intro pv ev sv mv args below meth cv A C hrt9 hnm9
  have C : Cx pv sv mv args meth cv cX10_law 3 RX10 wsX10_law G A LL ad := C
  show XJ pv l ev _ sv mv args below meth cv G A LL ad _ 3 0 0 _ 0 [(0, .ref (ad 30)), (1, .int a), (2, .int b)] []
  refine x_iload_n C 1 dX10_law_0 rfl rfl ?_
  refine x_iconst C dX10_law_1 (v := 0) (by decide) ?_
  refine x_sipush C dX10_law_2 (v := 400) (by decide) ?_
  refine x_Si C (k_X10_isIn l G LL ad _ a 0 400) gX10_law_X10_isIn rfl (by decide +kernel) ⟨(Nat.le_of_ble_eq_true rfl), (Nat.le_of_ble_eq_true rfl)⟩ ⟨(Nat.le_of_ble_eq_true rfl), (Nat.le_of_ble_eq_true rfl)⟩ (n := 3) rfl (st := []) (Nat.le_of_ble_eq_true rfl) rfl dX10_law_5 (fun _ _ hr9 => ?_)
  subst hr9
  refine x_if_ne C (tgt := 13) dX10_law_8 (by decide) (fun c8 => ?_) (fun c8 => ?_)
  · replace c8 := bI_nz c8
    refine x_iload_n C 2 dX10_law_13 rfl rfl ?_
    rcases sw_4 b with rfl | rfl | rfl | rfl | rfl | h9
    · skip
      refine x_tableIn C dX10_law_14 (by decide) (by decide) (off := 34) (tgt := 48) rfl (by decide) ?_
      refine x_aload_n C 0 dX10_law_48 rfl rfl ?_
      refine x_iload_n C 1 dX10_law_49 rfl rfl ?_
      refine x_iconst C dX10_law_50 (v := 0) (by decide) ?_
      refine x_iconst C dX10_law_51 (v := 0) (by decide) ?_
      refine x_iconst C dX10_law_52 (v := 2) (by decide) ?_
      refine x_Vi 30 C (k_X10_tells l G nR LL ad hF S a 0 0 2 t ht ht10 hst) gX10_law_X10_tells rfl (by decide +kernel) ⟨(Nat.le_of_ble_eq_true rfl), (Nat.le_of_ble_eq_true rfl)⟩ ⟨(Nat.le_of_ble_eq_true rfl), (Nat.le_of_ble_eq_true rfl)⟩ (hF 30 (by decide)) (pf_30 G nR ad _) (T := TX10) (N := 45) rfl (n := 4) rfl (st := []) (Nat.le_of_ble_eq_true rfl) rfl dX10_law_53 (fun _ _ hr9 => ?_)
      subst hr9
      refine x_iret C hrt9 () ?_ rfl dX10_law_56
      show _ = _
      rw [mLaw, if_pos c8]
      rfl
    · skip
      refine x_tableIn C dX10_law_14 (by decide) (by decide) (off := 43) (tgt := 57) rfl (by decide) ?_
      refine x_aload_n C 0 dX10_law_57 rfl rfl ?_
      refine x_iload_n C 1 dX10_law_58 rfl rfl ?_
      refine x_iconst C dX10_law_59 (v := 2) (by decide) ?_
      refine x_iconst C dX10_law_60 (v := 0) (by decide) ?_
      refine x_bipush C dX10_law_61 (v := 20) (by decide) ?_
      refine x_Vi 30 C (k_X10_tells l G nR LL ad hF S a 2 0 20 t ht ht10 hst) gX10_law_X10_tells rfl (by decide +kernel) ⟨(Nat.le_of_ble_eq_true rfl), (Nat.le_of_ble_eq_true rfl)⟩ ⟨(Nat.le_of_ble_eq_true rfl), (Nat.le_of_ble_eq_true rfl)⟩ (hF 30 (by decide)) (pf_30 G nR ad _) (T := TX10) (N := 45) rfl (n := 4) rfl (st := []) (Nat.le_of_ble_eq_true rfl) rfl dX10_law_63 (fun _ _ hr9 => ?_)
      subst hr9
      refine x_iret C hrt9 () ?_ rfl dX10_law_66
      show _ = _
      rw [mLaw, if_pos c8]
      rfl
    · skip
      refine x_tableIn C dX10_law_14 (by decide) (by decide) (off := 53) (tgt := 67) rfl (by decide) ?_
      refine x_aload_n C 0 dX10_law_67 rfl rfl ?_
      refine x_iload_n C 1 dX10_law_68 rfl rfl ?_
      refine x_iconst C dX10_law_69 (v := 3) (by decide) ?_
      refine x_iconst C dX10_law_70 (v := 0) (by decide) ?_
      refine x_iconst C dX10_law_71 (v := 2) (by decide) ?_
      refine x_Vi 30 C (k_X10_tells l G nR LL ad hF S a 3 0 2 t ht ht10 hst) gX10_law_X10_tells rfl (by decide +kernel) ⟨(Nat.le_of_ble_eq_true rfl), (Nat.le_of_ble_eq_true rfl)⟩ ⟨(Nat.le_of_ble_eq_true rfl), (Nat.le_of_ble_eq_true rfl)⟩ (hF 30 (by decide)) (pf_30 G nR ad _) (T := TX10) (N := 45) rfl (n := 4) rfl (st := []) (Nat.le_of_ble_eq_true rfl) rfl dX10_law_72 (fun _ _ hr9 => ?_)
      subst hr9
      refine x_iret C hrt9 () ?_ rfl dX10_law_75
      show _ = _
      rw [mLaw, if_pos c8]
      rfl
    · skip
      refine x_tableIn C dX10_law_14 (by decide) (by decide) (off := 62) (tgt := 76) rfl (by decide) ?_
      refine x_aload_n C 0 dX10_law_76 rfl rfl ?_
      refine x_iload_n C 1 dX10_law_77 rfl rfl ?_
      refine x_iconst C dX10_law_78 (v := 4) (by decide) ?_
      refine x_iconst C dX10_law_79 (v := 0) (by decide) ?_
      refine x_iconst C dX10_law_80 (v := 1) (by decide) ?_
      refine x_Vi 30 C (k_X10_tells l G nR LL ad hF S a 4 0 1 t ht ht10 hst) gX10_law_X10_tells rfl (by decide +kernel) ⟨(Nat.le_of_ble_eq_true rfl), (Nat.le_of_ble_eq_true rfl)⟩ ⟨(Nat.le_of_ble_eq_true rfl), (Nat.le_of_ble_eq_true rfl)⟩ (hF 30 (by decide)) (pf_30 G nR ad _) (T := TX10) (N := 45) rfl (n := 4) rfl (st := []) (Nat.le_of_ble_eq_true rfl) rfl dX10_law_81 (fun _ _ hr9 => ?_)
      subst hr9
      refine x_iret C hrt9 () ?_ rfl dX10_law_84
      show _ = _
      rw [mLaw, if_pos c8]
      rfl
    · skip
      refine x_tableIn C dX10_law_14 (by decide) (by decide) (off := 71) (tgt := 85) rfl (by decide) ?_
      refine x_aload_n C 0 dX10_law_85 rfl rfl ?_
      refine x_iload_n C 1 dX10_law_86 rfl rfl ?_
      refine x_Vi 30 C (k_X10_inForce l G nR LL ad hF S a t ht ht10) gX10_law_X10_inForce rfl (by decide +kernel) ⟨(Nat.le_of_ble_eq_true rfl), (Nat.le_of_ble_eq_true rfl)⟩ ⟨(Nat.le_of_ble_eq_true rfl), (Nat.le_of_ble_eq_true rfl)⟩ (hF 30 (by decide)) (pf_30 G nR ad _) (T := TX10) (N := 45) rfl (n := 1) rfl (st := []) (Nat.le_of_ble_eq_true rfl) rfl dX10_law_87 (fun _ _ hr9 => ?_)
      subst hr9
      refine x_iret C hrt9 () ?_ rfl dX10_law_90
      show _ = _
      rw [mLaw, if_pos c8]
      rfl
    · skip
      refine x_tableOut C dX10_law_14 h9.1 (tgt := 91) (by decide) ?_
      refine x_aload_n C 0 dX10_law_91 rfl rfl ?_
      refine x_iload_n C 2 dX10_law_92 rfl rfl ?_
      refine x_bipush C dX10_law_93 (v := 10) (by decide) ?_
      refine x_isub C dX10_law_95 ?_
      refine x_Vi 30 C (k_X10_isReach l G nR LL ad hF S (b - 10) hn hR) gX10_law_X10_isReach rfl (by decide +kernel) ⟨(Nat.le_of_ble_eq_true rfl), (Nat.le_of_ble_eq_true rfl)⟩ ⟨(Nat.le_of_ble_eq_true rfl), (Nat.le_of_ble_eq_true rfl)⟩ (hF 30 (by decide)) (pf_30 G nR ad _) (T := TX10) (N := 45) rfl (n := 1) rfl (st := []) (Nat.le_of_ble_eq_true rfl) rfl dX10_law_96 (fun _ _ hr9 => ?_)
      subst hr9
      refine x_if_eq C (tgt := 114) dX10_law_99 (by decide) (fun c99 => ?_) (fun c99 => ?_)
      · replace c99 := bI_z c99
        refine x_iconst C dX10_law_114 (v := -1) (by decide) ?_
        refine x_iret C hrt9 () ?_ rfl dX10_law_115
        show _ = _
        rw [mLaw, if_pos c8]
        simp [h9.2, c99]
      · replace c99 := bI_nz c99
        refine x_aload_n C 0 dX10_law_102 rfl rfl ?_
        refine x_iload_n C 1 dX10_law_103 rfl rfl ?_
        refine x_iload_n C 2 dX10_law_104 rfl rfl ?_
        refine x_bipush C dX10_law_105 (v := 10) (by decide) ?_
        refine x_isub C dX10_law_107 ?_
        refine x_Vi 30 C (k_X10_allowed l G nR LL ad hF S a (b - 10) t ht ht10 hst) gX10_law_X10_allowed rfl (by decide +kernel) ⟨(Nat.le_of_ble_eq_true rfl), (Nat.le_of_ble_eq_true rfl)⟩ ⟨(Nat.le_of_ble_eq_true rfl), (Nat.le_of_ble_eq_true rfl)⟩ (hF 30 (by decide)) (pf_30 G nR ad _) (T := TX10) (N := 45) rfl (n := 2) rfl (st := []) (Nat.le_of_ble_eq_true rfl) rfl dX10_law_108 (fun _ _ hr9 => ?_)
        subst hr9
        refine x_goto C (tgt := 115) dX10_law_111 (by decide) ?_
        refine x_iret C hrt9 () ?_ rfl dX10_law_115
        show _ = _
        rw [mLaw, if_pos c8]
        simp [h9.2, c99]
  · replace c8 := bI_z c8
    refine x_iconst C dX10_law_11 (v := -1) (by decide) ?_
    refine x_iret C hrt9 () ?_ rfl dX10_law_12
    show _ = _
    rw [mLaw, if_neg (by rw [c8]; decide)]

