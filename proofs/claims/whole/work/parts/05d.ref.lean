set_option maxHeartbeats 4000000 in
set_option maxRecDepth 100000 in
theorem k_X10_isAhead (l : Launch) (G : tf_G) (nR : Nat) (LL : List Nat) (ad : Nat → Nat) (hF : ∀ j ∈ tf_fix, j ∈ LL) (S : tf_M) (i j : Nat) (hi : i < 12) (hj : j < 12) (q : Int32) : Ci l yX10_isAhead wsX10_isAhead ({ frames := 0, cells := 0, slots := 0, locals := 0 } : Room) G LL ad (fun (_ : Unit) => pw G nR ad S) (pw G nR ad S) [.ref (ad 30), .int (nI i), .int (nI j), .int q] (fun x _ => x = bI (mAhead S i j q)) := by
  have hin10 : ∀ w ∈ u_ws RX10 TX10 45, w ∈ wsX10_isAhead := by decide +kernel
  have lk32 : Cond.fieldLink RX10 32 "TributeFleetModel" "boats" "[I" ∈ wsX10_isAhead := by decide +kernel
  have lk29 : Cond.fieldLink RX10 29 "TributeFleetModel" "county" "[I" ∈ wsX10_isAhead := by decide +kernel
  refine ci_of (cc := cX10_isAhead) (maxL := 5) (ret := (some .boolean)) (by decide +kernel) rfl (Nat.le_of_ble_eq_true rfl) ?_
  intro pv ev sv mv args below meth cv A C hrt9 hnm9
  have C : Cx pv sv mv args meth cv cX10_isAhead 5 RX10 wsX10_isAhead G A LL ad := C
  show XJ pv l ev _ sv mv args below meth cv G A LL ad _ 5 0 0 _ 0 [(0, .ref (ad 30)), (1, .int (nI i)), (2, .int (nI j)), (3, .int q)] []
  refine x_iload_n C 3 dX10_isAhead_0 rfl rfl ?_
  refine x_if_ne C (tgt := 20) dX10_isAhead_1 (by decide) (fun c1 => ?_) (fun c1 => ?_)
  · skip
    refine x_iload_n C 3 dX10_isAhead_20 rfl rfl ?_
    refine x_iconst C dX10_isAhead_21 (v := 1) (by decide) ?_
    refine x_icmp_ne C (tgt := 41) dX10_isAhead_22 (by decide) (fun c22 => ?_) (fun c22 => ?_)
    · skip
      refine x_iconst C dX10_isAhead_41 (v := 0) (by decide) ?_
      refine x_istore C (L1 := [(4, .int 0), (0, .ref (ad 30)), (1, .int (nI i)), (2, .int (nI j)), (3, .int q)]) dX10_isAhead_42 (by decide) rfl ?_
      refine x_iload C 0 dX10_isAhead_44 rfl ?_
      refine x_if_eq C (tgt := 62) dX10_isAhead_46 (by decide) (fun c46 => ?_) (fun c46 => ?_)
      rotate_left
      · exact absurd (by decide) c46
      refine x_iload_n C 2 dX10_isAhead_62 rfl rfl ?_
      refine x_iload_n C 3 dX10_isAhead_63 rfl rfl ?_
      refine x_icmp_ge C (tgt := 71) dX10_isAhead_64 (by decide) (fun c64 => ?_) (fun c64 => ?_)
      · skip
        refine x_iconst C dX10_isAhead_71 (v := 0) (by decide) ?_
        refine x_zret C hrt9 (Or.inl rfl) () ?_ rfl dX10_isAhead_72
        have hlt9 : (nI i < nI j) ↔ i < j := ⟨fun h => nI_lt2 h (by omega), fun h => nI_lt h (by omega)⟩
        show _ = _
        unfold mAhead
        simp [c1, c22, c64, bI, hlt9]
        try simp_all [← Int32.not_le]
      · skip
        refine x_iconst C dX10_isAhead_67 (v := 1) (by decide) ?_
        refine x_goto C (tgt := 72) dX10_isAhead_68 (by decide) ?_
        refine x_zret C hrt9 (Or.inr rfl) () ?_ rfl dX10_isAhead_72
        have hlt9 : (nI i < nI j) ↔ i < j := ⟨fun h => nI_lt2 h (by omega), fun h => nI_lt h (by omega)⟩
        show _ = _
        unfold mAhead
        simp [c1, c22, c64, bI, hlt9]
        try simp_all [← Int32.not_le]
    · skip
      refine x_aload_n C 0 dX10_isAhead_25 rfl rfl ?_
      refine x_get C (T := TX10) (N := 45) (v := .ref (ad 43)) 30 13 hin10 (hF 30 (by decide)) (pf_30 G nR ad _) rfl (by decide) lk32 rfl rfl dX10_isAhead_26 ?_
      refine x_iload_n C 1 dX10_isAhead_29 rfl rfl ?_
      refine x_iald C 43 (hF 43 (by decide)) (pf_43 G nR ad _) (nI_in (N := 12) (show i < 12 by omega) (by omega)) (kk := i) (nI_clamp (by omega)) dX10_isAhead_30 ?_
      refine x_aload_n C 0 dX10_isAhead_31 rfl rfl ?_
      refine x_get C (T := TX10) (N := 45) (v := .ref (ad 43)) 30 13 hin10 (hF 30 (by decide)) (pf_30 G nR ad _) rfl (by decide) lk32 rfl rfl dX10_isAhead_32 ?_
      refine x_iload_n C 2 dX10_isAhead_35 rfl rfl ?_
      refine x_iald C 43 (hF 43 (by decide)) (pf_43 G nR ad _) (nI_in (N := 12) (show j < 12 by omega) (by omega)) (kk := j) (nI_clamp (by omega)) dX10_isAhead_36 ?_
      refine x_isub C dX10_isAhead_37 ?_
      refine x_goto C (tgt := 42) dX10_isAhead_38 (by decide) ?_
      refine x_istore C (L1 := [(4, .int ((S 43 (i)) - (S 43 (j)))), (0, .ref (ad 30)), (1, .int (nI i)), (2, .int (nI j)), (3, .int q)]) dX10_isAhead_42 (by decide) rfl ?_
      refine x_iload C 0 dX10_isAhead_44 rfl ?_
      refine x_if_eq C (tgt := 62) dX10_isAhead_46 (by decide) (fun c46 => ?_) (fun c46 => ?_)
      · skip
        refine x_iload_n C 2 dX10_isAhead_62 rfl rfl ?_
        refine x_iload_n C 3 dX10_isAhead_63 rfl rfl ?_
        refine x_icmp_ge C (tgt := 71) dX10_isAhead_64 (by decide) (fun c64 => ?_) (fun c64 => ?_)
        · skip
          refine x_iconst C dX10_isAhead_71 (v := 0) (by decide) ?_
          refine x_zret C hrt9 (Or.inl rfl) () ?_ rfl dX10_isAhead_72
          have hlt9 : (nI i < nI j) ↔ i < j := ⟨fun h => nI_lt2 h (by omega), fun h => nI_lt h (by omega)⟩
          show _ = _
          unfold mAhead
          simp [c1, c22, c46, c64, bI, hlt9]
          try simp_all [← Int32.not_le]
        · skip
          refine x_iconst C dX10_isAhead_67 (v := 1) (by decide) ?_
          refine x_goto C (tgt := 72) dX10_isAhead_68 (by decide) ?_
          refine x_zret C hrt9 (Or.inr rfl) () ?_ rfl dX10_isAhead_72
          have hlt9 : (nI i < nI j) ↔ i < j := ⟨fun h => nI_lt2 h (by omega), fun h => nI_lt h (by omega)⟩
          show _ = _
          unfold mAhead
          simp [c1, c22, c46, c64, bI, hlt9]
          try simp_all [← Int32.not_le]
      · skip
        refine x_iload C 0 dX10_isAhead_49 rfl ?_
        refine x_if_le C (tgt := 58) dX10_isAhead_51 (by decide) (fun c51 => ?_) (fun c51 => ?_)
        · skip
          refine x_iconst C dX10_isAhead_58 (v := 0) (by decide) ?_
          refine x_goto C (tgt := 72) dX10_isAhead_59 (by decide) ?_
          refine x_zret C hrt9 (Or.inl rfl) () ?_ rfl dX10_isAhead_72
          have hlt9 : (nI i < nI j) ↔ i < j := ⟨fun h => nI_lt2 h (by omega), fun h => nI_lt h (by omega)⟩
          show _ = _
          unfold mAhead
          simp [c1, c22, c46, c51, bI, hlt9]
          try simp_all [← Int32.not_le]
        · skip
          refine x_iconst C dX10_isAhead_54 (v := 1) (by decide) ?_
          refine x_goto C (tgt := 72) dX10_isAhead_55 (by decide) ?_
          refine x_zret C hrt9 (Or.inr rfl) () ?_ rfl dX10_isAhead_72
          have hlt9 : (nI i < nI j) ↔ i < j := ⟨fun h => nI_lt2 h (by omega), fun h => nI_lt h (by omega)⟩
          show _ = _
          unfold mAhead
          simp [c1, c22, c46, c51, bI, hlt9]
          try simp_all [← Int32.not_le]
  · skip
    refine x_aload_n C 0 dX10_isAhead_4 rfl rfl ?_
    refine x_get C (T := TX10) (N := 45) (v := .ref (ad 42)) 30 12 hin10 (hF 30 (by decide)) (pf_30 G nR ad _) rfl (by decide) lk29 rfl rfl dX10_isAhead_5 ?_
    refine x_iload_n C 2 dX10_isAhead_8 rfl rfl ?_
    refine x_iald C 42 (hF 42 (by decide)) (pf_42 G nR ad _) (nI_in (N := 12) (show j < 12 by omega) (by omega)) (kk := j) (nI_clamp (by omega)) dX10_isAhead_9 ?_
    refine x_aload_n C 0 dX10_isAhead_10 rfl rfl ?_
    refine x_get C (T := TX10) (N := 45) (v := .ref (ad 42)) 30 12 hin10 (hF 30 (by decide)) (pf_30 G nR ad _) rfl (by decide) lk29 rfl rfl dX10_isAhead_11 ?_
    refine x_iload_n C 1 dX10_isAhead_14 rfl rfl ?_
    refine x_iald C 42 (hF 42 (by decide)) (pf_42 G nR ad _) (nI_in (N := 12) (show i < 12 by omega) (by omega)) (kk := i) (nI_clamp (by omega)) dX10_isAhead_15 ?_
    refine x_isub C dX10_isAhead_16 ?_
    refine x_goto C (tgt := 42) dX10_isAhead_17 (by decide) ?_
    refine x_istore C (L1 := [(4, .int ((S 42 (j)) - (S 42 (i)))), (0, .ref (ad 30)), (1, .int (nI i)), (2, .int (nI j)), (3, .int q)]) dX10_isAhead_42 (by decide) rfl ?_
    refine x_iload C 0 dX10_isAhead_44 rfl ?_
    refine x_if_eq C (tgt := 62) dX10_isAhead_46 (by decide) (fun c46 => ?_) (fun c46 => ?_)
    · skip
      refine x_iload_n C 2 dX10_isAhead_62 rfl rfl ?_
      refine x_iload_n C 3 dX10_isAhead_63 rfl rfl ?_
      refine x_icmp_ge C (tgt := 71) dX10_isAhead_64 (by decide) (fun c64 => ?_) (fun c64 => ?_)
      · skip
        refine x_iconst C dX10_isAhead_71 (v := 0) (by decide) ?_
        refine x_zret C hrt9 (Or.inl rfl) () ?_ rfl dX10_isAhead_72
        have hlt9 : (nI i < nI j) ↔ i < j := ⟨fun h => nI_lt2 h (by omega), fun h => nI_lt h (by omega)⟩
        show _ = _
        unfold mAhead
        simp [c1, c46, c64, bI, hlt9]
        try simp_all [← Int32.not_le]
      · skip
        refine x_iconst C dX10_isAhead_67 (v := 1) (by decide) ?_
        refine x_goto C (tgt := 72) dX10_isAhead_68 (by decide) ?_
        refine x_zret C hrt9 (Or.inr rfl) () ?_ rfl dX10_isAhead_72
        have hlt9 : (nI i < nI j) ↔ i < j := ⟨fun h => nI_lt2 h (by omega), fun h => nI_lt h (by omega)⟩
        show _ = _
        unfold mAhead
        simp [c1, c46, c64, bI, hlt9]
        try simp_all [← Int32.not_le]
    · skip
      refine x_iload C 0 dX10_isAhead_49 rfl ?_
      refine x_if_le C (tgt := 58) dX10_isAhead_51 (by decide) (fun c51 => ?_) (fun c51 => ?_)
      · skip
        refine x_iconst C dX10_isAhead_58 (v := 0) (by decide) ?_
        refine x_goto C (tgt := 72) dX10_isAhead_59 (by decide) ?_
        refine x_zret C hrt9 (Or.inl rfl) () ?_ rfl dX10_isAhead_72
        have hlt9 : (nI i < nI j) ↔ i < j := ⟨fun h => nI_lt2 h (by omega), fun h => nI_lt h (by omega)⟩
        show _ = _
        unfold mAhead
        simp [c1, c46, c51, bI, hlt9]
        try simp_all [← Int32.not_le]
      · skip
        refine x_iconst C dX10_isAhead_54 (v := 1) (by decide) ?_
        refine x_goto C (tgt := 72) dX10_isAhead_55 (by decide) ?_
        refine x_zret C hrt9 (Or.inr rfl) () ?_ rfl dX10_isAhead_72
        have hlt9 : (nI i < nI j) ↔ i < j := ⟨fun h => nI_lt2 h (by omega), fun h => nI_lt h (by omega)⟩
        show _ = _
        unfold mAhead
        simp [c1, c46, c51, bI, hlt9]
        try simp_all [← Int32.not_le]

set_option maxHeartbeats 4000000 in
set_option maxRecDepth 100000 in
theorem k_X10_next (l : Launch) (G : tf_G) (nR : Nat) (LL : List Nat) (ad : Nat → Nat) (hF : ∀ j ∈ tf_fix, j ∈ LL) (S : tf_M) (q : Int32) (n : Nat) (hz : S 30 5 = nI n) (h12 : n ≤ 12) : Ci l yX10_next wsX10_next ({ frames := 1, cells := 0, slots := 0, locals := 24 } : Room) G LL ad (fun (_ : Unit) => pw G nR ad S) (pw G nR ad S) [.ref (ad 30), .int q] (fun x _ => x = mNext S q n) := by
  have hin10 : ∀ w ∈ u_ws RX10 TX10 45, w ∈ wsX10_next := by decide +kernel
  have lk128 : Cond.fieldLink RX10 128 "TributeFleetModel" "squadrons" "I" ∈ wsX10_next := by decide +kernel
  have lk100 : Cond.fieldLink RX10 100 "TributeFleetModel" "hasGone" "[Z" ∈ wsX10_next := by decide +kernel
  refine ci_of (cc := cX10_next) (maxL := 4) (ret := (some .int)) (by decide +kernel) rfl (Nat.le_of_ble_eq_true rfl) ?_
  intro pv ev sv mv args below meth cv A C hrt9 hnm9
  have C : Cx pv sv mv args meth cv cX10_next 4 RX10 wsX10_next G A LL ad := C
  show XJ pv l ev _ sv mv args below meth cv G A LL ad _ 4 0 0 _ 0 [(0, .ref (ad 30)), (1, .int q)] []
  refine x_iconst C dX10_next_0 (v := -1) (by decide) ?_
  refine x_istore_n C (L1 := [(2, .int (-1)), (0, .ref (ad 30)), (1, .int q)]) dX10_next_1 rfl (by decide) rfl ?_
  refine x_iconst C dX10_next_2 (v := 0) (by decide) ?_
  refine x_istore_n C (L1 := [(3, .int 0), (2, .int (-1)), (0, .ref (ad 30)), (1, .int q)]) dX10_next_3 rfl (by decide) rfl ?_
  have lp4 : ∀ (d9 : Nat) (k : Nat) (b : Int32), (k ≤ n) → (b = mNext S q k) → n - k < d9 → XJ pv l ev ({ frames := 1, cells := 0, slots := 0, locals := 24 } : Room) sv mv args below meth cv G A LL ad (MQ below (va_Qi (fun x _ => x = mNext S q n) (tf_B G LL ad (fun (_ : Unit) => pw G nR ad S)) A) args sv 0 0 A) 4 0 0 (pw G nR ad S) 4 [(0, .ref (ad 30)), (1, .int q), (2, .int b), (3, .int (nI k))] [] := by
    intro d9
    induction d9 with
    | zero => intro k b hkn e0 hd9; omega
    | succ d9 ih4 =>
      intro k b hkn e0 hd9
      have ih := ih4
      refine x_iload_n C 3 dX10_next_4 rfl rfl ?_
      refine x_aload_n C 0 dX10_next_5 rfl rfl ?_
      refine x_get C (T := TX10) (N := 45) (v := .int (S 30 5)) 30 5 hin10 (hF 30 (by decide)) (pf_30 G nR ad _) rfl (by decide) lk128 rfl rfl dX10_next_6 ?_
      refine x_icmp_ge C (tgt := 44) dX10_next_9 (by decide) (fun c9 => ?_) (fun c9 => ?_)
      · skip
        have hge : n ≤ k := nI_ge' (by rw [← hz]; exact c9) (by omega)
        refine x_iload_n C 2 dX10_next_44 rfl rfl ?_
        refine x_iret C hrt9 () ?_ rfl dX10_next_45
        show _ = _
        rw [e0, show k = n by omega]
      · skip
        have hlt : k < n := nI_lt' (by rw [← hz]; exact c9) (by omega)
        refine x_aload_n C 0 dX10_next_12 rfl rfl ?_
        refine x_get C (T := TX10) (N := 45) (v := .ref (ad 71)) 30 41 hin10 (hF 30 (by decide)) (pf_30 G nR ad _) rfl (by decide) lk100 rfl rfl dX10_next_13 ?_
        refine x_iload_n C 3 dX10_next_16 rfl rfl ?_
        refine x_zald C 71 (hF 71 (by decide)) (pf_71 G nR ad _) (nI_in (N := 12) (show k < 12 by omega) (by omega)) (kk := k) (nI_clamp (by omega)) dX10_next_17 ?_
        refine x_if_ne C (tgt := 38) dX10_next_18 (by decide) (fun c18 => ?_) (fun c18 => ?_)
        · skip
          refine x_iinc C (L1 := [(3, .int ((nI k) + 1)), (0, .ref (ad 30)), (1, .int q), (2, .int b)]) 3 dX10_next_38 rfl rfl (by decide) rfl ?_
          refine x_goto C (tgt := 4) dX10_next_41 (by decide) ?_
          refine x_sub [1, 2, 3, 0] (L1 := [(0, .ref (ad 30)), (1, .int q), (2, .int b), (3, .int ((nI k) + 1))]) rfl ?_
          rw [← nI_succ]
          exact ih (k + 1) _ (by omega) (by rw [mNext, ← e0]; simp [c18]) (by omega)
        · skip
          refine x_iload_n C 2 dX10_next_21 rfl rfl ?_
          refine x_iconst C dX10_next_22 (v := -1) (by decide) ?_
          refine x_icmp_eq C (tgt := 36) dX10_next_23 (by decide) (fun c23 => ?_) (fun c23 => ?_)
          · skip
            refine x_iload_n C 3 dX10_next_36 rfl rfl ?_
            refine x_istore_n C (L1 := [(2, .int (nI k)), (0, .ref (ad 30)), (1, .int q), (3, .int (nI k))]) dX10_next_37 rfl (by decide) rfl ?_
            refine x_iinc C (L1 := [(3, .int ((nI k) + 1)), (2, .int (nI k)), (0, .ref (ad 30)), (1, .int q)]) 3 dX10_next_38 rfl rfl (by decide) rfl ?_
            refine x_goto C (tgt := 4) dX10_next_41 (by decide) ?_
            refine x_sub [2, 3, 1, 0] (L1 := [(0, .ref (ad 30)), (1, .int q), (2, .int (nI k)), (3, .int ((nI k) + 1))]) rfl ?_
            rw [← nI_succ]
            exact ih (k + 1) _ (by omega) (by rw [mNext, ← e0]; simp [c18, c23]) (by omega)
          · skip
            refine x_aload_n C 0 dX10_next_26 rfl rfl ?_
            refine x_iload_n C 3 dX10_next_27 rfl rfl ?_
            refine x_iload_n C 2 dX10_next_28 rfl rfl ?_
            refine x_iload_n C 1 dX10_next_29 rfl rfl ?_
            have hb9 : b = nI b.toNatClampNeg ∧ b.toNatClampNeg < 12 := by
              rcases mNext_ok (S := S) (q := q) k with h | ⟨j, h1, h2⟩
              · exact absurd (e0.trans h) c23
              · rw [e0, h2, nI_clamp (by omega)]; exact ⟨rfl, by omega⟩
            obtain ⟨hb8, hb9⟩ := hb9
            rw [show ([.int q, .int b, .int (nI k), .ref (ad 30)] : List Value) = [.int q, .int (nI b.toNatClampNeg), .int (nI k), .ref (ad 30)] by rw [← hb8]]
            refine x_Vi 30 C (k_X10_isAhead l G nR LL ad hF S k b.toNatClampNeg (by omega) (by omega) q) gX10_next_X10_isAhead rfl (by decide +kernel) ⟨(Nat.le_of_ble_eq_true rfl), (Nat.le_of_ble_eq_true rfl)⟩ ⟨(Nat.le_of_ble_eq_true rfl), (Nat.le_of_ble_eq_true rfl)⟩ (hF 30 (by decide)) (pf_30 G nR ad _) (T := TX10) (N := 45) rfl (n := 3) rfl (st := []) (Nat.le_of_ble_eq_true rfl) rfl dX10_next_30 (fun r9 _ hr9 => ?_)
            obtain rfl : r9 = bI (mAhead S k b.toNatClampNeg q) := hr9
            refine x_if_eq C (tgt := 38) dX10_next_33 (by decide) (fun c33 => ?_) (fun c33 => ?_)
            · replace c33 := bI_z c33
              refine x_iinc C (L1 := [(3, .int ((nI k) + 1)), (0, .ref (ad 30)), (1, .int q), (2, .int b)]) 3 dX10_next_38 rfl rfl (by decide) rfl ?_
              refine x_goto C (tgt := 4) dX10_next_41 (by decide) ?_
              refine x_sub [1, 2, 3, 0] (L1 := [(0, .ref (ad 30)), (1, .int q), (2, .int b), (3, .int ((nI k) + 1))]) rfl ?_
              rw [← nI_succ]
              exact ih (k + 1) _ (by omega) (by rw [mNext, ← e0]; simp [c18, c23, c33]) (by omega)
            · replace c33 := bI_nz c33
              refine x_iload_n C 3 dX10_next_36 rfl rfl ?_
              refine x_istore_n C (L1 := [(2, .int (nI k)), (0, .ref (ad 30)), (1, .int q), (3, .int (nI k))]) dX10_next_37 rfl (by decide) rfl ?_
              refine x_iinc C (L1 := [(3, .int ((nI k) + 1)), (2, .int (nI k)), (0, .ref (ad 30)), (1, .int q)]) 3 dX10_next_38 rfl rfl (by decide) rfl ?_
              refine x_goto C (tgt := 4) dX10_next_41 (by decide) ?_
              refine x_sub [2, 3, 1, 0] (L1 := [(0, .ref (ad 30)), (1, .int q), (2, .int (nI k)), (3, .int ((nI k) + 1))]) rfl ?_
              rw [← nI_succ]
              exact ih (k + 1) _ (by omega) (by rw [mNext, ← e0]; simp [c18, c23, c33]) (by omega)
  refine x_sub [2, 3, 1, 0] (L1 := [(0, .ref (ad 30)), (1, .int q), (2, .int (-1)), (3, .int 0)]) rfl ?_
  exact lp4 (n + 1) 0 (-1) (Nat.zero_le _) rfl (by omega)

