/-! a whole text -/
def rdS (nR o w : Nat) (T : Nat → Int32) (N : Nat) : Nat → Nat → tf_M → Int32 × tf_M
  | 0, e, Z => (if tkK T N e = 0 then -1 else nI (tkS T N e), stepS Z N e)
  | j + 1, e, Z => if tkK T N e = 0 then (-1, stepS Z N e) else if (stm nR o w T N e).1 = true then rdS nR o w T N j (tkE T N (stm nR o w T N e).2.1) ((stm nR o w T N e).2.2 (stepS Z N (stm nR o w T N e).2.1)) else (nI (tkS T N (stm nR o w T N e).2.1), (stm nR o w T N e).2.2 (stepS Z N (stm nR o w T N e).2.1))
set_option maxHeartbeats 4000000 in
set_option maxRecDepth 100000 in
theorem k_X4_read (l : Launch) (G : tf_G) (nR : Nat) (LL : List Nat) (ad : Nat → Nat) (hF : ∀ j ∈ tf_fix, j ∈ LL) (S : tf_M) (N k : Nat) (hk : S 10 1 = nI k) (hNk : N ≤ k) (hk4 : k ≤ 400) (o w : Nat) (hq : StOk G nR LL ad o w) (hR : nR ≤ 12) (ho : 12 < o) (hw : 12 < w) : Ci l yX4_read wsX4_read ({ frames := 7, cells := 0, slots := 0, locals := 151 } : Room) G LL ad (pw G nR ad) (pw G nR ad S) [.ref (ad 12), .int (nI N), .ref (ad o)] (fun x u => x = (rdS nR o w (S 11) N 16 0 (s2 (s2 S 12 1 (nI N)) 12 3 0)).1 ∧ u = (rdS nR o w (S 11) N 16 0 (s2 (s2 S 12 1 (nI N)) 12 3 0)).2) := by
  have hin4 : ∀ w ∈ u_ws RX4 TX4 5, w ∈ wsX4_read := by decide +kernel
  have lk15 : Cond.fieldLink RX4 15 "TributeFleet$Reader" "length" "I" ∈ wsX4_read := by decide +kernel
  have lk22 : Cond.fieldLink RX4 22 "TributeFleet$Reader" "end" "I" ∈ wsX4_read := by decide +kernel
  have lk25 : Cond.fieldLink RX4 25 "TributeFleet$Reader" "kind" "I" ∈ wsX4_read := by decide +kernel
  have lk19 : Cond.fieldLink RX4 19 "TributeFleet$Reader" "start" "I" ∈ wsX4_read := by decide +kernel
  obtain ⟨T, hT0⟩ : ∃ T, S 11 = T := ⟨_, rfl⟩
  rw [hT0]
  refine ci_of (cc := cX4_read) (maxL := 4) (ret := (some .int)) (by decide +kernel) rfl (Nat.le_of_ble_eq_true rfl) ?_
  intro pv ev sv mv args below meth cv A C hrt9 hnm9
  have C : Cx pv sv mv args meth cv cX4_read 4 RX4 wsX4_read G A LL ad := C
  show XJ pv l ev _ sv mv args below meth cv G A LL ad _ 4 0 0 _ 0 [(0, .ref (ad 12)), (1, .int (nI N)), (2, .ref (ad o))] []
  refine x_aload_n C 0 dX4_read_0 rfl rfl ?_
  refine x_iload_n C 1 dX4_read_1 rfl rfl ?_
  refine y_put C (T := TX4) (N := 5) (ty := .int) 12 1 hin4 tyX4 tyX4_ok nmX4 (hF 12 (by decide)) (pf_12 G nR ad _) (pf_12 G nR ad _) rfl (by decide) lk15 rfl rfl (by decide +kernel) rfl rfl (Nat.le_of_ble_eq_true rfl) dX4_read_2 ?_
  refine x_aload_n C 0 dX4_read_5 rfl rfl ?_
  refine x_iconst C dX4_read_6 (v := 0) (by decide) ?_
  refine y_put C (T := TX4) (N := 5) (ty := .int) 12 3 hin4 tyX4 tyX4_ok nmX4 (hF 12 (by decide)) (pf_12 G nR ad _) (pf_12 G nR ad _) rfl (by decide) lk22 rfl rfl (by decide +kernel) rfl rfl (Nat.le_of_ble_eq_true rfl) dX4_read_7 ?_
  refine x_iconst C dX4_read_10 (v := 0) (by decide) ?_
  refine x_istore_n C (L1 := [(3, .int 0), (0, .ref (ad 12)), (1, .int (nI N)), (2, .ref (ad o))]) dX4_read_11 rfl (by decide) rfl ?_
  have lp12 : ∀ (d9 : Nat) (i e : Nat) (Z : tf_M), (i ≤ 16) → (e ≤ N) → (Z 12 3 = nI e) → (Z 12 1 = nI N) → (Z 10 1 = nI k) → (Z 11 = T) → (rdS nR o w T N (16 - i) e Z = rdS nR o w T N 16 0 (s2 (s2 S 12 1 (nI N)) 12 3 0)) → 16 - i < d9 → XJ pv l ev ({ frames := 7, cells := 0, slots := 0, locals := 151 } : Room) sv mv args below meth cv G A LL ad (MQ below (va_Qi (fun x u => x = (rdS nR o w T N 16 0 (s2 (s2 S 12 1 (nI N)) 12 3 0)).1 ∧ u = (rdS nR o w T N 16 0 (s2 (s2 S 12 1 (nI N)) 12 3 0)).2) (tf_B G LL ad (pw G nR ad)) A) args sv 0 0 A) 4 0 0 (pw G nR ad Z) 12 [(0, .ref (ad 12)), (1, .int (nI N)), (2, .ref (ad o)), (3, .int (nI i))] [] := by
    intro d9
    induction d9 with
    | zero => intro i e Z hi16 heN he hN1 hk1 hT hr hd9; omega
    | succ d9 ih12 =>
      intro i e Z hi16 heN he hN1 hk1 hT hr hd9
      have ih := ih12
      refine x_iload_n C 3 dX4_read_12 rfl rfl ?_
      refine x_bipush C dX4_read_13 (v := 16) (by decide) ?_
      refine x_icmp_ge C (tgt := 50) dX4_read_15 (by decide) (fun c15 => ?_) (fun c15 => ?_)
      · skip
        refine x_aload_n C 0 dX4_read_50 rfl rfl ?_
        refine x_Vv 12 C (k_X4_step l G nR LL ad hF Z N e k hN1 he hk1 hNk hk4 heN) gX4_read_X4_step rfl (by decide +kernel) ⟨(Nat.le_of_ble_eq_true rfl), (Nat.le_of_ble_eq_true rfl)⟩ ⟨(Nat.le_of_ble_eq_true rfl), (Nat.le_of_ble_eq_true rfl)⟩ (hF 12 (by decide)) (pf_12 G nR ad _) (T := TX4) (N := 5) rfl (n := 0) rfl (st := []) (Nat.le_of_ble_eq_true rfl) rfl dX4_read_51 (fun _ hr9 => ?_)
        subst hr9
        refine x_aload_n C 0 dX4_read_54 rfl rfl ?_
        refine x_get C (T := TX4) (N := 5) (v := .int ((stepS Z N e) 12 4)) 12 4 hin4 (hF 12 (by decide)) (pf_12 G nR ad _) rfl (by decide) lk25 rfl rfl dX4_read_55 ?_
        refine x_if_ne C (tgt := 65) dX4_read_58 (by decide) (fun c58 => ?_) (fun c58 => ?_)
        · skip
          have hkd : ¬ tkK T N e = 0 := by rw [← hT]; exact c58
          refine x_aload_n C 0 dX4_read_65 rfl rfl ?_
          refine x_get C (T := TX4) (N := 5) (v := .int ((stepS Z N e) 12 2)) 12 2 hin4 (hF 12 (by decide)) (pf_12 G nR ad _) rfl (by decide) lk19 rfl rfl dX4_read_66 ?_
          refine x_iret C hrt9 (stepS Z N e) ?_ rfl dX4_read_69
          have hge : 16 ≤ i := nI_ge' (b := 16) c15 (by decide)
          rw [← hr, show 16 - i = 0 by omega, rdS, if_neg hkd]
          exact ⟨by show nI (tkS (Z 11) N e) = _; rw [hT], rfl⟩
        · skip
          have hkd : tkK T N e = 0 := by rw [← hT]; exact c58
          refine x_iconst C dX4_read_61 (v := -1) (by decide) ?_
          refine x_goto C (tgt := 69) dX4_read_62 (by decide) ?_
          refine x_iret C hrt9 (stepS Z N e) ?_ rfl dX4_read_69
          have hge : 16 ≤ i := nI_ge' (b := 16) c15 (by decide)
          rw [← hr, show 16 - i = 0 by omega, rdS, if_pos hkd]
          exact ⟨by rfl, rfl⟩
      · skip
        have hlt : i < 16 := nI_lt' (b := 16) c15 (by omega)
        refine x_aload_n C 0 dX4_read_18 rfl rfl ?_
        refine x_Vv 12 C (k_X4_step l G nR LL ad hF Z N e k hN1 he hk1 hNk hk4 heN) gX4_read_X4_step rfl (by decide +kernel) ⟨(Nat.le_of_ble_eq_true rfl), (Nat.le_of_ble_eq_true rfl)⟩ ⟨(Nat.le_of_ble_eq_true rfl), (Nat.le_of_ble_eq_true rfl)⟩ (hF 12 (by decide)) (pf_12 G nR ad _) (T := TX4) (N := 5) rfl (n := 0) rfl (st := []) (Nat.le_of_ble_eq_true rfl) rfl dX4_read_19 (fun _ hr9 => ?_)
        subst hr9
        refine x_aload_n C 0 dX4_read_22 rfl rfl ?_
        refine x_get C (T := TX4) (N := 5) (v := .int ((stepS Z N e) 12 4)) 12 4 hin4 (hF 12 (by decide)) (pf_12 G nR ad _) rfl (by decide) lk25 rfl rfl dX4_read_23 ?_
        refine x_if_ne C (tgt := 31) dX4_read_26 (by decide) (fun c26 => ?_) (fun c26 => ?_)
        · skip
          have hkd : ¬ tkK T N e = 0 := by rw [← hT]; exact c26
          refine x_aload_n C 0 dX4_read_31 rfl rfl ?_
          refine x_aload_n C 2 dX4_read_32 rfl rfl ?_
          refine x_Vi 12 C (k_X4_takeStatement l G nR LL ad hF Z N e k hN1 hk1 hNk hk4 heN o w hq hR ho hw) gX4_read_X4_takeStatement rfl (by decide +kernel) ⟨(Nat.le_of_ble_eq_true rfl), (Nat.le_of_ble_eq_true rfl)⟩ ⟨(Nat.le_of_ble_eq_true rfl), (Nat.le_of_ble_eq_true rfl)⟩ (hF 12 (by decide)) (pf_12 G nR ad _) (T := TX4) (N := 5) rfl (n := 1) rfl (st := []) (Nat.le_of_ble_eq_true rfl) rfl dX4_read_33 (fun r9 u9 hr9 => ?_)
          rw [hT] at hr9
          obtain ⟨rfl, rfl⟩ : r9 = bI (stm nR o w T N e).1 ∧ u9 = ((stm nR o w T N e).2.2 (stepS Z N (stm nR o w T N e).2.1)) := hr9
          refine x_if_ne C (tgt := 44) dX4_read_36 (by decide) (fun c36 => ?_) (fun c36 => ?_)
          · replace c36 := bI_nz c36
            refine x_iinc C (L1 := [(3, .int ((nI i) + 1)), (0, .ref (ad 12)), (1, .int (nI N)), (2, .ref (ad o))]) 3 dX4_read_44 rfl rfl (by decide) rfl ?_
            refine x_goto C (tgt := 12) dX4_read_47 (by decide) ?_
            refine x_sub [1, 2, 3, 0] (L1 := [(0, .ref (ad 12)), (1, .int (nI N)), (2, .ref (ad o)), (3, .int ((nI i) + 1))]) rfl ?_
            rw [← nI_succ]
            obtain ⟨tr1, tr2⟩ := stm_ok (nR := nR) (T := T) ho hw heN
            refine ih (i + 1) (tkE T N (stm nR o w T N e).2.1) _ (by omega) (tk_le tr2).2.2 (by rw [tr1.2 _ 12 (by decide), ← hT]; rfl) (by rw [tr1.2 _ 12 (by decide)]; exact hN1) (by rw [tr1.2 _ 10 (by decide)]; exact hk1) (by rw [tr1.2 _ 11 (by decide)]; exact hT) (by rw [← hr, show 16 - i = (16 - (i + 1)) + 1 by omega, rdS, if_neg hkd, if_pos c36]) (by omega)
          · replace c36 := bI_z c36
            obtain ⟨tr1, tr2⟩ := stm_ok (nR := nR) (T := T) ho hw heN
            have hst9 : (stm nR o w T N e).2.2 (stepS Z N (stm nR o w T N e).2.1) 12 2 = nI (tkS T N (stm nR o w T N e).2.1) := by rw [tr1.2 _ 12 (by decide), ← hT]; rfl
            refine x_aload_n C 0 dX4_read_39 rfl rfl ?_
            refine x_get C (T := TX4) (N := 5) (v := .int (((stm nR o w T N e).2.2 (stepS Z N (stm nR o w T N e).2.1)) 12 2)) 12 2 hin4 (hF 12 (by decide)) (pf_12 G nR ad _) rfl (by decide) lk19 rfl rfl dX4_read_40 ?_
            refine x_iret C hrt9 ((stm nR o w T N e).2.2 (stepS Z N (stm nR o w T N e).2.1)) ?_ rfl dX4_read_43
            rw [← hr, show 16 - i = (16 - (i + 1)) + 1 by omega, rdS, if_neg hkd, if_neg (by rw [c36]; decide)]
            exact ⟨hst9, rfl⟩
        · skip
          have hkd : tkK T N e = 0 := by rw [← hT]; exact c26
          refine x_iconst C dX4_read_29 (v := -1) (by decide) ?_
          refine x_iret C hrt9 (stepS Z N e) ?_ rfl dX4_read_30
          rw [← hr, show 16 - i = (16 - (i + 1)) + 1 by omega, rdS, if_pos hkd]
          exact ⟨rfl, rfl⟩
  refine x_sub [1, 2, 3, 0] (L1 := [(0, .ref (ad 12)), (1, .int (nI N)), (2, .ref (ad o)), (3, .int 0)]) rfl ?_
  exact lp12 17 0 0 _ (by omega) (Nat.zero_le _) rfl rfl hk hT0 rfl (by omega)

