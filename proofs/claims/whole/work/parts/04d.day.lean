/-! day, least -/
theorem insDown_ok {n i : Nat} {q : Int32} (hi : i < n) : ∀ (z : Nat) (S : tf_M), z ≤ i → LnOk S n i → (z < i → LnOk S n (i + 1)) → LnOk (insDown S i q z) n (i + 1) := by
  intro z
  induction z with
  | zero =>
    intro S hz h1 h2
    unfold insDown
    by_cases e : 0 = i
    · exact (h1.put hi (by omega)).2 e
    · exact ((h2 (by omega)).put hi (by omega)).1
  | succ z ih =>
    intro S hz h1 h2
    by_cases g : ahead S i (S 9 z).toNatClampNeg q = true
    · rw [insDown_t g]
      obtain ⟨j, hj, e9⟩ := h1 z (by omega)
      rw [e9]
      have hb := h1.put (p := z + 1) (j := j) hj hz
      refine ih _ (by omega) hb.1 (fun _ => ?_)
      by_cases e : z + 1 = i
      · exact hb.2 e
      · exact ((h2 (by omega)).put hj (by omega)).1
    · rw [insDown_f (Bool.eq_false_iff.mpr g)]
      by_cases e : z + 1 = i
      · exact (h1.put hi hz).2 e
      · exact ((h2 (by omega)).put hi (by omega)).1
theorem lineAll_ok {S : tf_M} {n : Nat} {q : Int32} : ∀ i, i ≤ n → LnOk (lineAll S q i) n i := by
  intro i
  induction i with
  | zero => exact fun _ z hz => absurd hz (Nat.not_lt_zero z)
  | succ i ih => exact fun hi => insDown_ok (by omega) i _ (Nat.le_refl i) (ih (by omega)) (fun h => absurd h (Nat.lt_irrefl i))
set_option maxHeartbeats 4000000 in
set_option maxRecDepth 100000 in
theorem k_X9_day (l : Launch) (G : tf_G) (nR : Nat) (LL : List Nat) (ad : Nat → Nat) (hF : ∀ j ∈ tf_fix, j ∈ LL) (S : tf_M) (n t nk : Nat) (hfl : FlOk G nR LL ad S n) (hcd : CdOk G nR LL ad S t) (hk : S 1 6 = nI nk) (hk4 : nk ≤ 4) (hn : S 1 0 = nI nR) (hR : nR ≤ 12) (hR3 : 3 ≤ nR) (hlk : ∀ k, k < nk → isP (S 4 k) (S 1 0) = true) : Ci l yX9_day wsX9_day ({ frames := 5, cells := 0, slots := 0, locals := 113 } : Room) G LL ad (pw G nR ad) (pw G nR ad S) [.ref (ad 0)] (fun x u => x = (if S 0 7 < 400 then S 0 7 + 1 else -1) ∧ u = if S 0 7 < 400 then dayS nR n t nk S else S) := by
  have hin9 : ∀ w ∈ u_ws RX9 TX9 9, w ∈ wsX9_day := by decide +kernel
  have lk71 : Cond.fieldLink RX9 71 "TributeFleet" "today" "I" ∈ wsX9_day := by decide +kernel
  have lk23 : Cond.fieldLink RX9 23 "TributeFleet" "canal" "LTributeFleet$Canal;" ∈ wsX9_day := by decide +kernel
  have lk30 : Cond.fieldLink RX9 30 "TributeFleet" "fleet" "LTributeFleet$Fleet;" ∈ wsX9_day := by decide +kernel
  have lk53 : Cond.fieldLink RX9 53 "TributeFleet" "code" "LTributeFleet$Code;" ∈ wsX9_day := by decide +kernel
  have hin7 : ∀ w ∈ u_ws RX7 TX7 7, w ∈ wsX9_day := by decide +kernel
  have lk189 : Cond.fieldLink RX9 189 "TributeFleet$Statute" "order" "I" ∈ wsX9_day := by decide +kernel
  have hin0 : ∀ w ∈ u_ws RX0 TX0 9, w ∈ wsX9_day := by decide +kernel
  have lk123 : Cond.fieldLink RX9 123 "TributeFleet$Canal" "reaches" "I" ∈ wsX9_day := by decide +kernel
  refine ci_of (cc := cX9_day) (maxL := 2) (ret := (some .int)) (by decide +kernel) rfl (Nat.le_of_ble_eq_true rfl) ?_
  intro pv ev sv mv args below meth cv A C hrt9 hnm9
  have C : Cx pv sv mv args meth cv cX9_day 2 RX9 wsX9_day G A LL ad := C
  show XJ pv l ev _ sv mv args below meth cv G A LL ad _ 2 0 0 _ 0 [(0, .ref (ad 0))] []
  refine x_aload_n C 0 dX9_day_0 rfl rfl ?_
  refine x_get C (T := TX9) (N := 9) (v := .int (S 0 7)) 0 7 hin9 (hF 0 (by decide)) (pf_0 G nR ad _) rfl (by decide) lk71 rfl rfl dX9_day_1 ?_
  refine x_sipush C dX9_day_4 (v := 400) (by decide) ?_
  refine x_icmp_lt C (tgt := 12) dX9_day_7 (by decide) (fun c7 => ?_) (fun c7 => ?_)
  · skip
    refine x_aload_n C 0 dX9_day_12 rfl rfl ?_
    refine x_get C (T := TX9) (N := 9) (v := .ref (ad 1)) 0 0 hin9 (hF 0 (by decide)) (pf_0 G nR ad _) rfl (by decide) lk23 rfl rfl dX9_day_13 ?_
    refine x_Vv 1 C (k_X0_takeFromLakes l G nR LL ad hF S nk hk hk4 hn hR hlk) gX9_day_X0_takeFromLakes rfl (by decide +kernel) ⟨(Nat.le_of_ble_eq_true rfl), (Nat.le_of_ble_eq_true rfl)⟩ ⟨(Nat.le_of_ble_eq_true rfl), (Nat.le_of_ble_eq_true rfl)⟩ (hF 1 (by decide)) (pf_1 G nR ad _) (T := TX0) (N := 9) rfl (n := 0) rfl (st := []) (Nat.le_of_ble_eq_true rfl) rfl dX9_day_16 (fun _ hr9 => ?_)
    subst hr9
    have hfl1 := hfl.keep (S1 := lkAll S 2 5 6 4 nk) (lkAll_ne (by decide) (by decide) nk) (lkAll_ne (by decide) (by decide) nk)
    refine x_aload_n C 0 dX9_day_19 rfl rfl ?_
    refine x_get C (T := TX9) (N := 9) (v := .ref (ad 7)) 0 1 hin9 (hF 0 (by decide)) (pf_0 G nR ad _) rfl (by decide) lk30 rfl rfl dX9_day_20 ?_
    refine x_Vv 7 C (k_X3_beginDay l G nR LL ad hF (lkAll S 2 5 6 4 nk) n hfl1 hR) gX9_day_X3_beginDay rfl (by decide +kernel) ⟨(Nat.le_of_ble_eq_true rfl), (Nat.le_of_ble_eq_true rfl)⟩ ⟨(Nat.le_of_ble_eq_true rfl), (Nat.le_of_ble_eq_true rfl)⟩ (hF 7 (by decide)) (pf_7 G nR ad _) (T := TX3) (N := 3) rfl (n := 0) rfl (st := []) (Nat.le_of_ble_eq_true rfl) rfl dX9_day_23 (fun _ hr9 => ?_)
    subst hr9
    have e2 : ∀ x, x < 100 ∨ 300 ≤ x → (bgAll nR (lkAll S 2 5 6 4 nk) n) x = (lkAll S 2 5 6 4 nk) x := fun x hx => bgAll_ne hx n (by have := hfl.2.1; omega)
    have hfl2 := hfl1.keep (S1 := (bgAll nR (lkAll S 2 5 6 4 nk) n)) (e2 7 (by decide)) (e2 8 (by decide))
    have hcd2 : CdOk G nR LL ad (bgAll nR (lkAll S 2 5 6 4 nk) n) t := hcd.keep (by rw [e2 13 (by decide), lkAll_ne (by decide) (by decide)]) (by rw [e2 14 (by decide), lkAll_ne (by decide) (by decide)])
    refine x_aload_n C 0 dX9_day_26 rfl rfl ?_
    refine x_get C (T := TX9) (N := 9) (v := .ref (ad 7)) 0 1 hin9 (hF 0 (by decide)) (pf_0 G nR ad _) rfl (by decide) lk30 rfl rfl dX9_day_27 ?_
    refine x_aload_n C 0 dX9_day_30 rfl rfl ?_
    refine x_get C (T := TX9) (N := 9) (v := .ref (ad 13)) 0 4 hin9 (hF 0 (by decide)) (pf_0 G nR ad _) rfl (by decide) lk53 rfl rfl dX9_day_31 ?_
    refine x_aload_n C 0 dX9_day_34 rfl rfl ?_
    refine x_get C (T := TX9) (N := 9) (v := .int ((bgAll nR (lkAll S 2 5 6 4 nk) n) 0 7)) 0 7 hin9 (hF 0 (by decide)) (pf_0 G nR ad _) rfl (by decide) lk71 rfl rfl dX9_day_35 ?_
    refine x_Vq 13 C (k_X1_inForce l G nR LL ad hF (bgAll nR (lkAll S 2 5 6 4 nk) n) t hcd2 ((bgAll nR (lkAll S 2 5 6 4 nk) n) 0 7)) gX9_day_X1_inForce rfl (by decide +kernel) ⟨(Nat.le_of_ble_eq_true rfl), (Nat.le_of_ble_eq_true rfl)⟩ ⟨(Nat.le_of_ble_eq_true rfl), (Nat.le_of_ble_eq_true rfl)⟩ (hF 13 (by decide)) (pf_13 G nR ad _) (T := TX1) (N := 3) rfl (n := 1) rfl (st := [.ref (ad 7)]) (Nat.le_of_ble_eq_true rfl) rfl dX9_day_38 (fun _ _ hr9 => ?_)
    subst hr9
    refine x_get C (T := TX7) (N := 7) (v := .int ((bgAll nR (lkAll S 2 5 6 4 nk) n) (frc (bgAll nR (lkAll S 2 5 6 4 nk) n) ((bgAll nR (lkAll S 2 5 6 4 nk) n) 0 7) t) 3)) (frc (bgAll nR (lkAll S 2 5 6 4 nk) n) ((bgAll nR (lkAll S 2 5 6 4 nk) n) 0 7) t) 3 hin7 (frc_ok hcd2 _).2.2.1 ((frc_ok hcd2 _).1 _) rfl (by decide) lk189 rfl rfl dX9_day_41 ?_
    refine x_Vv 7 C (k_X3_lineUp l G nR LL ad hF (bgAll nR (lkAll S 2 5 6 4 nk) n) n hfl2 hR ((bgAll nR (lkAll S 2 5 6 4 nk) n) (frc (bgAll nR (lkAll S 2 5 6 4 nk) n) ((bgAll nR (lkAll S 2 5 6 4 nk) n) 0 7) t) 3)) gX9_day_X3_lineUp rfl (by decide +kernel) ⟨(Nat.le_of_ble_eq_true rfl), (Nat.le_of_ble_eq_true rfl)⟩ ⟨(Nat.le_of_ble_eq_true rfl), (Nat.le_of_ble_eq_true rfl)⟩ (hF 7 (by decide)) (pf_7 G nR ad _) (T := TX3) (N := 3) rfl (n := 1) rfl (st := []) (Nat.le_of_ble_eq_true rfl) rfl dX9_day_44 (fun _ hr9 => ?_)
    subst hr9
    have hfl3 := hfl2.keep (S1 := (lineAll (bgAll nR (lkAll S 2 5 6 4 nk) n) ((bgAll nR (lkAll S 2 5 6 4 nk) n) (frc (bgAll nR (lkAll S 2 5 6 4 nk) n) ((bgAll nR (lkAll S 2 5 6 4 nk) n) 0 7) t) 3) n)) (lineAll_ne (by decide) _ _) (lineAll_ne (by decide) _ _)
    have hln3 : LnOk (lineAll (bgAll nR (lkAll S 2 5 6 4 nk) n) ((bgAll nR (lkAll S 2 5 6 4 nk) n) (frc (bgAll nR (lkAll S 2 5 6 4 nk) n) ((bgAll nR (lkAll S 2 5 6 4 nk) n) 0 7) t) 3) n) n n := lineAll_ok n (Nat.le_refl n)
    have hn3 : (lineAll (bgAll nR (lkAll S 2 5 6 4 nk) n) ((bgAll nR (lkAll S 2 5 6 4 nk) n) (frc (bgAll nR (lkAll S 2 5 6 4 nk) n) ((bgAll nR (lkAll S 2 5 6 4 nk) n) 0 7) t) 3) n) 1 0 = nI nR := by rw [lineAll_ne (by decide), e2 1 (by decide), lkAll_ne (by decide) (by decide)]; exact hn
    obtain ⟨S3, hS3⟩ : ∃ z, z = (lineAll (bgAll nR (lkAll S 2 5 6 4 nk) n) ((bgAll nR (lkAll S 2 5 6 4 nk) n) (frc (bgAll nR (lkAll S 2 5 6 4 nk) n) ((bgAll nR (lkAll S 2 5 6 4 nk) n) 0 7) t) 3) n) := ⟨_, rfl⟩
    rw [← hS3] at hfl3 hln3 hn3
    rw [← hS3]
    refine x_aload_n C 0 dX9_day_47 rfl rfl ?_
    refine x_get C (T := TX9) (N := 9) (v := .ref (ad 1)) 0 0 hin9 (hF 0 (by decide)) (pf_0 G nR ad _) rfl (by decide) lk23 rfl rfl dX9_day_48 ?_
    refine x_get C (T := TX0) (N := 9) (v := .int (S3 1 0)) 1 0 hin0 (hF 1 (by decide)) (pf_1 G nR ad _) rfl (by decide) lk123 rfl rfl dX9_day_51 ?_
    refine x_iconst C dX9_day_54 (v := 2) (by decide) ?_
    refine x_isub C dX9_day_55 ?_
    refine x_istore_n C (L1 := [(1, .int ((S3 1 0) - 2)), (0, .ref (ad 0))]) dX9_day_56 rfl (by decide) rfl ?_
    have lp57 : ∀ (k : Nat) (Z : tf_M), (k ≤ nR - 1) → (wkDn nR n k Z = wkDn nR n (nR - 1) S3) → (∀ x, wkKeep x → Z x = S3 x) → XJ pv l ev ({ frames := 5, cells := 0, slots := 0, locals := 113 } : Room) sv mv args below meth cv G A LL ad (MQ below (va_Qi (fun x u => x = (if S 0 7 < 400 then S 0 7 + 1 else -1) ∧ u = if S 0 7 < 400 then dayS nR n t nk S else S) (tf_B G LL ad (pw G nR ad)) A) args sv 0 0 A) 2 0 0 (pw G nR ad Z) 57 [(0, .ref (ad 0)), (1, .int (nI k - 1))] [] := by
      intro k
      induction k with
      | zero =>
        intro Z hkn hr9 hkp
        rw [show nI 0 - 1 = -1 from rfl]
        refine x_iload_n C 1 dX9_day_57 rfl rfl ?_
        refine x_if_lt C (tgt := 72) dX9_day_58 (by decide) (fun c58 => ?_) (fun c58 => ?_)
        rotate_left
        · exact absurd (by decide) c58
        refine x_aload_n C 0 dX9_day_72 rfl rfl ?_
        refine x_dup C dX9_day_73 rfl ?_
        refine x_get C (T := TX9) (N := 9) (v := .int (Z 0 7)) 0 7 hin9 (hF 0 (by decide)) (pf_0 G nR ad _) rfl (by decide) lk71 rfl rfl dX9_day_74 ?_
        refine x_iconst C dX9_day_77 (v := 1) (by decide) ?_
        refine x_iadd C dX9_day_78 ?_
        refine y_put C (T := TX9) (N := 9) (ty := .int) 0 7 hin9 tyX9 tyX9_ok nmX9 (hF 0 (by decide)) (pf_0 G nR ad _) (pf_0 G nR ad _) rfl (by decide) lk71 rfl rfl (by decide +kernel) rfl rfl (Nat.le_of_ble_eq_true rfl) dX9_day_79 ?_
        refine x_aload_n C 0 dX9_day_82 rfl rfl ?_
        refine x_get C (T := TX9) (N := 9) (v := .int ((Z 0 7) + 1)) 0 7 hin9 (hF 0 (by decide)) (pf_0 G nR ad _) rfl (by decide) lk71 rfl rfl dX9_day_83 ?_
        refine x_iret C hrt9 (s2 Z 0 7 ((Z 0 7) + 1)) ?_ rfl dX9_day_86
        rw [if_pos c7, if_pos c7]
        have hZ : Z = wkDn nR n (nR - 1) S3 := hr9
        refine ⟨?_, ?_⟩
        · show Z 0 7 + 1 = _
          rw [hkp 0 ⟨by decide, Or.inl (by decide)⟩, hS3, lineAll_ne (by decide), e2 0 (by decide), lkAll_ne (by decide) (by decide)]
        · rw [hZ, hS3]
          rfl
      | succ k ih57 =>
        intro Z hkn hr9 hkp
        have ih := ih57
        rw [nI_pred]
        have hflZ := hfl3.keep (S1 := Z) (hkp 7 ⟨by decide, Or.inl (by decide)⟩) (hkp 8 ⟨by decide, Or.inl (by decide)⟩)
        have hlnZ : LnOk Z n n := fun x hx => by rw [hkp 9 ⟨by decide, Or.inl (by decide)⟩]; exact hln3 x hx
        have hnZ : Z 1 0 = nI nR := by rw [hkp 1 ⟨by decide, Or.inl (by decide)⟩]; exact hn3
        refine x_iload_n C 1 dX9_day_57 rfl rfl ?_
        refine x_if_lt C (tgt := 72) dX9_day_58 (by decide) (fun c58 => ?_) (fun c58 => ?_)
        · skip
          exact absurd c58 (nI_pos (by omega))
        · skip
          refine x_aload_n C 0 dX9_day_61 rfl rfl ?_
          refine x_iload_n C 1 dX9_day_62 rfl rfl ?_
          refine x_Vv 0 C (k_X9_workLock l G nR LL ad hF Z (nI k) n hflZ hlnZ hnZ hR (by omega)) gX9_day_X9_workLock rfl (by decide +kernel) ⟨(Nat.le_of_ble_eq_true rfl), (Nat.le_of_ble_eq_true rfl)⟩ ⟨(Nat.le_of_ble_eq_true rfl), (Nat.le_of_ble_eq_true rfl)⟩ (hF 0 (by decide)) (pf_0 G nR ad _) (T := TX9) (N := 9) rfl (n := 1) rfl (st := []) (Nat.le_of_ble_eq_true rfl) rfl dX9_day_63 (fun _ hr9 => ?_)
          subst hr9
          refine x_iinc C (L1 := [(1, .int ((nI k) - 1)), (0, .ref (ad 0))]) 1 dX9_day_66 rfl (i_dec1 _) (by decide) rfl ?_
          refine x_goto C (tgt := 57) dX9_day_69 (by decide) ?_
          refine x_sub [1, 0] (L1 := [(0, .ref (ad 0)), (1, .int ((nI k) - 1))]) rfl ?_
          exact ih _ (by omega) (by rw [← hr9]; rfl) (fun x hx => by rw [wkAll_ne hx hlnZ hfl.2.1 n (Nat.le_refl n)]; exact hkp x hx)
    refine x_sub [1, 0] (L1 := [(0, .ref (ad 0)), (1, .int ((S3 1 0) - 2))]) rfl ?_
    rw [hn3, show nI nR - 2 = nI (nR - 1) - 1 by rw [show (2 : Int32) = nI 2 from rfl, nI_sub (by omega), nI_sub1 (by omega)]; congr 1]
    exact lp57 (nR - 1) S3 (Nat.le_refl _) rfl (fun _ _ => rfl)
  · skip
    refine x_iconst C dX9_day_10 (v := -1) (by decide) ?_
    refine x_iret C hrt9 S ?_ rfl dX9_day_11
    rw [if_neg c7, if_neg c7]
    exact ⟨rfl, rfl⟩

def dtp (a b : Int32) : Int32 := if 1 ≤ b then (a + b - 1) / b else 0
set_option maxHeartbeats 4000000 in
set_option maxRecDepth 100000 in
theorem k_X9_daysToPass (l : Launch) (G : tf_G) (LL : List Nat) (ad : Nat → Nat) (P : Nat → va_E) (a b : Int32) : Ci l yX9_daysToPass wsX9_daysToPass ({ frames := 0, cells := 0, slots := 0, locals := 0 } : Room) G LL ad (fun (_ : Unit) => P) P [.int a, .int b] (fun r _ => r = dtp a b) := by
  refine ci_of (cc := cX9_daysToPass) (maxL := 2) (ret := (some .int)) (by decide +kernel) rfl (Nat.le_of_ble_eq_true rfl) ?_
  intro pv ev sv mv args below meth cv A C hrt9 hnm9
  have C : Cx pv sv mv args meth cv cX9_daysToPass 2 RX9 wsX9_daysToPass G A LL ad := C
  show XJ pv l ev _ sv mv args below meth cv G A LL ad _ 2 0 0 _ 0 [(0, .int a), (1, .int b)] []
  refine x_iload_n C 1 dX9_daysToPass_0 rfl rfl ?_
  refine x_iconst C dX9_daysToPass_1 (v := 1) (by decide) ?_
  refine x_icmp_ge C (tgt := 9) dX9_daysToPass_2 (by decide) (fun c2 => ?_) (fun c2 => ?_)
  · skip
    refine x_iload_n C 0 dX9_daysToPass_9 rfl rfl ?_
    refine x_iload_n C 1 dX9_daysToPass_10 rfl rfl ?_
    refine x_iadd C dX9_daysToPass_11 ?_
    refine x_iconst C dX9_daysToPass_12 (v := 1) (by decide) ?_
    refine x_isub C dX9_daysToPass_13 ?_
    refine x_iload_n C 1 dX9_daysToPass_14 rfl rfl ?_
    refine x_idiv C dX9_daysToPass_15 (fun h => by rw [h] at c2; exact absurd c2 (by decide)) ?_
    refine x_iret C hrt9 () ?_ rfl dX9_daysToPass_16
    show _ = _
    rw [dtp, if_pos c2]
  · skip
    refine x_iconst C dX9_daysToPass_5 (v := 0) (by decide) ?_
    refine x_goto C (tgt := 16) dX9_daysToPass_6 (by decide) ?_
    refine x_iret C hrt9 () ?_ rfl dX9_daysToPass_16
    show _ = _
    rw [dtp, if_neg c2]

def bcF (x : Int32) : Int32 :=
  let a := x - (us x 1 &&& 1431655765)
  let b := (a &&& 858993459) + (us a 2 &&& 858993459)
  let c := (b + us b 4) &&& 252645135
  let d := c + us c 8
  let e := d + us d 16
  e &&& 63
set_option maxHeartbeats 4000000 in
set_option maxRecDepth 100000 in
theorem k_J6_bitCount_0f7a4 (l : Launch) (G : tf_G) (LL : List Nat) (ad : Nat → Nat) (P : Nat → va_E) (x : Int32) : Ci l yJ6_bitCount_0f7a4 wsJ6_bitCount_0f7a4 ({ frames := 0, cells := 0, slots := 0, locals := 0 } : Room) G LL ad (fun (_ : Unit) => P) P [.int x] (fun r _ => r = bcF x) := by
  refine ci_of (cc := cJ6_bitCount_0f7a4) (maxL := 1) (ret := (some .int)) (by decide +kernel) rfl (Nat.le_of_ble_eq_true rfl) ?_
  intro pv ev sv mv args below meth cv A C hrt9 hnm9
  have C : Cx pv sv mv args meth cv cJ6_bitCount_0f7a4 1 RJ6 wsJ6_bitCount_0f7a4 G A LL ad := C
  show XJ pv l ev _ sv mv args below meth cv G A LL ad _ 1 0 0 _ 0 [(0, .int x)] []
  refine x_iload_n C 0 dJ6_bitCount_0f7a4_0 rfl rfl ?_
  refine x_iload_n C 0 dJ6_bitCount_0f7a4_1 rfl rfl ?_
  refine x_iconst C dJ6_bitCount_0f7a4_2 (v := 1) (by decide) ?_
  refine x_iushr C dJ6_bitCount_0f7a4_3 ?_
  refine x_ldc_w C (v := 1431655765) (by decide +kernel) dJ6_bitCount_0f7a4_4 ?_
  refine x_iand C dJ6_bitCount_0f7a4_7 ?_
  refine x_isub C dJ6_bitCount_0f7a4_8 ?_
  refine x_istore_n C (L1 := [(0, .int (x - ((us x 1) &&& 1431655765)))]) dJ6_bitCount_0f7a4_9 rfl (by decide) rfl ?_
  obtain ⟨a, ha⟩ : ∃ z, z = x - ((us x 1) &&& 1431655765) := ⟨_, rfl⟩
  rw [← ha]
  refine x_iload_n C 0 dJ6_bitCount_0f7a4_10 rfl rfl ?_
  refine x_ldc_w C (v := 858993459) (by decide +kernel) dJ6_bitCount_0f7a4_11 ?_
  refine x_iand C dJ6_bitCount_0f7a4_14 ?_
  refine x_iload_n C 0 dJ6_bitCount_0f7a4_15 rfl rfl ?_
  refine x_iconst C dJ6_bitCount_0f7a4_16 (v := 2) (by decide) ?_
  refine x_iushr C dJ6_bitCount_0f7a4_17 ?_
  refine x_ldc_w C (v := 858993459) (by decide +kernel) dJ6_bitCount_0f7a4_18 ?_
  refine x_iand C dJ6_bitCount_0f7a4_21 ?_
  refine x_iadd C dJ6_bitCount_0f7a4_22 ?_
  refine x_istore_n C (L1 := [(0, .int ((a &&& 858993459) + ((us a 2) &&& 858993459)))]) dJ6_bitCount_0f7a4_23 rfl (by decide) rfl ?_
  obtain ⟨b, hb⟩ : ∃ z, z = (a &&& 858993459) + ((us a 2) &&& 858993459) := ⟨_, rfl⟩
  rw [← hb]
  refine x_iload_n C 0 dJ6_bitCount_0f7a4_24 rfl rfl ?_
  refine x_iload_n C 0 dJ6_bitCount_0f7a4_25 rfl rfl ?_
  refine x_iconst C dJ6_bitCount_0f7a4_26 (v := 4) (by decide) ?_
  refine x_iushr C dJ6_bitCount_0f7a4_27 ?_
  refine x_iadd C dJ6_bitCount_0f7a4_28 ?_
  refine x_ldc_w C (v := 252645135) (by decide +kernel) dJ6_bitCount_0f7a4_29 ?_
  refine x_iand C dJ6_bitCount_0f7a4_32 ?_
  refine x_istore_n C (L1 := [(0, .int ((b + (us b 4)) &&& 252645135))]) dJ6_bitCount_0f7a4_33 rfl (by decide) rfl ?_
  obtain ⟨c, hc⟩ : ∃ z, z = (b + (us b 4)) &&& 252645135 := ⟨_, rfl⟩
  rw [← hc]
  refine x_iload_n C 0 dJ6_bitCount_0f7a4_34 rfl rfl ?_
  refine x_iload_n C 0 dJ6_bitCount_0f7a4_35 rfl rfl ?_
  refine x_bipush C dJ6_bitCount_0f7a4_36 (v := 8) (by decide) ?_
  refine x_iushr C dJ6_bitCount_0f7a4_38 ?_
  refine x_iadd C dJ6_bitCount_0f7a4_39 ?_
  refine x_istore_n C (L1 := [(0, .int (c + (us c 8)))]) dJ6_bitCount_0f7a4_40 rfl (by decide) rfl ?_
  obtain ⟨d, hd⟩ : ∃ z, z = c + (us c 8) := ⟨_, rfl⟩
  rw [← hd]
  refine x_iload_n C 0 dJ6_bitCount_0f7a4_41 rfl rfl ?_
  refine x_iload_n C 0 dJ6_bitCount_0f7a4_42 rfl rfl ?_
  refine x_bipush C dJ6_bitCount_0f7a4_43 (v := 16) (by decide) ?_
  refine x_iushr C dJ6_bitCount_0f7a4_45 ?_
  refine x_iadd C dJ6_bitCount_0f7a4_46 ?_
  refine x_istore_n C (L1 := [(0, .int (d + (us d 16)))]) dJ6_bitCount_0f7a4_47 rfl (by decide) rfl ?_
  obtain ⟨e, he⟩ : ∃ z, z = d + (us d 16) := ⟨_, rfl⟩
  rw [← he]
  refine x_iload_n C 0 dJ6_bitCount_0f7a4_48 rfl rfl ?_
  refine x_bipush C dJ6_bitCount_0f7a4_49 (v := 63) (by decide) ?_
  refine x_iand C dJ6_bitCount_0f7a4_51 ?_
  refine x_iret C hrt9 () ?_ rfl dJ6_bitCount_0f7a4_52
  show _ = _
  rw [he, hd, hc, hb, ha]
  rfl

