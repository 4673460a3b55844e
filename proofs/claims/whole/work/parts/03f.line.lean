/-! the line of a day -/
def ahead (S : tf_M) (i j : Nat) (q : Int32) : Bool := if q = 0 then decide (S (100 + i) 0 < S (100 + j) 0) else decide (q = 1) && decide (S (100 + j) 1 < S (100 + i) 1)
set_option maxHeartbeats 4000000 in
set_option maxRecDepth 100000 in
theorem k_X3_inLine (l : Launch) (G : tf_G) (nR : Nat) (LL : List Nat) (ad : Nat → Nat) (hF : ∀ j ∈ tf_fix, j ∈ LL) (S : tf_M) (n : Nat) (hfl : FlOk G nR LL ad S n) (hR : nR ≤ 12) (k j : Nat) (hk : k < 12) (hj : j < n) (hS : S 9 k = nI j) : Cq l yX3_inLine wsX3_inLine ({ frames := 2, cells := 0, slots := 0, locals := 42 } : Room) G LL ad (fun (_ : Unit) => pw G nR ad S) (pw G nR ad S) [.ref (ad 7), .int (nI k)] (fun x _ => x = some (ad (100 + j))) := by
  have ini9 : Cond.initialized RX9 ∈ wsX3_inLine := by decide +kernel
  have sttX9_isPlace : Cond.static yX9_isPlace ∈ wsX3_inLine := by decide +kernel
  have hin3 : ∀ w ∈ u_ws RX3 TX3 3, w ∈ wsX3_inLine := by decide +kernel
  have lk17 : Cond.fieldLink RX3 17 "TributeFleet$Fleet" "line" "[I" ∈ wsX3_inLine := by decide +kernel
  refine cq_of (cc := cX3_inLine) (maxL := 2) (ret := (some (.object "TributeFleet$Squadron"))) (by decide +kernel) rfl (Nat.le_of_ble_eq_true rfl) ?_
  intro pv ev sv mv args below meth cv A C hrt9 hnm9
  have C : Cx pv sv mv args meth cv cX3_inLine 2 RX3 wsX3_inLine G A LL ad := C
  show XJ pv l ev _ sv mv args below meth cv G A LL ad _ 2 0 0 _ 0 [(0, .ref (ad 7)), (1, .int (nI k))] []
  refine x_iload_n C 1 dX3_inLine_0 rfl rfl ?_
  refine x_bipush C dX3_inLine_1 (v := 12) (by decide) ?_
  refine x_Ni C (k_X9_isPlace l G LL ad _ (nI k) 12) gX3_inLine_X9_isPlace_n29 rfl (by decide +kernel) C.2.2.1.2.1.2.2.1 ini9 sttX9_isPlace ⟨(Nat.le_of_ble_eq_true rfl), (Nat.le_of_ble_eq_true rfl)⟩ ⟨(Nat.le_of_ble_eq_true rfl), (Nat.le_of_ble_eq_true rfl)⟩ (n := 2) rfl (st := []) (Nat.le_of_ble_eq_true rfl) rfl dX3_inLine_3 (fun _ _ hr9 => ?_)
  subst hr9
  refine x_if_eq C (tgt := 22) dX3_inLine_6 (by decide) (fun c6 => ?_) (fun c6 => ?_)
  · replace c6 := bI_z c6
    rw [show (12 : Int32) = nI 12 from rfl, isP_k hk (by decide)] at c6; cases c6
  · replace c6 := bI_nz c6
    refine x_aload_n C 0 dX3_inLine_9 rfl rfl ?_
    refine x_aload_n C 0 dX3_inLine_10 rfl rfl ?_
    refine x_get C (T := TX3) (N := 3) (v := .ref (ad 9)) 7 1 hin3 (hF 7 (by decide)) (pf_7 G nR ad _) rfl (by decide) lk17 rfl rfl dX3_inLine_11 ?_
    refine x_iload_n C 1 dX3_inLine_14 rfl rfl ?_
    refine x_iald C 9 (hF 9 (by decide)) (pf_9 G nR ad _) (nI_in (N := 12) hk (by decide)) (kk := k) (nI_clamp (by omega)) dX3_inLine_15 ?_
    rw [hS]
    refine x_Vq 7 C (k_X3_find l G nR LL ad hF S n hfl (nI j)) gX3_inLine_X3_find rfl (by decide +kernel) ⟨(Nat.le_of_ble_eq_true rfl), (Nat.le_of_ble_eq_true rfl)⟩ ⟨(Nat.le_of_ble_eq_true rfl), (Nat.le_of_ble_eq_true rfl)⟩ (hF 7 (by decide)) (pf_7 G nR ad _) (T := TX3) (N := 3) rfl (n := 1) rfl (st := []) (Nat.le_of_ble_eq_true rfl) rfl dX3_inLine_16 (fun r9 _ hr9 => ?_)
    obtain rfl : r9 = some (ad (100 + j)) := by
      rcases hr9 with ⟨-, g9⟩ | ⟨g9, -⟩
      · rw [g9, nI_clamp (by have := hfl.2.1; have := hj; omega)]
      · rw [hfl.1, isP_k hj (by have := hfl.2.1; omega)] at g9; cases g9
    refine x_goto C (tgt := 23) dX3_inLine_19 (by decide) ?_
    refine x_aret C (r := some (ad (100 + j))) hrt9 (Or.inl ⟨_, rfl⟩) () ?_ rfl dX3_inLine_23
    rfl

set_option maxHeartbeats 4000000 in
set_option maxRecDepth 100000 in
theorem k_X3_isAhead (l : Launch) (G : tf_G) (nR : Nat) (LL : List Nat) (ad : Nat → Nat) (hF : ∀ j ∈ tf_fix, j ∈ LL) (S : tf_M) (n : Nat) (hfl : FlOk G nR LL ad S n) (hR : nR ≤ 12) (i j : Nat) (hi : i < n) (hj : j < n) (q : Int32) : Ci l yX3_isAhead wsX3_isAhead ({ frames := 2, cells := 0, slots := 0, locals := 42 } : Room) G LL ad (fun (_ : Unit) => pw G nR ad S) (pw G nR ad S) [.ref (ad 7), .int (nI i), .int (nI j), .int q] (fun x _ => x = bI (ahead S i j q)) := by
  have hin6 : ∀ w ∈ u_ws RX6 TX6 12, w ∈ wsX3_isAhead := by decide +kernel
  have lk47 : Cond.fieldLink RX3 47 "TributeFleet$Squadron" "boats" "I" ∈ wsX3_isAhead := by decide +kernel
  have lk44 : Cond.fieldLink RX3 44 "TributeFleet$Squadron" "county" "I" ∈ wsX3_isAhead := by decide +kernel
  refine ci_of (cc := cX3_isAhead) (maxL := 6) (ret := (some .boolean)) (by decide +kernel) rfl (Nat.le_of_ble_eq_true rfl) ?_
  intro pv ev sv mv args below meth cv A C hrt9 hnm9
  have C : Cx pv sv mv args meth cv cX3_isAhead 6 RX3 wsX3_isAhead G A LL ad := C
  show XJ pv l ev _ sv mv args below meth cv G A LL ad _ 6 0 0 _ 0 [(0, .ref (ad 7)), (1, .int (nI i)), (2, .int (nI j)), (3, .int q)] []
  have hqi := hfl.2.2.1 i hi
  have hqj := hfl.2.2.1 j hj
  refine x_aload_n C 0 dX3_isAhead_0 rfl rfl ?_
  refine x_iload_n C 1 dX3_isAhead_1 rfl rfl ?_
  refine x_Vq 7 C (k_X3_find l G nR LL ad hF S n hfl (nI i)) gX3_isAhead_X3_find rfl (by decide +kernel) ⟨(Nat.le_of_ble_eq_true rfl), (Nat.le_of_ble_eq_true rfl)⟩ ⟨(Nat.le_of_ble_eq_true rfl), (Nat.le_of_ble_eq_true rfl)⟩ (hF 7 (by decide)) (pf_7 G nR ad _) (T := TX3) (N := 3) rfl (n := 1) rfl (st := []) (Nat.le_of_ble_eq_true rfl) rfl dX3_isAhead_2 (fun r9 _ hr9 => ?_)
  obtain rfl : r9 = some (ad (100 + i)) := by
    rcases hr9 with ⟨-, g9⟩ | ⟨g9, -⟩
    · rw [g9, nI_clamp (by have := hfl.2.1; have := hi; omega)]
    · rw [hfl.1, isP_k hi (by have := hfl.2.1; omega)] at g9; cases g9
  refine x_astore C (L1 := [(4, .ref (ad (100 + i))), (0, .ref (ad 7)), (1, .int (nI i)), (2, .int (nI j)), (3, .int q)]) dX3_isAhead_5 (by decide) rfl ?_
  refine x_aload_n C 1 dX3_isAhead_7 rfl rfl ?_
  refine x_iload_n C 3 dX3_isAhead_8 rfl rfl ?_
  refine x_Vq 7 C (k_X3_find l G nR LL ad hF S n hfl (nI j)) gX3_isAhead_X3_find rfl (by decide +kernel) ⟨(Nat.le_of_ble_eq_true rfl), (Nat.le_of_ble_eq_true rfl)⟩ ⟨(Nat.le_of_ble_eq_true rfl), (Nat.le_of_ble_eq_true rfl)⟩ (hF 7 (by decide)) (pf_7 G nR ad _) (T := TX3) (N := 3) rfl (n := 1) rfl (st := []) (Nat.le_of_ble_eq_true rfl) rfl dX3_isAhead_9 (fun r9 _ hr9 => ?_)
  obtain rfl : r9 = some (ad (100 + j)) := by
    rcases hr9 with ⟨-, g9⟩ | ⟨g9, -⟩
    · rw [g9, nI_clamp (by have := hfl.2.1; have := hj; omega)]
    · rw [hfl.1, isP_k hj (by have := hfl.2.1; omega)] at g9; cases g9
  refine x_astore C (L1 := [(5, .ref (ad (100 + j))), (4, .ref (ad (100 + i))), (0, .ref (ad 7)), (1, .int (nI i)), (2, .int (nI j)), (3, .int q)]) dX3_isAhead_12 (by decide) rfl ?_
  refine x_aload C 1 dX3_isAhead_14 rfl ?_
  refine x_ifnull C dX3_isAhead_16 ?_
  refine x_aload C 0 dX3_isAhead_19 rfl ?_
  refine x_ifnonnull C (tgt := 26) dX3_isAhead_21 (by decide) ?_
  refine x_iload_n C 5 dX3_isAhead_26 rfl rfl ?_
  refine x_if_ne C (tgt := 49) dX3_isAhead_27 (by decide) (fun c27 => ?_) (fun c27 => ?_)
  · skip
    refine x_iload_n C 5 dX3_isAhead_49 rfl rfl ?_
    refine x_iconst C dX3_isAhead_50 (v := 1) (by decide) ?_
    refine x_icmp_ne C (tgt := 71) dX3_isAhead_51 (by decide) (fun c51 => ?_) (fun c51 => ?_)
    · skip
      refine x_iconst C dX3_isAhead_71 (v := 0) (by decide) ?_
      refine x_zret C hrt9 (Or.inl rfl) () ?_ rfl dX3_isAhead_72
      show _ = _
      simp [ahead, bI, ← Int32.not_le]; simp_all [← Int32.not_le]
    · skip
      refine x_aload C 1 dX3_isAhead_54 rfl ?_
      refine x_get C (T := TX6) (N := 12) (v := .int (S (100 + i) 1)) (100 + i) 1 hin6 hqi.2.2.2.1 (hqi.1 _) rfl (by decide) lk47 rfl rfl dX3_isAhead_56 ?_
      refine x_aload C 0 dX3_isAhead_59 rfl ?_
      refine x_get C (T := TX6) (N := 12) (v := .int (S (100 + j) 1)) (100 + j) 1 hin6 hqj.2.2.2.1 (hqj.1 _) rfl (by decide) lk47 rfl rfl dX3_isAhead_61 ?_
      refine x_icmp_le C (tgt := 71) dX3_isAhead_64 (by decide) (fun c64 => ?_) (fun c64 => ?_)
      · skip
        refine x_iconst C dX3_isAhead_71 (v := 0) (by decide) ?_
        refine x_zret C hrt9 (Or.inl rfl) () ?_ rfl dX3_isAhead_72
        show _ = _
        simp [ahead, bI, ← Int32.not_le]; simp_all [← Int32.not_le]
      · skip
        refine x_iconst C dX3_isAhead_67 (v := 1) (by decide) ?_
        refine x_goto C (tgt := 72) dX3_isAhead_68 (by decide) ?_
        refine x_zret C hrt9 (Or.inr rfl) () ?_ rfl dX3_isAhead_72
        show _ = _
        simp [ahead, bI, ← Int32.not_le]; simp_all [← Int32.not_le]
  · skip
    refine x_aload C 1 dX3_isAhead_30 rfl ?_
    refine x_get C (T := TX6) (N := 12) (v := .int (S (100 + i) 0)) (100 + i) 0 hin6 hqi.2.2.2.1 (hqi.1 _) rfl (by decide) lk44 rfl rfl dX3_isAhead_32 ?_
    refine x_aload C 0 dX3_isAhead_35 rfl ?_
    refine x_get C (T := TX6) (N := 12) (v := .int (S (100 + j) 0)) (100 + j) 0 hin6 hqj.2.2.2.1 (hqj.1 _) rfl (by decide) lk44 rfl rfl dX3_isAhead_37 ?_
    refine x_icmp_ge C (tgt := 47) dX3_isAhead_40 (by decide) (fun c40 => ?_) (fun c40 => ?_)
    · skip
      refine x_iconst C dX3_isAhead_47 (v := 0) (by decide) ?_
      refine x_zret C hrt9 (Or.inl rfl) () ?_ rfl dX3_isAhead_48
      show _ = _
      simp [ahead, bI, ← Int32.not_le]; simp_all [← Int32.not_le]
    · skip
      refine x_iconst C dX3_isAhead_43 (v := 1) (by decide) ?_
      refine x_goto C (tgt := 48) dX3_isAhead_44 (by decide) ?_
      refine x_zret C hrt9 (Or.inr rfl) () ?_ rfl dX3_isAhead_48
      show _ = _
      simp [ahead, bI, ← Int32.not_le]; simp_all [← Int32.not_le]

def insDown (S : tf_M) (i : Nat) (q : Int32) : Nat → tf_M
  | 0 => s2 S 9 0 (nI i)
  | p + 1 => if ahead S i (S 9 p).toNatClampNeg q = true then insDown (s2 S 9 (p + 1) (S 9 p)) i q p else s2 S 9 (p + 1) (nI i)
def lineAll (S : tf_M) (q : Int32) : Nat → tf_M
  | 0 => S
  | i + 1 => insDown (lineAll S q i) i q i
theorem insDown_ne {i : Nat} {q : Int32} {x : Nat} (hx : x ≠ 9) : ∀ (p : Nat) (S : tf_M), insDown S i q p x = S x := by
  intro p
  induction p with
  | zero => intro S; unfold insDown; rw [s2_ne hx]
  | succ p ih =>
    intro S
    unfold insDown
    split
    · rw [ih, s2_ne hx]
    · rw [s2_ne hx]
theorem lineAll_ne {q : Int32} {x : Nat} (hx : x ≠ 9) (S : tf_M) : ∀ i : Nat, lineAll S q i x = S x := by
  intro i
  induction i with
  | zero => rfl
  | succ i ih => unfold lineAll; rw [insDown_ne hx, ih]
theorem insDown_t {S : tf_M} {i z : Nat} {q : Int32} (h : ahead S i (S 9 z).toNatClampNeg q = true) : insDown S i q (z + 1) = insDown (s2 S 9 (z + 1) (S 9 z)) i q z := by
  conv => lhs; unfold insDown
  rw [if_pos h]
theorem insDown_f {S : tf_M} {i z : Nat} {q : Int32} (h : ahead S i (S 9 z).toNatClampNeg q = false) : insDown S i q (z + 1) = s2 S 9 (z + 1) (nI i) := by
  conv => lhs; unfold insDown
  rw [h]
  rfl
/-- the line's first m places hold squadrons -/
def LnOk (S : tf_M) (n m : Nat) : Prop := ∀ p, p < m → ∃ j, j < n ∧ S 9 p = nI j
theorem s2_eq {S : tf_M} {j k : Nat} {v : Int32} : s2 S j k v j k = v := by simp [s2, tf_u, upd]
theorem s2_nk {S : tf_M} {j k i : Nat} {v : Int32} (h : i ≠ k) : s2 S j k v j i = S j i := by simp [s2, tf_u, upd, h]
theorem LnOk.put {S : tf_M} {n m p j : Nat} (h : LnOk S n m) (hj : j < n) (hp : p ≤ m) : LnOk (s2 S 9 p (nI j)) n m ∧ (p = m → LnOk (s2 S 9 p (nI j)) n (m + 1)) := by
  have key : ∀ x, x < m + 1 → (x = p ∨ x < m) → ∃ j, j < n ∧ s2 S 9 p (nI j) 9 x = nI j ∨ ∃ j, j < n ∧ S 9 x = nI j ∧ x ≠ p := by
    intro x _ hx
    by_cases e : x = p
    · exact ⟨j, Or.inl ⟨hj, by rw [e, s2_eq]⟩⟩
    · obtain ⟨j', h1, h2⟩ := h x (by omega)
      exact ⟨j', Or.inr ⟨j', h1, h2, e⟩⟩
  have key2 : ∀ x, (x = p ∨ x < m) → ∃ j', j' < n ∧ s2 S 9 p (nI j) 9 x = nI j' := by
    intro x hx
    by_cases e : x = p
    · exact ⟨j, hj, by rw [e, s2_eq]⟩
    · obtain ⟨j', h1, h2⟩ := h x (by omega)
      exact ⟨j', h1, by rw [s2_nk e]; exact h2⟩
  exact ⟨fun x hx => key2 x (Or.inr hx), fun e x hx => key2 x (by omega)⟩
set_option maxHeartbeats 4000000 in
set_option maxRecDepth 100000 in
theorem k_X3_lineUp (l : Launch) (G : tf_G) (nR : Nat) (LL : List Nat) (ad : Nat → Nat) (hF : ∀ j ∈ tf_fix, j ∈ LL) (S : tf_M) (n : Nat) (hfl : FlOk G nR LL ad S n) (hR : nR ≤ 12) (q : Int32) : Cv l yX3_lineUp wsX3_lineUp ({ frames := 3, cells := 0, slots := 0, locals := 67 } : Room) G LL ad (pw G nR ad) (pw G nR ad S) [.ref (ad 7), .int q] (fun u => u = lineAll S q n) := by
  have hin3 : ∀ w ∈ u_ws RX3 TX3 3, w ∈ wsX3_lineUp := by decide +kernel
  have lk21 : Cond.fieldLink RX3 21 "TributeFleet$Fleet" "size" "I" ∈ wsX3_lineUp := by decide +kernel
  have lk17 : Cond.fieldLink RX3 17 "TributeFleet$Fleet" "line" "[I" ∈ wsX3_lineUp := by decide +kernel
  refine cv_of (cc := cX3_lineUp) (maxL := 4) (ret := none) (by decide +kernel) rfl (Nat.le_of_ble_eq_true rfl) ?_
  intro pv ev sv mv args below meth cv A C hrt9 hnm9
  have C : Cx pv sv mv args meth cv cX3_lineUp 4 RX3 wsX3_lineUp G A LL ad := C
  show XJ pv l ev _ sv mv args below meth cv G A LL ad _ 4 0 0 _ 0 [(0, .ref (ad 7)), (1, .int q)] []
  refine x_iconst C dX3_lineUp_0 (v := 0) (by decide) ?_
  refine x_istore_n C (L1 := [(2, .int 0), (0, .ref (ad 7)), (1, .int q)]) dX3_lineUp_1 rfl (by decide) rfl ?_
  have lp2 : ∀ (d9 : Nat) (i : Nat) (S1 : tf_M), (i ≤ n) → (S1 = lineAll S q i) → (FlOk G nR LL ad S1 n) → (LnOk S1 n i) → n - i < d9 → XJ pv l ev ({ frames := 3, cells := 0, slots := 0, locals := 67 } : Room) sv mv args below meth cv G A LL ad (MQ below (va_Qv (fun u => u = lineAll S q n) (tf_B G LL ad (pw G nR ad)) A) args sv 0 0 A) 4 0 0 (pw G nR ad S1) 2 [(0, .ref (ad 7)), (1, .int q), (2, .int (nI i))] [] := by
    intro d9
    induction d9 with
    | zero => intro i S1 hkn e0 hfl1 hln0 hd9; omega
    | succ d9 ih2 =>
      intro i S1 hkn e0 hfl1 hln0 hd9
      have ih := ih2
      refine x_iload_n C 2 dX3_lineUp_2 rfl rfl ?_
      refine x_aload_n C 0 dX3_lineUp_3 rfl rfl ?_
      refine x_get C (T := TX3) (N := 3) (v := .int (S1 7 2)) 7 2 hin3 (hF 7 (by decide)) (pf_7 G nR ad _) rfl (by decide) lk21 rfl rfl dX3_lineUp_4 ?_
      refine x_icmp_ge C (tgt := 66) dX3_lineUp_7 (by decide) (fun c7 => ?_) (fun c7 => ?_)
      · skip
        have hge : n ≤ i := nI_ge' (by rw [← hfl1.1]; exact c7) (by have := hfl1.2.1; omega)
        refine x_vret C hrt9 S1 ?_ rfl dX3_lineUp_66
        show _ = _
        rw [e0, show i = n by omega]
      · skip
        have hi : i < n := nI_lt' (by rw [← hfl1.1]; exact c7) (by have := hfl1.2.1; omega)
        refine x_iload_n C 2 dX3_lineUp_10 rfl rfl ?_
        refine x_istore_n C (L1 := [(3, .int (nI i)), (0, .ref (ad 7)), (1, .int q), (2, .int (nI i))]) dX3_lineUp_11 rfl (by decide) rfl ?_
        have lp12 : ∀ (z : Nat) (S2 : tf_M), (z ≤ i) → (FlOk G nR LL ad S2 n) → (LnOk S2 n i) → (z < i → LnOk S2 n (i + 1)) → (insDown S2 i q z = lineAll S q (i + 1)) → XJ pv l ev ({ frames := 3, cells := 0, slots := 0, locals := 67 } : Room) sv mv args below meth cv G A LL ad (MQ below (va_Qv (fun u => u = lineAll S q n) (tf_B G LL ad (pw G nR ad)) A) args sv 0 0 A) 4 0 0 (pw G nR ad S2) 12 [(0, .ref (ad 7)), (1, .int q), (2, .int (nI i)), (3, .int (nI z))] [] := by
          intro z
          induction z with
          | zero =>
            intro S2 hpi hfl2 hln hln2 e2
            rw [nI_0]
            refine x_iload_n C 3 dX3_lineUp_12 rfl rfl ?_
            refine x_if_le C (tgt := 53) dX3_lineUp_13 (by decide) (fun c13 => ?_) (fun c13 => ?_)
            rotate_left
            · exact absurd (by decide) c13
            refine x_aload_n C 0 dX3_lineUp_53 rfl rfl ?_
            refine x_get C (T := TX3) (N := 3) (v := .ref (ad 9)) 7 1 hin3 (hF 7 (by decide)) (pf_7 G nR ad _) rfl (by decide) lk17 rfl rfl dX3_lineUp_54 ?_
            refine x_iload_n C 3 dX3_lineUp_57 rfl rfl ?_
            refine x_iload_n C 2 dX3_lineUp_58 rfl rfl ?_
            refine y_iast C 9 (hF 9 (by decide)) (fun f => (pf_9 G nR ad f)) (nI_in (N := 12) (show 0 < 12 by decide) (by decide)) (kk := 0) (by rfl) dX3_lineUp_59 ?_
            refine x_iinc C (L1 := [(2, .int ((nI i) + 1)), (0, .ref (ad 7)), (1, .int q), (3, .int 0)]) 2 dX3_lineUp_60 rfl rfl (by decide) rfl ?_
            refine x_goto C (tgt := 2) dX3_lineUp_63 (by decide) ?_
            refine x_sub [1, 2, 0] (L1 := [(0, .ref (ad 7)), (1, .int q), (2, .int ((nI i) + 1))]) rfl ?_
            rw [← nI_succ]
            exact ih2 (i + 1) _ (by omega) (by rw [← e2]; rfl) (hfl2.keep (s2_ne (by decide)) (s2_ne (by decide))) (by
              by_cases e : 0 = i
              · exact (hln.put hi (by omega)).2 e
              · exact ((hln2 (by omega)).put hi (by omega)).1) (by omega)
          | succ z ih12 =>
            intro S2 hpi hfl2 hln hln2 e2
            have ih := ih12
            obtain ⟨j, hj, hpj⟩ := hln z (by omega)
            refine x_iload_n C 3 dX3_lineUp_12 rfl rfl ?_
            refine x_if_le C (tgt := 53) dX3_lineUp_13 (by decide) (fun c13 => ?_) (fun c13 => ?_)
            · skip
              exact absurd c13 (nI_nle (by omega) (by have := hfl.2.1; omega))
            · skip
              refine x_aload_n C 0 dX3_lineUp_16 rfl rfl ?_
              refine x_iload_n C 2 dX3_lineUp_17 rfl rfl ?_
              refine x_aload_n C 0 dX3_lineUp_18 rfl rfl ?_
              refine x_get C (T := TX3) (N := 3) (v := .ref (ad 9)) 7 1 hin3 (hF 7 (by decide)) (pf_7 G nR ad _) rfl (by decide) lk17 rfl rfl dX3_lineUp_19 ?_
              refine x_iload_n C 3 dX3_lineUp_22 rfl rfl ?_
              refine x_iconst C dX3_lineUp_23 (v := 1) (by decide) ?_
              refine x_isub C dX3_lineUp_24 ?_
              refine x_iald C 9 (hF 9 (by decide)) (pf_9 G nR ad _) (by rw [nI_pred]; exact nI_in (N := 12) (show z < 12 by have := hfl.2.1; omega) (by decide)) (kk := z) (by rw [nI_pred]; exact nI_clamp (by have := hfl.2.1; omega)) dX3_lineUp_25 ?_
              rw [hpj]
              refine x_iload_n C 1 dX3_lineUp_26 rfl rfl ?_
              refine x_Vi 7 C (k_X3_isAhead l G nR LL ad hF S2 n hfl2 hR i j hi hj q) gX3_lineUp_X3_isAhead rfl (by decide +kernel) ⟨(Nat.le_of_ble_eq_true rfl), (Nat.le_of_ble_eq_true rfl)⟩ ⟨(Nat.le_of_ble_eq_true rfl), (Nat.le_of_ble_eq_true rfl)⟩ (hF 7 (by decide)) (pf_7 G nR ad _) (T := TX3) (N := 3) rfl (n := 3) rfl (st := []) (Nat.le_of_ble_eq_true rfl) rfl dX3_lineUp_27 (fun _ _ hr9 => ?_)
              subst hr9
              refine x_if_eq C (tgt := 53) dX3_lineUp_30 (by decide) (fun c30 => ?_) (fun c30 => ?_)
              · replace c30 := bI_z c30
                refine x_aload_n C 0 dX3_lineUp_53 rfl rfl ?_
                refine x_get C (T := TX3) (N := 3) (v := .ref (ad 9)) 7 1 hin3 (hF 7 (by decide)) (pf_7 G nR ad _) rfl (by decide) lk17 rfl rfl dX3_lineUp_54 ?_
                refine x_iload_n C 3 dX3_lineUp_57 rfl rfl ?_
                refine x_iload_n C 2 dX3_lineUp_58 rfl rfl ?_
                refine y_iast C 9 (hF 9 (by decide)) (fun f => (pf_9 G nR ad f)) (nI_in (N := 12) (show z + 1 < 12 by have := hfl.2.1; omega) (by decide)) (kk := z + 1) (nI_clamp (by have := hfl.2.1; omega)) dX3_lineUp_59 ?_
                refine x_iinc C (L1 := [(2, .int ((nI i) + 1)), (0, .ref (ad 7)), (1, .int q), (3, .int (nI (z + 1)))]) 2 dX3_lineUp_60 rfl rfl (by decide) rfl ?_
                refine x_goto C (tgt := 2) dX3_lineUp_63 (by decide) ?_
                refine x_sub [1, 2, 0] (L1 := [(0, .ref (ad 7)), (1, .int q), (2, .int ((nI i) + 1))]) rfl ?_
                rw [← nI_succ]
                have e3 : ahead S2 i (S2 9 z).toNatClampNeg q = false := by rw [hpj, nI_clamp (by have := hfl.2.1; omega)]; exact c30
                exact ih2 (i + 1) _ (by omega) (by rw [← e2, insDown_f e3]) (hfl2.keep (s2_ne (by decide)) (s2_ne (by decide))) (by
                  by_cases e : z + 1 = i
                  · exact (hln.put hi hpi).2 e
                  · exact ((hln2 (by omega)).put hi (by omega)).1) (by omega)
              · replace c30 := bI_nz c30
                refine x_aload_n C 0 dX3_lineUp_33 rfl rfl ?_
                refine x_get C (T := TX3) (N := 3) (v := .ref (ad 9)) 7 1 hin3 (hF 7 (by decide)) (pf_7 G nR ad _) rfl (by decide) lk17 rfl rfl dX3_lineUp_34 ?_
                refine x_iload_n C 3 dX3_lineUp_37 rfl rfl ?_
                refine x_aload_n C 0 dX3_lineUp_38 rfl rfl ?_
                refine x_get C (T := TX3) (N := 3) (v := .ref (ad 9)) 7 1 hin3 (hF 7 (by decide)) (pf_7 G nR ad _) rfl (by decide) lk17 rfl rfl dX3_lineUp_39 ?_
                refine x_iload_n C 3 dX3_lineUp_42 rfl rfl ?_
                refine x_iconst C dX3_lineUp_43 (v := 1) (by decide) ?_
                refine x_isub C dX3_lineUp_44 ?_
                refine x_iald C 9 (hF 9 (by decide)) (pf_9 G nR ad _) (by rw [nI_pred]; exact nI_in (N := 12) (show z < 12 by have := hfl.2.1; omega) (by decide)) (kk := z) (by rw [nI_pred]; exact nI_clamp (by have := hfl.2.1; omega)) dX3_lineUp_45 ?_
                rw [hpj]
                refine y_iast C 9 (hF 9 (by decide)) (fun f => (pf_9 G nR ad f)) (nI_in (N := 12) (show z + 1 < 12 by have := hfl.2.1; omega) (by decide)) (kk := z + 1) (nI_clamp (by have := hfl.2.1; omega)) dX3_lineUp_46 ?_
                refine x_iinc C (L1 := [(3, .int ((nI (z + 1)) - 1)), (0, .ref (ad 7)), (1, .int q), (2, .int (nI i))]) 3 dX3_lineUp_47 rfl (i_dec1 _) (by decide) rfl ?_
                refine x_goto C (tgt := 12) dX3_lineUp_50 (by decide) ?_
                refine x_sub [1, 2, 3, 0] (L1 := [(0, .ref (ad 7)), (1, .int q), (2, .int (nI i)), (3, .int ((nI (z + 1)) - 1))]) rfl ?_
                rw [nI_pred]
                have e3 : ahead S2 i (S2 9 z).toNatClampNeg q = true := by rw [hpj, nI_clamp (by have := hfl.2.1; omega)]; exact c30
                have hb := hln.put (p := z + 1) (j := j) hj hpi
                have hc : LnOk (s2 S2 9 (z + 1) (nI j)) n (i + 1) := by
                  by_cases e : z + 1 = i
                  · exact hb.2 e
                  · exact ((hln2 (by omega)).put hj (by omega)).1
                exact ih _ (by omega) (hfl2.keep (s2_ne (by decide)) (s2_ne (by decide))) hb.1 (fun _ => hc) (by rw [← e2, insDown_t e3, hpj])
        refine x_sub [1, 2, 3, 0] (L1 := [(0, .ref (ad 7)), (1, .int q), (2, .int (nI i)), (3, .int (nI i))]) rfl ?_
        exact lp12 i S1 (Nat.le_refl i) hfl1 hln0 (fun h => absurd h (Nat.lt_irrefl _)) (by rw [e0]; rfl)
  refine x_sub [1, 2, 0] (L1 := [(0, .ref (ad 7)), (1, .int q), (2, .int 0)]) rfl ?_
  exact lp2 (n + 1) 0 S (Nat.zero_le _) rfl hfl (fun p h => absurd h (Nat.not_lt_zero p)) (by omega)

