/-! squadrons and statutes are made -/
/-- the ids that may be spoken of when n squadrons and t statutes stand -/
def Gd (n t j : Nat) : Prop := j < 100 ∨ (100 ≤ j ∧ j < 100 + n) ∨ (200 ≤ j ∧ j < 200 + n) ∨ (300 ≤ j ∧ j < 300 + n) ∨ (400 ≤ j ∧ j < 400 + t) ∨ (500 ≤ j ∧ j < 500 + t)
set_option maxHeartbeats 4000000 in
theorem pf_same {G : tf_G} {nR n t : Nat} {ad ad1 : Nat → Nat} {S : tf_M} (hn : n ≤ 12) (ht : t ≤ 10) (hg : ∀ x, Gd n t x → ad1 x = ad x) (h8 : ∀ i, n ≤ i → S 8 i = 0) (h14 : ∀ i, t ≤ i → S 14 i = 0) {j : Nat} (hj : Gd n t j) : pf G nR ad1 j (S j) = pf G nR ad j (S j) := by
  have key : ∀ x, x < 100 → ad1 x = ad x := fun x hx => hg x (Or.inl hx)
  by_cases e8 : j = 8
  · subst e8
    rw [pf_8, pf_8]
    have e : (fun i => if S 8 i = 0 then none else some (ad1 (100 + i))) = (fun i => if S 8 i = 0 then none else some (ad (100 + i))) := by
      funext i
      by_cases h : S 8 i = 0
      · rw [if_pos h, if_pos h]
      · have hi : i < n := Nat.lt_of_not_le fun g => h (h8 i g)
        rw [hg (100 + i) (Or.inr (Or.inl ⟨by omega, by omega⟩))]
    rw [e]
  · by_cases e14 : j = 14
    · subst e14
      rw [pf_14, pf_14]
      have e : (fun i => if S 14 i = 0 then none else some (ad1 (400 + i))) = (fun i => if S 14 i = 0 then none else some (ad (400 + i))) := by
        funext i
        by_cases h : S 14 i = 0
        · rw [if_pos h, if_pos h]
        · have hi : i < t := Nat.lt_of_not_le fun g => h (h14 i g)
          rw [hg (400 + i) (Or.inr (Or.inr (Or.inr (Or.inr (Or.inl ⟨by omega, by omega⟩)))))]
      rw [e]
    · unfold pf
      rcases hj with h | h | h | h | h | h
      · by_cases h26 : j < 26
        · simp only [if_pos h26, tf_c1, if_neg e8, if_neg e14, key 1 (by decide), key 2 (by decide), key 3 (by decide), key 4 (by decide), key 5 (by decide), key 6 (by decide), key 7 (by decide), key 8 (by decide), key 9 (by decide), key 10 (by decide), key 11 (by decide), key 12 (by decide), key 13 (by decide), key 14 (by decide), key 15 (by decide), key 16 (by decide), key 17 (by decide), key 18 (by decide), key 19 (by decide), key 20 (by decide), key 21 (by decide), key 22 (by decide), key 23 (by decide), key 24 (by decide), key 25 (by decide), key 31 (by decide), key 32 (by decide), key 39 (by decide), key 40 (by decide), key 41 (by decide), key 42 (by decide), key 43 (by decide), key 44 (by decide), key 45 (by decide), key 46 (by decide), key 47 (by decide), key 48 (by decide), key 49 (by decide), key 50 (by decide), key 51 (by decide), key 52 (by decide), key 53 (by decide), key 54 (by decide), key 55 (by decide), key 56 (by decide), key 57 (by decide), key 58 (by decide), key 64 (by decide), key 65 (by decide), key 66 (by decide), key 67 (by decide), key 68 (by decide), key 71 (by decide), key 72 (by decide), key 73 (by decide), key 74 (by decide)]
        · simp only [if_neg h26, if_pos h, tf_c2, key 1 (by decide), key 2 (by decide), key 3 (by decide), key 4 (by decide), key 5 (by decide), key 6 (by decide), key 7 (by decide), key 8 (by decide), key 9 (by decide), key 10 (by decide), key 11 (by decide), key 12 (by decide), key 13 (by decide), key 14 (by decide), key 15 (by decide), key 16 (by decide), key 17 (by decide), key 18 (by decide), key 19 (by decide), key 20 (by decide), key 21 (by decide), key 22 (by decide), key 23 (by decide), key 24 (by decide), key 25 (by decide), key 31 (by decide), key 32 (by decide), key 39 (by decide), key 40 (by decide), key 41 (by decide), key 42 (by decide), key 43 (by decide), key 44 (by decide), key 45 (by decide), key 46 (by decide), key 47 (by decide), key 48 (by decide), key 49 (by decide), key 50 (by decide), key 51 (by decide), key 52 (by decide), key 53 (by decide), key 54 (by decide), key 55 (by decide), key 56 (by decide), key 57 (by decide), key 58 (by decide), key 64 (by decide), key 65 (by decide), key 66 (by decide), key 67 (by decide), key 68 (by decide), key 71 (by decide), key 72 (by decide), key 73 (by decide), key 74 (by decide)]
      · rw [if_neg (by omega), if_neg (by omega), if_pos (by omega), if_neg (by omega), if_neg (by omega), if_pos (by omega), hg (j + 100) (Or.inr (Or.inr (Or.inl ⟨by omega, by omega⟩))), hg (j + 200) (Or.inr (Or.inr (Or.inr (Or.inl ⟨by omega, by omega⟩))))]
      · rw [if_neg (by omega), if_neg (by omega), if_neg (by omega), if_pos (by omega), if_neg (by omega), if_neg (by omega), if_neg (by omega), if_pos (by omega)]
      · rw [if_neg (by omega), if_neg (by omega), if_neg (by omega), if_neg (by omega), if_pos (by omega), if_neg (by omega), if_neg (by omega), if_neg (by omega), if_neg (by omega), if_pos (by omega)]
      · rw [if_neg (by omega), if_neg (by omega), if_neg (by omega), if_neg (by omega), if_neg (by omega), if_pos (by omega), if_neg (by omega), if_neg (by omega), if_neg (by omega), if_neg (by omega), if_neg (by omega), if_pos (by omega), hg (j + 100) (Or.inr (Or.inr (Or.inr (Or.inr (Or.inr ⟨by omega, by omega⟩)))))]
      · rw [if_neg (by omega), if_neg (by omega), if_neg (by omega), if_neg (by omega), if_neg (by omega), if_neg (by omega), if_neg (by omega), if_neg (by omega), if_neg (by omega), if_neg (by omega), if_neg (by omega), if_neg (by omega)]
def sqF (c b g q : Int32) : Nat → Int32 := fun k => if k = 0 then c else if k = 1 then b else if k = 2 then g else if k = 3 then q else if k = 7 then -1 else if k = 10 then 400 else 0
def sqNew (S : tf_M) (n : Nat) (c b g q : Int32) : tf_M := tf_u (tf_u (tf_u S (100 + n) (sqF c b g q)) (200 + n) (fun _ => 0)) (300 + n) (fun _ => 0)
def sqG (n : Nat) (c b g q : Int32) : Bool := isW c 0 5 && isW b 1 50 && isW g 0 5000 && isW q 0 2000 && decide (n < 12)
def stF0 (t : Nat) (day : Int32) : Nat → Int32 := fun k => if k = 0 then nI t else if k = 1 then day else if k = 3 then 2 else if k = 4 then 20 else if k = 5 then 2 else if k = 6 then 1 else 0
def stNew (S : tf_M) (nR t : Nat) : tf_M := tf_u (tf_u S (400 + t) (stF0 t (S 0 7))) (500 + t) (al3 nR)
theorem sqNew_ne {S : tf_M} {n x : Nat} {c b g q : Int32} (h1 : x ≠ 100 + n) (h2 : x ≠ 200 + n) (h3 : x ≠ 300 + n) : sqNew S n c b g q x = S x := by
  unfold sqNew tf_u; rw [if_neg h3, if_neg h2, if_neg h1]
theorem stNew_ne {S : tf_M} {nR t x : Nat} (h1 : x ≠ 400 + t) (h2 : x ≠ 500 + t) : stNew S nR t x = S x := by
  unfold stNew tf_u; rw [if_neg h2, if_neg h1]
set_option maxHeartbeats 4000000 in
set_option maxRecDepth 100000 in
theorem k_X9_squadron (l : Launch) (G : tf_G) (nR : Nat) (LL : List Nat) (ad : Nat → Nat) (hF : ∀ j ∈ tf_fix, j ∈ LL) (S : tf_M) (c b g q : Int32) (n t : Nat) (hz : S 7 2 = nI n) (hn12 : n ≤ 12) (ht10 : t ≤ 10) (hGd : ∀ j ∈ LL, Gd n t j) (h8 : ∀ i, n ≤ i → S 8 i = 0) (h14 : ∀ i, t ≤ i → S 14 i = 0) (hn : S 1 0 = nI nR) (hR : nR ≤ 12) (LL1 : List Nat) (hL1 : sqG n c b g q = true → LL1 = LL ++ [100 + n] ++ [200 + n] ++ [300 + n]) (hL0 : sqG n c b g q = false → LL1 = LL) : Di l yX9_squadron wsX9_squadron ({ frames := 2, cells := 3, slots := 28, locals := 42 } : Room) G LL ad (pw G nR ad S) [.ref (ad 0), .int c, .int b, .int g, .int q] LL1 (fun r u => (∀ x, x ≠ 100 + n → x ≠ 200 + n → x ≠ 300 + n → u.1 x = ad x) ∧ (sqG n c b g q = false → r = -1 ∧ u.2 = pw G nR u.1 S) ∧ (sqG n c b g q = true → r = nI n ∧ u.2 = pw G nR u.1 (s2 (s2 (sqNew S n c b g q) 8 n 1) 7 2 (nI (n + 1))))) := by
  have hin9 : ∀ w ∈ u_ws RX9 TX9 9, w ∈ wsX9_squadron := by decide +kernel
  have lk30 : Cond.fieldLink RX9 30 "TributeFleet" "fleet" "LTributeFleet$Fleet;" ∈ wsX9_squadron := by decide +kernel
  have hin0 : ∀ w ∈ u_ws RX0 TX0 9, w ∈ wsX9_squadron := by decide +kernel
  have hin6 : ∀ w ∈ u_ws RX6 TX6 12, w ∈ wsX9_squadron := by decide +kernel
  have lk23 : Cond.fieldLink RX9 23 "TributeFleet" "canal" "LTributeFleet$Canal;" ∈ wsX9_squadron := by decide +kernel
  have lk123 : Cond.fieldLink RX9 123 "TributeFleet$Canal" "reaches" "I" ∈ wsX9_squadron := by decide +kernel
  have cl121 : Cond.classLink RX9 121 RX6 ∈ wsX9_squadron := by decide +kernel
  have inst6 : Cond.instantiable RX6 12 ∈ wsX9_squadron := by decide +kernel
  have init6 : Cond.initialized RX6 ∈ wsX9_squadron := by decide +kernel
  have ml126 : Cond.methodLink RX9 126 yX6_init ∈ wsX9_squadron := by decide +kernel
  have im6 : Cond.instanceMethod yX6_init ∈ wsX9_squadron := by decide +kernel
  refine di_of (cc := cX9_squadron) (maxL := 6) (ret := (some .int)) (by decide +kernel) rfl (Nat.le_of_ble_eq_true rfl) ?_
  intro pv ev sv mv args below meth cv A C hrt9 hnm9
  have C : Cx pv sv mv args meth cv cX9_squadron 6 RX9 wsX9_squadron G A LL ad := C
  show XJ pv l ev _ sv mv args below meth cv G A LL ad _ 6 0 0 _ 0 [(0, .ref (ad 0)), (1, .int c), (2, .int b), (3, .int g), (4, .int q)] []
  refine x_iload_n C 1 dX9_squadron_0 rfl rfl ?_
  refine x_Si C (k_X9_isCounty l G LL ad _ c) gX9_squadron_X9_isCounty rfl (by decide +kernel) ⟨(Nat.le_of_ble_eq_true rfl), (Nat.le_of_ble_eq_true rfl)⟩ ⟨(Nat.le_of_ble_eq_true rfl), (Nat.le_of_ble_eq_true rfl)⟩ (n := 1) rfl (st := []) (Nat.le_of_ble_eq_true rfl) rfl dX9_squadron_1 (fun _ _ hr9 => ?_)
  subst hr9
  refine x_if_eq C (tgt := 44) dX9_squadron_4 (by decide) (fun c4 => ?_) (fun c4 => ?_)
  · replace c4 := bI_z c4
    refine x_iconst C dX9_squadron_44 (v := 0) (by decide) ?_
    refine x_istore C (L1 := [(5, .int 0), (0, .ref (ad 0)), (1, .int c), (2, .int b), (3, .int g), (4, .int q)]) dX9_squadron_45 (by decide) rfl ?_
    refine x_iload C 0 dX9_squadron_47 rfl ?_
    refine x_if_eq C (tgt := 62) dX9_squadron_49 (by decide) (fun c49 => ?_) (fun c49 => ?_)
    rotate_left
    · exact absurd (by decide) c49
    refine x_iconst C dX9_squadron_62 (v := -1) (by decide) ?_
    refine x_widen (k := 3) (n := 28) (Nat.le_of_ble_eq_true rfl) (Nat.le_of_ble_eq_true rfl) ?_
    have hg : sqG n c b g q = false := by
      unfold sqG
      rw [c4]
      simp
    obtain rfl := hL0 hg
    refine x_iretA C hrt9 ?_ dX9_squadron_63
    exact ⟨fun _ _ _ _ => rfl, fun _ => ⟨rfl, rfl⟩, fun h => by rw [hg] at h; cases h⟩
  · replace c4 := bI_nz c4
    refine x_iload_n C 2 dX9_squadron_7 rfl rfl ?_
    refine x_iconst C dX9_squadron_8 (v := 1) (by decide) ?_
    refine x_bipush C dX9_squadron_9 (v := 50) (by decide) ?_
    refine x_Si C (k_X9_isWithin l G LL ad _ b 1 50) gX9_squadron_X9_isWithin rfl (by decide +kernel) ⟨(Nat.le_of_ble_eq_true rfl), (Nat.le_of_ble_eq_true rfl)⟩ ⟨(Nat.le_of_ble_eq_true rfl), (Nat.le_of_ble_eq_true rfl)⟩ (n := 3) rfl (st := []) (Nat.le_of_ble_eq_true rfl) rfl dX9_squadron_11 (fun _ _ hr9 => ?_)
    subst hr9
    refine x_if_eq C (tgt := 44) dX9_squadron_14 (by decide) (fun c14 => ?_) (fun c14 => ?_)
    · replace c14 := bI_z c14
      refine x_iconst C dX9_squadron_44 (v := 0) (by decide) ?_
      refine x_istore C (L1 := [(5, .int 0), (0, .ref (ad 0)), (1, .int c), (2, .int b), (3, .int g), (4, .int q)]) dX9_squadron_45 (by decide) rfl ?_
      refine x_iload C 0 dX9_squadron_47 rfl ?_
      refine x_if_eq C (tgt := 62) dX9_squadron_49 (by decide) (fun c49 => ?_) (fun c49 => ?_)
      rotate_left
      · exact absurd (by decide) c49
      refine x_iconst C dX9_squadron_62 (v := -1) (by decide) ?_
      refine x_widen (k := 3) (n := 28) (Nat.le_of_ble_eq_true rfl) (Nat.le_of_ble_eq_true rfl) ?_
      have hg : sqG n c b g q = false := by
        unfold sqG
        rw [c14]
        simp
      obtain rfl := hL0 hg
      refine x_iretA C hrt9 ?_ dX9_squadron_63
      exact ⟨fun _ _ _ _ => rfl, fun _ => ⟨rfl, rfl⟩, fun h => by rw [hg] at h; cases h⟩
    · replace c14 := bI_nz c14
      refine x_iload_n C 3 dX9_squadron_17 rfl rfl ?_
      refine x_iconst C dX9_squadron_18 (v := 0) (by decide) ?_
      refine x_sipush C dX9_squadron_19 (v := 5000) (by decide) ?_
      refine x_Si C (k_X9_isWithin l G LL ad _ g 0 5000) gX9_squadron_X9_isWithin rfl (by decide +kernel) ⟨(Nat.le_of_ble_eq_true rfl), (Nat.le_of_ble_eq_true rfl)⟩ ⟨(Nat.le_of_ble_eq_true rfl), (Nat.le_of_ble_eq_true rfl)⟩ (n := 3) rfl (st := []) (Nat.le_of_ble_eq_true rfl) rfl dX9_squadron_22 (fun _ _ hr9 => ?_)
      subst hr9
      refine x_if_eq C (tgt := 44) dX9_squadron_25 (by decide) (fun c25 => ?_) (fun c25 => ?_)
      · replace c25 := bI_z c25
        refine x_iconst C dX9_squadron_44 (v := 0) (by decide) ?_
        refine x_istore C (L1 := [(5, .int 0), (0, .ref (ad 0)), (1, .int c), (2, .int b), (3, .int g), (4, .int q)]) dX9_squadron_45 (by decide) rfl ?_
        refine x_iload C 0 dX9_squadron_47 rfl ?_
        refine x_if_eq C (tgt := 62) dX9_squadron_49 (by decide) (fun c49 => ?_) (fun c49 => ?_)
        rotate_left
        · exact absurd (by decide) c49
        refine x_iconst C dX9_squadron_62 (v := -1) (by decide) ?_
        refine x_widen (k := 3) (n := 28) (Nat.le_of_ble_eq_true rfl) (Nat.le_of_ble_eq_true rfl) ?_
        have hg : sqG n c b g q = false := by
          unfold sqG
          rw [c25]
          simp
        obtain rfl := hL0 hg
        refine x_iretA C hrt9 ?_ dX9_squadron_63
        exact ⟨fun _ _ _ _ => rfl, fun _ => ⟨rfl, rfl⟩, fun h => by rw [hg] at h; cases h⟩
      · replace c25 := bI_nz c25
        refine x_iload C 4 dX9_squadron_28 rfl ?_
        refine x_iconst C dX9_squadron_30 (v := 0) (by decide) ?_
        refine x_sipush C dX9_squadron_31 (v := 2000) (by decide) ?_
        refine x_Si C (k_X9_isWithin l G LL ad _ q 0 2000) gX9_squadron_X9_isWithin rfl (by decide +kernel) ⟨(Nat.le_of_ble_eq_true rfl), (Nat.le_of_ble_eq_true rfl)⟩ ⟨(Nat.le_of_ble_eq_true rfl), (Nat.le_of_ble_eq_true rfl)⟩ (n := 3) rfl (st := []) (Nat.le_of_ble_eq_true rfl) rfl dX9_squadron_34 (fun _ _ hr9 => ?_)
        subst hr9
        refine x_if_eq C (tgt := 44) dX9_squadron_37 (by decide) (fun c37 => ?_) (fun c37 => ?_)
        · replace c37 := bI_z c37
          refine x_iconst C dX9_squadron_44 (v := 0) (by decide) ?_
          refine x_istore C (L1 := [(5, .int 0), (0, .ref (ad 0)), (1, .int c), (2, .int b), (3, .int g), (4, .int q)]) dX9_squadron_45 (by decide) rfl ?_
          refine x_iload C 0 dX9_squadron_47 rfl ?_
          refine x_if_eq C (tgt := 62) dX9_squadron_49 (by decide) (fun c49 => ?_) (fun c49 => ?_)
          rotate_left
          · exact absurd (by decide) c49
          refine x_iconst C dX9_squadron_62 (v := -1) (by decide) ?_
          refine x_widen (k := 3) (n := 28) (Nat.le_of_ble_eq_true rfl) (Nat.le_of_ble_eq_true rfl) ?_
          have hg : sqG n c b g q = false := by
            unfold sqG
            rw [c37]
            simp
          obtain rfl := hL0 hg
          refine x_iretA C hrt9 ?_ dX9_squadron_63
          exact ⟨fun _ _ _ _ => rfl, fun _ => ⟨rfl, rfl⟩, fun h => by rw [hg] at h; cases h⟩
        · replace c37 := bI_nz c37
          refine x_iconst C dX9_squadron_40 (v := 1) (by decide) ?_
          refine x_goto C (tgt := 45) dX9_squadron_41 (by decide) ?_
          refine x_istore C (L1 := [(5, .int 1), (0, .ref (ad 0)), (1, .int c), (2, .int b), (3, .int g), (4, .int q)]) dX9_squadron_45 (by decide) rfl ?_
          refine x_iload C 0 dX9_squadron_47 rfl ?_
          refine x_if_eq C (tgt := 62) dX9_squadron_49 (by decide) (fun c49 => ?_) (fun c49 => ?_)
          · exact absurd c49 (by decide)
          refine x_aload_n C 1 dX9_squadron_52 rfl rfl ?_
          refine x_get C (T := TX9) (N := 9) (v := .ref (ad 7)) 0 1 hin9 (hF 0 (by decide)) (pf_0 G nR ad _) rfl (by decide) lk30 rfl rfl dX9_squadron_53 ?_
          refine x_Vi 7 C (k_X3_isFull l G nR LL ad hF S) gX9_squadron_X3_isFull rfl (by decide +kernel) ⟨(Nat.le_of_ble_eq_true rfl), (Nat.le_of_ble_eq_true rfl)⟩ ⟨(Nat.le_of_ble_eq_true rfl), (Nat.le_of_ble_eq_true rfl)⟩ (hF 7 (by decide)) (pf_7 G nR ad _) (T := TX3) (N := 3) rfl (n := 0) rfl (st := []) (Nat.le_of_ble_eq_true rfl) rfl dX9_squadron_56 (fun _ _ hr9 => ?_)
          subst hr9
          refine x_if_eq C (tgt := 64) dX9_squadron_59 (by decide) (fun c59 => ?_) (fun c59 => ?_)
          · replace c59 := bI_z c59
            refine x_aload_n C 1 dX9_squadron_64 rfl rfl ?_
            refine x_get C (T := TX9) (N := 9) (v := .ref (ad 7)) 0 1 hin9 (hF 0 (by decide)) (pf_0 G nR ad _) rfl (by decide) lk30 rfl rfl dX9_squadron_65 ?_
            have hn2 : n < 12 := by
              have h9 := Int32.not_le.mp (of_decide_eq_false c59)
              rw [hz] at h9
              exact nI_lt2 (b := 12) h9 (by omega)
            have hg : sqG n c b g q = true := by
              unfold sqG
              rw [c4, c14, c25, c37, decide_eq_true hn2]
              rfl
            obtain rfl := hL1 hg
            have hno : 100 + n ∉ LL := fun h => by rcases hGd _ h with g1 | g1 | g1 | g1 | g1 | g1 <;> omega
            have hnd : 200 + n ∉ LL ++ [100 + n] := fun h => (List.mem_append.mp h).elim (fun h => by rcases hGd _ h with g1 | g1 | g1 | g1 | g1 | g1 <;> omega) (fun h => by have := List.mem_singleton.mp h; omega)
            have hnb : 300 + n ∉ LL ++ [100 + n] := fun h => (List.mem_append.mp h).elim (fun h => by rcases hGd _ h with g1 | g1 | g1 | g1 | g1 | g1 <;> omega) (fun h => by have := List.mem_singleton.mp h; omega)
            have hm0 : ∀ j ∈ tf_fix, j ∈ LL ++ [100 + n] := fun j hj => List.mem_append_left _ (hF j hj)
            refine x_newF C (ci := 6) (fs := [.int 0, .int 0, .int 0, .int 0, .null, .null, .int 0, .int 0, .int 0, .int 0, .int 0, .int 0]) (100 + n) hin6 tyX6 tyX6_ok cl121 inst6 init6 hno rfl df6 (Nat.le_of_ble_eq_true rfl) (Nat.le_of_ble_eq_true rfl) dX9_squadron_68 (fun a1 p1 A1 B1 N1 C => ?_)
            rw [← A1 0 (by omega), ← A1 7 (by omega)]
            refine x_dup C dX9_squadron_71 rfl ?_
            refine x_aload_n C 1 dX9_squadron_72 rfl rfl ?_
            refine x_get C (T := TX9) (N := 9) (v := .ref (ad 1)) 0 0 hin9 (hm0 0 (by decide)) ((B1 0 (by omega)).trans (pf_0 G nR ad _)) rfl (by decide) lk23 rfl rfl dX9_squadron_73 ?_
            rw [← A1 1 (by omega)]
            refine x_get C (T := TX0) (N := 9) (v := .int (S 1 0)) 1 0 hin0 (hm0 1 (by decide)) ((B1 1 (by omega)).trans (pf_1 G nR ad _)) rfl (by decide) lk123 rfl rfl dX9_squadron_76 ?_
            refine x_top C (v2 := nI nR) hn ?_
            refine x_iload_n C 2 dX9_squadron_79 rfl rfl ?_
            refine x_iload_n C 3 dX9_squadron_80 rfl rfl ?_
            refine x_iload_n C 4 dX9_squadron_81 rfl rfl ?_
            refine x_iload C 5 dX9_squadron_82 rfl ?_
            refine x_I (100 + n) C (k_X6_init l G a1 p1 (LL ++ [100 + n]) (100 + n) (200 + n) (300 + n) (by omega) (by omega) (by omega) (List.mem_append_right _ (List.mem_singleton.mpr rfl)) hnd hnb nR hR c b g q N1) gX9_squadron_X6_init rfl init6 ml126 im6 rfl (by decide +kernel) ⟨(Nat.le_of_ble_eq_true rfl), (Nat.le_of_ble_eq_true rfl)⟩ ⟨(Nat.le_of_ble_eq_true rfl), (Nat.le_of_ble_eq_true rfl)⟩ (n := 5) rfl (st := [.ref (a1 (100 + n)), .ref (a1 7)]) (Nat.le_of_ble_eq_true rfl) rfl dX9_squadron_84 (fun a2 p2 Q2 C => ?_)
            obtain ⟨A2, B2, N2, N3, N4⟩ := Q2
            dsimp only at N2 N3 N4
            replace A2 : ∀ i, i ≠ 200 + n → i ≠ 300 + n → a2 i = a1 i := A2
            replace B2 : ∀ i, i ≠ 100 + n → i ≠ 200 + n → i ≠ 300 + n → p2 i = p1 i := B2
            rw [← A2 0 (by omega) (by omega), ← A2 7 (by omega) (by omega), ← A2 (100 + n) (by omega) (by omega)]
            have hA : ∀ x, x ≠ 100 + n → x ≠ 200 + n → x ≠ 300 + n → a2 x = ad x := fun x h1 h2 h3 => (A2 x h2 h3).trans (A1 x h1)
            have hgd : ∀ x, Gd n t x → a2 x = ad x := fun x hx => hA x (by unfold Gd at hx; omega) (by unfold Gd at hx; omega) (by unfold Gd at hx; omega)
            have hm9 : ∀ j ∈ tf_fix, j ∈ LL ++ [100 + n] ++ [200 + n] ++ [300 + n] := fun j hj => List.mem_append_left _ (List.mem_append_left _ (hm0 j hj))
            refine x_same C (ad1 := a2) (P1 := pw G nR a2 (sqNew S n c b g q)) (fun j hj => ⟨rfl, ?_⟩) (fun C => ?_)
            · show pf G nR a2 j (sqNew S n c b g q j) = p2 j
              rcases List.mem_append.mp hj with hj | hj
              · rcases List.mem_append.mp hj with hj | hj
                · rcases List.mem_append.mp hj with hj | hj
                  · have g1 := hGd j hj
                    have n1 : j ≠ 100 + n := by unfold Gd at g1; omega
                    have n2 : j ≠ 200 + n := by unfold Gd at g1; omega
                    have n3 : j ≠ 300 + n := by unfold Gd at g1; omega
                    rw [sqNew_ne n1 n2 n3, B2 j n1 n2 n3, B1 j n1]
                    exact pf_same hn12 ht10 hgd h8 h14 g1
                  · rw [List.mem_singleton.mp hj, N2, pf_sq G nR a2 _ (show n < 100 by omega)]
                    have e : sqNew S n c b g q (100 + n) = sqF c b g q := by
                      unfold sqNew tf_u; rw [if_neg (by omega), if_neg (by omega), if_pos rfl]
                    rw [e]
                    rfl
                · rw [List.mem_singleton.mp hj, N3, pf_sd G nR a2 _ (show n < 100 by omega)]
                  have e : sqNew S n c b g q (200 + n) = fun _ => 0 := by
                    unfold sqNew tf_u; rw [if_neg (by omega), if_pos rfl]
                  rw [e]
              · rw [List.mem_singleton.mp hj, N4, pf_sc G nR a2 _ (show n < 100 by omega)]
                have e : sqNew S n c b g q (300 + n) = fun _ => 0 := by
                  unfold sqNew tf_u; rw [if_pos rfl]
                rw [e]
            refine x_Vi 7 C (k_X3_add l G nR _ a2 hm9 (sqNew S n c b g q) n (by rw [sqNew_ne (by omega) (by omega) (by omega)]; exact hz) hn2 (List.mem_append_left _ (List.mem_append_left _ (List.mem_append_right _ (List.mem_singleton.mpr rfl))))) gX9_squadron_X3_add rfl (by decide +kernel) ⟨(Nat.le_of_ble_eq_true rfl), (Nat.le_of_ble_eq_true rfl)⟩ ⟨(Nat.le_of_ble_eq_true rfl), (Nat.le_of_ble_eq_true rfl)⟩ (hm9 7 (by decide)) (pf_7 G nR a2 _) (T := TX3) (N := 3) rfl (n := 1) rfl (st := []) (Nat.le_of_ble_eq_true rfl) rfl dX9_squadron_87 (fun r u hr9 => ?_)
            obtain ⟨rfl, rfl⟩ := hr9
            refine x_widen (k := 3) (n := 28) (Nat.le_of_ble_eq_true rfl) (Nat.le_of_ble_eq_true rfl) ?_
            refine x_iretA C hrt9 ?_ dX9_squadron_90
            exact ⟨hA, fun h => (by rw [hg] at h; cases h), fun _ => ⟨rfl, rfl⟩⟩
          · replace c59 := bI_nz c59
            refine x_iconst C dX9_squadron_62 (v := -1) (by decide) ?_
            refine x_widen (k := 3) (n := 28) (Nat.le_of_ble_eq_true rfl) (Nat.le_of_ble_eq_true rfl) ?_
            have hg : sqG n c b g q = false := by
              unfold sqG
              rw [decide_eq_false (fun h : n < 12 => absurd (nI_ge2 (a := n) (b := 12) (by rw [← hz]; exact fun h9 => absurd (of_decide_eq_true c59) (Int32.not_le.mpr h9)) (by decide)) (by omega))]
              simp
            obtain rfl := hL0 hg
            refine x_iretA C hrt9 ?_ dX9_squadron_63
            exact ⟨fun _ _ _ _ => rfl, fun _ => ⟨rfl, rfl⟩, fun h => by rw [hg] at h; cases h⟩

theorem stm_ne {nR o w x : Nat} {T : Nat → Int32} {N e : Nat} {S : tf_M} (ho : x ≠ o) (hw : x ≠ w) : (stm nR o w T N e).2.2 S x = S x := by
  have ha : ∀ a b, alwS nR S w a b x = S x := fun a b => by
    unfold alwS
    split
    · exact s2_ne hw
    · rfl
  have hd : ∀ e, (dysR nR w T N e).2.2 S x = S x := fun e => by
    unfold dysR
    split
    · rfl
    · split
      · rfl
      · split
        · rfl
        · exact ha _ _
  unfold stm ordR dayR nmbR
  split
  · split
    · rfl
    · exact s2_ne ho
  · split
    · exact hd _
    · split
      · exact s2_ne ho
      · split
        · exact s2_ne ho
        · split
          · exact s2_ne ho
          · rfl
theorem stepS_ne {S : tf_M} {N e x : Nat} (h : x ≠ 12) : stepS S N e x = S x := by
  unfold stepS; rw [s2_ne h, s2_ne h, s2_ne h]
theorem rdS_ne {nR o w x : Nat} {T : Nat → Int32} {N : Nat} (h : x ≠ 12) (ho : x ≠ o) (hw : x ≠ w) : ∀ (j e : Nat) (Z : tf_M), (rdS nR o w T N j e Z).2 x = Z x := by
  intro j
  induction j with
  | zero => intro e Z; exact stepS_ne h
  | succ j ih =>
    intro e Z
    unfold rdS
    split
    · exact stepS_ne h
    · split
      · rw [ih, stm_ne ho hw, stepS_ne h]
      · show (stm nR o w T N e).2.2 (stepS Z N (stm nR o w T N e).2.1) x = Z x
        rw [stm_ne ho hw, stepS_ne h]
def stRd (S : tf_M) (nR t N : Nat) : Int32 × tf_M := rdS nR (400 + t) (500 + t) (S 11) N 16 0 (s2 (s2 (stNew S nR t) 12 1 (nI N)) 12 3 0)
def stGo (S : tf_M) (nR t N : Nat) : tf_M := s2 (s2 (stRd S nR t N).2 0 8 (stRd S nR t N).1) 10 1 0
def stAcc (S : tf_M) (nR t : Nat) (x : Int32) : Bool := isW x 0 (S 10 1) && !decide (t = 10) && decide ((stRd S nR t x.toNatClampNeg).1 = -1)
set_option maxHeartbeats 4000000 in
set_option maxRecDepth 100000 in
theorem k_X9_statute (l : Launch) (G : tf_G) (nR : Nat) (LL : List Nat) (ad : Nat → Nat) (hF : ∀ j ∈ tf_fix, j ∈ LL) (S : tf_M) (x : Int32) (n t k : Nat) (hk : S 10 1 = nI k) (hk4 : k ≤ 400) (hz : S 13 2 = nI t) (hn12 : n ≤ 12) (ht10 : t ≤ 10) (hGd : ∀ j ∈ LL, Gd n t j) (h8 : ∀ i, n ≤ i → S 8 i = 0) (h14 : ∀ i, t ≤ i → S 14 i = 0) (hn : S 1 0 = nI nR) (hR : nR ≤ 12) (LL1 : List Nat) (hL1 : stAcc S nR t x = true → LL1 = LL ++ [400 + t] ++ [500 + t]) (hL0 : stAcc S nR t x = false → LL1 = LL) : Di l yX9_statute wsX9_statute ({ frames := 8, cells := 2, slots := 19, locals := 174 } : Room) G LL ad (pw G nR ad S) [.ref (ad 0), .int x] LL1 (fun r u => (∀ y, y ≠ 400 + t → y ≠ 500 + t → u.1 y = ad y) ∧ (isW x 0 (S 10 1) = false → r = -2 ∧ u.2 = pw G nR u.1 S) ∧ (isW x 0 (S 10 1) = true → t = 10 → r = -3 ∧ u.2 = pw G nR u.1 S) ∧ (isW x 0 (S 10 1) = true → ¬ t = 10 → (¬ (stRd S nR t x.toNatClampNeg).1 = -1 → r = -1 ∧ u.2 = pw G nR u.1 (stGo S nR t x.toNatClampNeg)) ∧ ((stRd S nR t x.toNatClampNeg).1 = -1 → r = nI t ∧ u.2 = pw G nR u.1 (s2 (s2 (stGo S nR t x.toNatClampNeg) 14 t 1) 13 2 (nI (t + 1)))))) := by
  have hin9 : ∀ w ∈ u_ws RX9 TX9 9, w ∈ wsX9_statute := by decide +kernel
  have lk37 : Cond.fieldLink RX9 37 "TributeFleet" "tape" "LTributeFleet$Tape;" ∈ wsX9_statute := by decide +kernel
  have hin8 : ∀ w ∈ u_ws RX8 TX8 2, w ∈ wsX9_statute := by decide +kernel
  have lk139 : Cond.fieldLink RX9 139 "TributeFleet$Tape" "size" "I" ∈ wsX9_statute := by decide +kernel
  have lk53 : Cond.fieldLink RX9 53 "TributeFleet" "code" "LTributeFleet$Code;" ∈ wsX9_statute := by decide +kernel
  have hin0 : ∀ w ∈ u_ws RX0 TX0 9, w ∈ wsX9_statute := by decide +kernel
  have hin1 : ∀ w ∈ u_ws RX1 TX1 3, w ∈ wsX9_statute := by decide +kernel
  have hin7 : ∀ w ∈ u_ws RX7 TX7 7, w ∈ wsX9_statute := by decide +kernel
  have lk23 : Cond.fieldLink RX9 23 "TributeFleet" "canal" "LTributeFleet$Canal;" ∈ wsX9_statute := by decide +kernel
  have lk123 : Cond.fieldLink RX9 123 "TributeFleet$Canal" "reaches" "I" ∈ wsX9_statute := by decide +kernel
  have lk145 : Cond.fieldLink RX9 145 "TributeFleet$Code" "size" "I" ∈ wsX9_statute := by decide +kernel
  have lk71 : Cond.fieldLink RX9 71 "TributeFleet" "today" "I" ∈ wsX9_statute := by decide +kernel
  have cl143 : Cond.classLink RX9 143 RX7 ∈ wsX9_statute := by decide +kernel
  have inst7 : Cond.instantiable RX7 7 ∈ wsX9_statute := by decide +kernel
  have init7 : Cond.initialized RX7 ∈ wsX9_statute := by decide +kernel
  have ml146 : Cond.methodLink RX9 146 yX7_init ∈ wsX9_statute := by decide +kernel
  have im7 : Cond.instanceMethod yX7_init ∈ wsX9_statute := by decide +kernel
  have lk46 : Cond.fieldLink RX9 46 "TributeFleet" "reader" "LTributeFleet$Reader;" ∈ wsX9_statute := by decide +kernel
  have lk75 : Cond.fieldLink RX9 75 "TributeFleet" "faultPlace" "I" ∈ wsX9_statute := by decide +kernel
  refine di_of (cc := cX9_statute) (maxL := 3) (ret := (some .int)) (by decide +kernel) rfl (Nat.le_of_ble_eq_true rfl) ?_
  intro pv ev sv mv args below meth cv A C hrt9 hnm9
  have C : Cx pv sv mv args meth cv cX9_statute 3 RX9 wsX9_statute G A LL ad := C
  show XJ pv l ev _ sv mv args below meth cv G A LL ad _ 3 0 0 _ 0 [(0, .ref (ad 0)), (1, .int x)] []
  refine x_iload_n C 1 dX9_statute_0 rfl rfl ?_
  refine x_if_lt C (tgt := 15) dX9_statute_1 (by decide) (fun c1 => ?_) (fun c1 => ?_)
  · skip
    refine x_bipush C dX9_statute_15 (v := -2) (by decide) ?_
    refine x_widen (k := 2) (n := 19) (Nat.le_of_ble_eq_true rfl) (Nat.le_of_ble_eq_true rfl) ?_
    have hw : isW x 0 (S 10 1) = false := by unfold isW; rw [decide_eq_false (Int32.not_le.mpr c1)]; simp
    have ha : stAcc S nR t x = false := by unfold stAcc; rw [hw]; rfl
    obtain rfl := hL0 ha
    refine x_iretA C hrt9 ?_ dX9_statute_17
    exact ⟨fun _ _ _ => rfl, fun _ => ⟨rfl, rfl⟩, fun h => (by rw [hw] at h; cases h), fun h => (by rw [hw] at h; cases h)⟩
  · skip
    refine x_iload_n C 1 dX9_statute_4 rfl rfl ?_
    refine x_aload_n C 0 dX9_statute_5 rfl rfl ?_
    refine x_get C (T := TX9) (N := 9) (v := .ref (ad 10)) 0 2 hin9 (hF 0 (by decide)) (pf_0 G nR ad _) rfl (by decide) lk37 rfl rfl dX9_statute_6 ?_
    refine x_get C (T := TX8) (N := 2) (v := .int (S 10 1)) 10 1 hin8 (hF 10 (by decide)) (pf_10 G nR ad _) rfl (by decide) lk139 rfl rfl dX9_statute_9 ?_
    refine x_icmp_le C (tgt := 18) dX9_statute_12 (by decide) (fun c12 => ?_) (fun c12 => ?_)
    · skip
      refine x_aload_n C 0 dX9_statute_18 rfl rfl ?_
      refine x_get C (T := TX9) (N := 9) (v := .ref (ad 13)) 0 4 hin9 (hF 0 (by decide)) (pf_0 G nR ad _) rfl (by decide) lk53 rfl rfl dX9_statute_19 ?_
      refine x_Vi 13 C (k_X1_isFull l G nR LL ad hF S) gX9_statute_X1_isFull rfl (by decide +kernel) ⟨(Nat.le_of_ble_eq_true rfl), (Nat.le_of_ble_eq_true rfl)⟩ ⟨(Nat.le_of_ble_eq_true rfl), (Nat.le_of_ble_eq_true rfl)⟩ (hF 13 (by decide)) (pf_13 G nR ad _) (T := TX1) (N := 3) rfl (n := 0) rfl (st := []) (Nat.le_of_ble_eq_true rfl) rfl dX9_statute_22 (fun _ _ hr9 => ?_)
      subst hr9
      refine x_if_eq C (tgt := 31) dX9_statute_25 (by decide) (fun c25 => ?_) (fun c25 => ?_)
      · replace c25 := bI_z c25
        have hw9 : isW x 0 (S 10 1) = true := by unfold isW; rw [decide_eq_true (Int32.not_lt.mp c1), decide_eq_true c12]; rfl
        have ht9 : t < 10 := by
          have h9 := Int32.not_le.mp (of_decide_eq_false c25)
          rw [hz] at h9
          exact nI_lt2 (b := 10) h9 (by omega)
        have hnt : ¬ t = 10 := by omega
        have hxN : ∃ N, N ≤ k ∧ x = nI N := by
          have c12' := c12
          rw [hk] at c12'
          obtain ⟨j, hj, hx⟩ := nI_of2 (x := x) (M := nI k) (n := k) (nI_toInt (by omega)) c1 c12'
          exact ⟨j, hj, hx⟩
        obtain ⟨N, hNk, hx⟩ := hxN
        have hcl : x.toNatClampNeg = N := by rw [hx]; exact nI_clamp (by omega)
        have hno : 400 + t ∉ LL := fun h => by rcases hGd _ h with g1 | g1 | g1 | g1 | g1 | g1 <;> omega
        have hnw : 500 + t ∉ LL ++ [400 + t] := fun h => (List.mem_append.mp h).elim (fun h => by rcases hGd _ h with g1 | g1 | g1 | g1 | g1 | g1 <;> omega) (fun h => by have := List.mem_singleton.mp h; omega)
        have hm0 : ∀ j ∈ tf_fix, j ∈ LL ++ [400 + t] := fun j hj => List.mem_append_left _ (hF j hj)
        refine x_newF C (ci := 7) (fs := [.int 0, .int 0, .null, .int 0, .int 0, .int 0, .int 0]) (400 + t) hin7 tyX7 tyX7_ok cl143 inst7 init7 hno rfl df7 (Nat.le_of_ble_eq_true rfl) (Nat.le_of_ble_eq_true rfl) dX9_statute_31 (fun a1 p1 A1 B1 N1 C => ?_)
        rw [← A1 0 (by omega)]
        refine x_dup C dX9_statute_34 rfl ?_
        refine x_aload_n C 0 dX9_statute_35 rfl rfl ?_
        refine x_get C (T := TX9) (N := 9) (v := .ref (ad 1)) 0 0 hin9 (hm0 0 (by decide)) ((B1 0 (by omega)).trans (pf_0 G nR ad _)) rfl (by decide) lk23 rfl rfl dX9_statute_36 ?_
        rw [← A1 1 (by omega)]
        refine x_get C (T := TX0) (N := 9) (v := .int (S 1 0)) 1 0 hin0 (hm0 1 (by decide)) ((B1 1 (by omega)).trans (pf_1 G nR ad _)) rfl (by decide) lk123 rfl rfl dX9_statute_39 ?_
        refine x_top C (v2 := nI nR) hn ?_
        refine x_aload_n C 0 dX9_statute_42 rfl rfl ?_
        refine x_get C (T := TX9) (N := 9) (v := .ref (ad 13)) 0 4 hin9 (hm0 0 (by decide)) ((B1 0 (by omega)).trans (pf_0 G nR ad _)) rfl (by decide) lk53 rfl rfl dX9_statute_43 ?_
        rw [← A1 13 (by omega)]
        refine x_get C (T := TX1) (N := 3) (v := .int (S 13 2)) 13 2 hin1 (hm0 13 (by decide)) ((B1 13 (by omega)).trans (pf_13 G nR ad _)) rfl (by decide) lk145 rfl rfl dX9_statute_46 ?_
        refine x_top C (v2 := nI t) hz ?_
        refine x_aload_n C 0 dX9_statute_49 rfl rfl ?_
        refine x_get C (T := TX9) (N := 9) (v := .int (S 0 7)) 0 7 hin9 (hm0 0 (by decide)) ((B1 0 (by omega)).trans (pf_0 G nR ad _)) rfl (by decide) lk71 rfl rfl dX9_statute_50 ?_
        refine x_I (400 + t) C (k_X7_init l G a1 p1 (LL ++ [400 + t]) (400 + t) (500 + t) (by omega) (List.mem_append_right _ (List.mem_singleton.mpr rfl)) hnw nR hR (nI t) (S 0 7) N1) gX9_statute_X7_init rfl init7 ml146 im7 rfl (by decide +kernel) ⟨(Nat.le_of_ble_eq_true rfl), (Nat.le_of_ble_eq_true rfl)⟩ ⟨(Nat.le_of_ble_eq_true rfl), (Nat.le_of_ble_eq_true rfl)⟩ (n := 3) rfl (st := [.ref (a1 (400 + t))]) (Nat.le_of_ble_eq_true rfl) rfl dX9_statute_53 (fun a2 p2 Q2 C => ?_)
        obtain ⟨A2, B2, N2, N3⟩ := Q2
        dsimp only at N2 N3
        replace A2 : ∀ i, i ≠ 500 + t → a2 i = a1 i := A2
        replace B2 : ∀ i, i ≠ 400 + t → i ≠ 500 + t → p2 i = p1 i := B2
        rw [← A2 0 (by omega), ← A2 (400 + t) (by omega)]
        have hA : ∀ x, x ≠ 400 + t → x ≠ 500 + t → a2 x = ad x := fun x h1 h2 => (A2 x h2).trans (A1 x h1)
        have hgd : ∀ x, Gd n t x → a2 x = ad x := fun x hx => hA x (by unfold Gd at hx; omega) (by unfold Gd at hx; omega)
        refine x_same C (ad1 := a2) (P1 := pw G nR a2 (stNew S nR t)) (fun j hj => ⟨rfl, ?_⟩) (fun C => ?_)
        · show pf G nR a2 j (stNew S nR t j) = p2 j
          rcases List.mem_append.mp hj with hj | hj
          · rcases List.mem_append.mp hj with hj | hj
            · have g1 := hGd j hj
              have n1 : j ≠ 400 + t := by unfold Gd at g1; omega
              have n2 : j ≠ 500 + t := by unfold Gd at g1; omega
              rw [stNew_ne n1 n2, B2 j n1 n2, B1 j n1]
              exact pf_same hn12 ht10 hgd h8 h14 g1
            · rw [List.mem_singleton.mp hj, N2, pf_st G nR a2 _ (show t < 100 by omega)]
              have e : stNew S nR t (400 + t) = stF0 t (S 0 7) := by
                unfold stNew tf_u; rw [if_neg (by omega), if_pos rfl]
              rw [e]
              rfl
          · rw [List.mem_singleton.mp hj, N3, pf_sa G nR a2 _ (show t < 100 by omega)]
            have e : stNew S nR t (500 + t) = al3 nR := by
              unfold stNew tf_u; rw [if_pos rfl]
            rw [e]
        have hFb : ∀ j ∈ tf_fix, j ∈ LL ++ [400 + t] ++ [500 + t] := fun j hj => List.mem_append_left _ (hm0 j hj)
        have hm4 : 400 + t ∈ LL ++ [400 + t] ++ [500 + t] := List.mem_append_left _ (List.mem_append_right _ (List.mem_singleton.mpr rfl))
        have hm5 : 500 + t ∈ LL ++ [400 + t] ++ [500 + t] := List.mem_append_right _ (List.mem_singleton.mpr rfl)
        obtain ⟨LLb, hLLb⟩ : ∃ q, q = LL ++ [400 + t] ++ [500 + t] := ⟨_, rfl⟩
        rw [← hLLb] at hFb hm4 hm5 C ⊢
        have hq2 : StOk G nR LLb a2 (400 + t) (500 + t) := ⟨fun f => pf_st G nR a2 f (show t < 100 by omega), fun f => pf_sa G nR a2 f (show t < 100 by omega), hm4, hm5⟩
        obtain ⟨S2, hS2⟩ : ∃ q, q = stNew S nR t := ⟨_, rfl⟩
        rw [← hS2]
        have e11 : S2 11 = S 11 := by rw [hS2, stNew_ne (by omega) (by omega)]
        have hk2 : S2 10 1 = nI k := by rw [hS2, stNew_ne (by omega) (by omega)]; exact hk
        refine x_astore_n C (L1 := [(2, .ref (a2 (400 + t))), (0, .ref (a2 0)), (1, .int x)]) dX9_statute_56 rfl (by decide) rfl ?_
        refine x_aload_n C 1 dX9_statute_57 rfl rfl ?_
        refine x_aload_n C 1 dX9_statute_58 rfl rfl ?_
        refine x_get C (T := TX9) (N := 9) (v := .ref (a2 12)) 0 3 hin9 (hFb 0 (by decide)) (pf_0 G nR a2 _) rfl (by decide) lk46 rfl rfl dX9_statute_59 ?_
        refine x_iload_n C 2 dX9_statute_62 rfl rfl ?_
        refine x_aload_n C 0 dX9_statute_63 rfl rfl ?_
        refine x_top2 C (v2 := nI N) hx ?_
        refine x_Vi 12 C (k_X4_read l G nR LLb a2 hFb S2 N k hk2 hNk hk4 (400 + t) (500 + t) hq2 hR (by omega) (by omega)) gX9_statute_X4_read rfl (by decide +kernel) ⟨(Nat.le_of_ble_eq_true rfl), (Nat.le_of_ble_eq_true rfl)⟩ ⟨(Nat.le_of_ble_eq_true rfl), (Nat.le_of_ble_eq_true rfl)⟩ (hFb 12 (by decide)) (pf_12 G nR a2 _) (T := TX4) (N := 5) rfl (n := 2) rfl (st := [.ref (a2 0)]) (Nat.le_of_ble_eq_true rfl) rfl dX9_statute_64 (fun _ _ hr9 => ?_)
        obtain ⟨rfl, rfl⟩ := hr9
        rw [e11]
        obtain ⟨rd, hrd⟩ : ∃ rd, rd = rdS nR (400 + t) (500 + t) (S 11) N 16 0 (s2 (s2 S2 12 1 (nI N)) 12 3 0) := ⟨_, rfl⟩
        rw [← hrd]
        have hrd2 : rd = stRd S nR t N := by rw [hrd, hS2]; rfl
        have hk13 : rd.2 13 = S 13 := by rw [hrd, rdS_ne (by decide) (by omega) (by omega), s2_ne (by decide), s2_ne (by decide), hS2, stNew_ne (by omega) (by omega)]
        refine y_put C (T := TX9) (N := 9) (ty := .int) 0 8 hin9 tyX9 tyX9_ok nmX9 (hFb 0 (by decide)) (pf_0 G nR a2 _) (pf_0 G nR a2 _) rfl (by decide) lk75 rfl rfl (by decide +kernel) rfl rfl (Nat.le_of_ble_eq_true rfl) dX9_statute_67 ?_
        refine x_aload_n C 1 dX9_statute_70 rfl rfl ?_
        refine x_get C (T := TX9) (N := 9) (v := .ref (a2 10)) 0 2 hin9 (hFb 0 (by decide)) (pf_0 G nR a2 _) rfl (by decide) lk37 rfl rfl dX9_statute_71 ?_
        refine x_iconst C dX9_statute_74 (v := 0) (by decide) ?_
        refine y_put C (T := TX8) (N := 2) (ty := .int) 10 1 hin8 tyX8 tyX8_ok nmX8 (hFb 10 (by decide)) (pf_10 G nR a2 _) (pf_10 G nR a2 _) rfl (by decide) lk139 rfl rfl (by decide +kernel) rfl rfl (Nat.le_of_ble_eq_true rfl) dX9_statute_75 ?_
        refine x_aload_n C 1 dX9_statute_78 rfl rfl ?_
        refine x_get C (T := TX9) (N := 9) (v := .int rd.1) 0 8 hin9 (hFb 0 (by decide)) (pf_0 G nR a2 _) rfl (by decide) lk75 rfl rfl dX9_statute_79 ?_
        refine x_iconst C dX9_statute_82 (v := -1) (by decide) ?_
        refine x_icmp_ne C (tgt := 97) dX9_statute_83 (by decide) (fun c83 => ?_) (fun c83 => ?_)
        · skip
          refine x_iconst C dX9_statute_97 (v := -1) (by decide) ?_
          have ha : stAcc S nR t x = false := by
            unfold stAcc
            rw [hcl, ← hrd2, decide_eq_false (show ¬ rd.1 = -1 from c83)]
            simp
          obtain rfl := hL0 ha
          rw [hLLb, List.append_assoc]
          refine x_drop (LLx := [400 + t] ++ [500 + t]) (by rw [← List.append_assoc]; first | exact C | (rw [← hLLb]; exact C)) (ad1 := a2) (P1 := pw G nR a2 (s2 (s2 rd.2 0 8 rd.1) 10 1 0)) (fun _ _ => ⟨rfl, rfl⟩) (fun C => ?_)
          refine x_widen (k := 2) (n := 19) (Nat.le_of_ble_eq_true rfl) (Nat.le_of_ble_eq_true rfl) ?_
          refine x_iretA C hrt9 ?_ dX9_statute_98
          exact ⟨hA, fun h => (by rw [hw9] at h; cases h), fun _ h => absurd h hnt, fun _ _ => ⟨fun _ => ⟨rfl, by rw [hcl, stGo, ← hrd2]⟩, fun h => (by rw [hcl, ← hrd2] at h; exact absurd h c83)⟩⟩
        · skip
          refine x_aload_n C 1 dX9_statute_86 rfl rfl ?_
          refine x_get C (T := TX9) (N := 9) (v := .ref (a2 13)) 0 4 hin9 (hFb 0 (by decide)) (pf_0 G nR a2 _) rfl (by decide) lk53 rfl rfl dX9_statute_87 ?_
          refine x_aload_n C 0 dX9_statute_90 rfl rfl ?_
          refine x_Vi 13 C (k_X1_take l G nR LLb a2 hFb (s2 (s2 rd.2 0 8 rd.1) 10 1 0) t (by rw [s2_ne (by decide), s2_ne (by decide), hk13]; exact hz) ht9 hm4) gX9_statute_X1_take rfl (by decide +kernel) ⟨(Nat.le_of_ble_eq_true rfl), (Nat.le_of_ble_eq_true rfl)⟩ ⟨(Nat.le_of_ble_eq_true rfl), (Nat.le_of_ble_eq_true rfl)⟩ (hFb 13 (by decide)) (pf_13 G nR a2 _) (T := TX1) (N := 3) rfl (n := 1) rfl (st := []) (Nat.le_of_ble_eq_true rfl) rfl dX9_statute_91 (fun _ _ hr9 => ?_)
          obtain ⟨rfl, rfl⟩ := hr9
          refine x_goto C (tgt := 98) dX9_statute_94 (by decide) ?_
          have ha : stAcc S nR t x = true := by
            unfold stAcc
            rw [hcl, ← hrd2, decide_eq_true (show rd.1 = -1 from c83), hw9, decide_eq_false hnt]
            rfl
          obtain rfl := (hL1 ha).trans hLLb.symm
          refine x_widen (k := 2) (n := 19) (Nat.le_of_ble_eq_true rfl) (Nat.le_of_ble_eq_true rfl) ?_
          refine x_iretA C hrt9 ?_ dX9_statute_98
          exact ⟨hA, fun h => (by rw [hw9] at h; cases h), fun _ h => absurd h hnt, fun _ _ => ⟨fun h => (by rw [hcl, ← hrd2] at h; exact absurd c83 h), fun _ => ⟨rfl, by rw [hcl, stGo, ← hrd2]⟩⟩⟩
      · replace c25 := bI_nz c25
        refine x_bipush C dX9_statute_28 (v := -3) (by decide) ?_
        refine x_widen (k := 2) (n := 19) (Nat.le_of_ble_eq_true rfl) (Nat.le_of_ble_eq_true rfl) ?_
        have hw : isW x 0 (S 10 1) = true := by unfold isW; rw [decide_eq_true (Int32.not_lt.mp c1), decide_eq_true c12]; rfl
        have ht9 : t = 10 := by
          have h9 := of_decide_eq_true c25
          rw [hz] at h9
          have := nI_ge' (b := 10) h9 (by decide)
          omega
        have ha : stAcc S nR t x = false := by unfold stAcc; rw [hw, decide_eq_true ht9]; rfl
        obtain rfl := hL0 ha
        refine x_iretA C hrt9 ?_ dX9_statute_30
        exact ⟨fun _ _ _ => rfl, fun h => (by rw [hw] at h; cases h), fun _ _ => ⟨rfl, rfl⟩, fun _ h => absurd ht9 h⟩
    · skip
      refine x_bipush C dX9_statute_15 (v := -2) (by decide) ?_
      refine x_widen (k := 2) (n := 19) (Nat.le_of_ble_eq_true rfl) (Nat.le_of_ble_eq_true rfl) ?_
      have hw : isW x 0 (S 10 1) = false := by unfold isW; rw [decide_eq_false (c12)]; simp
      have ha : stAcc S nR t x = false := by unfold stAcc; rw [hw]; rfl
      obtain rfl := hL0 ha
      refine x_iretA C hrt9 ?_ dX9_statute_17
      exact ⟨fun _ _ _ => rfl, fun _ => ⟨rfl, rfl⟩, fun h => (by rw [hw] at h; cases h), fun h => (by rw [hw] at h; cases h)⟩

