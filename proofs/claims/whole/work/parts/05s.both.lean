/-! both sides: what only reads -/
theorem sumI_c {f g : Nat → Int32} : ∀ n, (∀ k, k < n → f k = g k) → sumI f n = sumI g n := by
  intro n
  induction n with
  | zero => intro _; rfl
  | succ n ih => intro h; unfold sumI; rw [ih fun k hk => h k (by omega), h n (by omega)]
theorem se_fault {nR n t nk k d : Nat} {S : tf_M} (I : Iv nR n t nk k d S) : S 0 8 = S 30 32 := I.2.1.i28
theorem se_store {nR n t nk k d : Nat} {S : tf_M} (I : Iv nR n t nk k d S) (a : Int32) : (if isP a (S 1 6) = true then S 5 a.toNatClampNeg else -1) = (if isP a (nI nk) = true then S 40 a.toNatClampNeg else -1) := by
  rw [I.2.1.i6, I.2.1.i9]
theorem se_icy {nR n t nk k d : Nat} {S : tf_M} (I : Iv nR n t nk k d S) (a : Int32) : icy (S 1 7) (S 1 8) a (S 0 7) = icy (S 30 6) (S 30 7) a (S 30 3) := by
  unfold icy
  rw [I.2.1.i14, I.2.1.i15, I.2.1.i13]
  have h := I.2.1.i12 d I.1.2.2.2.2.2.2
  rw [show decide (S 1 7 ≤ nI d) = decide (S 30 6 ≤ nI d) from decide_eq_decide.mpr h]
theorem se_reach {nR n t nk k d : Nat} {S : tf_M} (I : Iv nR n t nk k d S) (a b : Int32) : reachOf S n a b = mReach nR S n a b := by
  have X := I.2.1
  have B := I.1
  unfold reachOf mReach
  have hs : sumI (boatsF S a) n = sumI (mBoatsF S a) n := sumI_c n fun k hk => by
    have Q := I.2.2.1.1 k hk
    unfold boatsF mBoatsF
    rw [Q.q6, Q.q1]
  rw [X.i1, X.i3, hs, se_icy I]
  by_cases hp : isP a (nI nR) = true
  · rw [if_pos hp, if_pos hp, nI_sub1 (by have := B.1; omega)]
    have h3 : (if isP a (nI (nR - 1)) = true then S 3 a.toNatClampNeg else -1) = (if isP a (nI (nR - 1)) = true then S 32 a.toNatClampNeg else -1) := by
      by_cases h : isP a (nI (nR - 1)) = true
      · rw [if_pos h, if_pos h, X.i4]
        have := (isP_nat h (by have := B.2.1; omega)).1
        have := B.2.1
        omega
      · rw [if_neg h, if_neg h]
    rw [h3]
  · rw [if_neg hp, if_neg hp]
theorem w05 {b : Int32} (h : isW b 0 4 = true) : b = 0 ∨ b = 1 ∨ b = 2 ∨ b = 3 ∨ b = 4 := by
  obtain ⟨j, _, h2, rfl⟩ := isW_n (a := 0) (b := 4) (by decide) h (by decide)
  rcases (show j = 0 ∨ j = 1 ∨ j = 2 ∨ j = 3 ∨ j = 4 by omega) with rfl | rfl | rfl | rfl | rfl <;> decide
theorem w03 {b : Int32} (h : isW b 0 3 = true) : b = 0 ∨ b = 1 ∨ b = 2 ∨ b = 3 := by
  obtain ⟨j, _, h2, rfl⟩ := isW_n (a := 0) (b := 3) (by decide) h (by decide)
  rcases (show j = 0 ∨ j = 1 ∨ j = 2 ∨ j = 3 by omega) with rfl | rfl | rfl | rfl <;> decide
theorem se_county {nR n t nk k d : Nat} {S : tf_M} (I : Iv nR n t nk k d S) (a b : Int32) : countyOf S n a b = mCounty S n a b := by
  have X := I.2.1
  unfold countyOf mCounty
  have hs : sumI (bagsF S a) n = sumI (mBagsF S a) n := sumI_c n fun k hk => by
    have Q := I.2.2.1.1 k hk
    unfold bagsF mBagsF come
    rw [Q.q0, Q.q7, Q.q2, Q.q8]
    by_cases h1 : S 42 k = a <;> by_cases h2 : S 48 k = -1 <;> simp [h1, h2]
  rw [hs, X.i22, X.i23, X.i24]
  by_cases hp : isW a 0 5 = true
  · have hl : leftOf S a = S 54 a.toNatClampNeg - S 55 a.toNatClampNeg := by rw [leftOf, if_pos hp, X.i22, X.i23]
    rw [if_pos hp, hl]
    by_cases hb : isW b 0 4 = true
    · rw [if_pos (show isW a 0 5 = true ∧ isW b 0 4 = true from ⟨hp, hb⟩)]
      rcases w05 hb with rfl | rfl | rfl | rfl | rfl <;> simp
    · rw [if_neg (show ¬ (isW a 0 5 = true ∧ isW b 0 4 = true) from fun h => hb h.2), if_neg (fun h => hb (by rw [h]; decide)), if_neg (fun h => hb (by rw [h]; decide)), if_neg (fun h => hb (by rw [h]; decide)), if_neg (fun h => hb (by rw [h]; decide)), if_neg (fun h => hb (by rw [h]; decide))]
  · rw [if_neg hp, if_neg (fun h => hp h.1)]
theorem se_count {nR n t nk k d : Nat} {S : tf_M} (I : Iv nR n t nk k d S) (b : Int32) : countOf S n b = mCount S n b := by
  have X := I.2.1
  unfold countOf mCount
  have hs : sumI (comeF S) n = sumI (mComeF S) n := sumI_c n fun k hk => by
    have Q := I.2.2.1.1 k hk
    unfold comeF mComeF come
    rw [Q.q7]
    by_cases h2 : S 48 k = -1 <;> simp [h2]
  rw [hs, X.i14, X.i15, X.i16, X.i17, X.i6, X.i7, X.i26, X.i27, X.i18, X.i19, X.i1, X.i2]
theorem nP {b : Int32} {m : Nat} (h : b.toInt < 10) : isP (b - 10) (nI m) = false ∨ b.toInt < -2147483638 := by
  rcases (show b.toInt < -2147483638 ∨ -2147483638 ≤ b.toInt by omega) with g | g
  · exact Or.inr g
  · refine Or.inl ?_
    have e : (b - 10).toInt = b.toInt - 10 := by
      rw [Int32.toInt_sub, show (10 : Int32).toInt = 10 from rfl, Int.bmod_eq_of_le (by omega) (by omega)]
    unfold isP
    rw [decide_eq_false (show ¬ (0 : Int32) ≤ b - 10 by rw [Int32.le_iff_toInt_le, e, show (0 : Int32).toInt = 0 from rfl]; omega)]
    rfl
theorem se_told {nR n t nk k d : Nat} {S : tf_M} (I : Iv nR n t nk k d S) (q b : Int32) : (if isP q (S 7 2) = true then sqTell nR S (100 + q.toNatClampNeg) (200 + q.toNatClampNeg) (300 + q.toNatClampNeg) b else -1) = mTold nR S n q b := by
  have X := I.2.1
  have B := I.1
  unfold mTold
  rw [X.i16]
  by_cases hp : isP q (nI n) = true
  · rw [if_pos hp, if_pos hp]
    obtain ⟨hq, hq2⟩ := isP_nat hp (by have := B.2.2.1; omega)
    have Q := I.2.2.1.1 _ hq
    obtain ⟨r, hr, hr2, -⟩ := Q.qat
    have hrc : (S 47 q.toNatClampNeg).toNatClampNeg = r := by rw [hr2]; exact nI_clamp (by have := B.2.1; omega)
    unfold sqTell
    rw [Q.q6, Q.q7, Q.q2, Q.q8, Q.q9, Q.q11]
    have h4 : (if isP (S 47 q.toNatClampNeg) (nI nR) = true then S (200 + q.toNatClampNeg) (S 47 q.toNatClampNeg).toNatClampNeg else -1) = S 52 (12 * q.toNatClampNeg + (S 47 q.toNatClampNeg).toNatClampNeg) := by
      rw [hr2, if_pos (isP_k hr (by have := B.2.1; omega)), ← hr2, hrc, Q.qd r hr]
    rw [h4]
    have small : ∀ c : Int32, (c = 0 ∨ c = 1 ∨ c = 2 ∨ c = 3 ∨ c = 4 ∨ c = 5) → isP (c - 10) (nI nR) = false ∧ isW c 31 34 = false := by
      intro c hc
      have g : isP (c - 10) (nI nR) = false := by
        unfold isP
        rw [decide_eq_false (show ¬ (0 : Int32) ≤ c - 10 by rcases hc with rfl | rfl | rfl | rfl | rfl | rfl <;> decide)]
        rfl
      exact ⟨g, by rcases hc with rfl | rfl | rfl | rfl | rfl | rfl <;> decide⟩
    by_cases hb : b = 0 ∨ b = 1 ∨ b = 2 ∨ b = 3 ∨ b = 4 ∨ b = 5
    · obtain ⟨g1, g2⟩ := small b hb
      rw [g1, g2]
      rcases hb with rfl | rfl | rfl | rfl | rfl | rfl <;> simp
    · have n0 : ¬ b = 0 := fun h => hb (Or.inl h)
      have n1 : ¬ b = 1 := fun h => hb (Or.inr (Or.inl h))
      have n2 : ¬ b = 2 := fun h => hb (Or.inr (Or.inr (Or.inl h)))
      have n3 : ¬ b = 3 := fun h => hb (Or.inr (Or.inr (Or.inr (Or.inl h))))
      have n4 : ¬ b = 4 := fun h => hb (Or.inr (Or.inr (Or.inr (Or.inr (Or.inl h)))))
      have n5 : ¬ b = 5 := fun h => hb (Or.inr (Or.inr (Or.inr (Or.inr (Or.inr h)))))
      rw [if_neg n0, if_neg n1, if_neg n2, if_neg n3, if_neg n4, if_neg n5, if_neg n0, if_neg n1, if_neg n2, if_neg n3, if_neg n4, if_neg n5]
      unfold sqDays
      by_cases h10 : isP (b - 10) (nI nR) = true
      · rw [if_pos h10, if_pos h10, Q.qd _ (isP_nat h10 (by have := B.2.1; omega)).1]
      · rw [if_neg h10, if_neg h10]
        by_cases h31 : isW b 31 34 = true
        · obtain ⟨j, hj1, hj2, rfl⟩ := isW_n (a := 31) (b := 34) (by decide) h31 (by decide)
          have e31 : nI j - 31 = nI (j - 31) := nI_sub (a := 31) hj1
          rw [if_pos h31, e31, if_pos (show isP (nI (j - 31)) 4 = true from isP_k (k := j - 31) (n := 4) (by omega) (by decide)), nI_clamp (by omega), nI_clamp (by omega), Q.qb (j - 31) (by omega)]
        · rw [if_neg h31, if_neg]
          intro h
          obtain ⟨g1, g2⟩ := isP_nat (n := 4) h (by decide)
          refine h31 ?_
          have e : b = nI ((b - 31).toNatClampNeg + 31) := by
            rw [nI_ad, ← g2, show nI 31 = 31 from rfl, Int32.sub_add_cancel]
          generalize (b - 31).toNatClampNeg = m at g1 e
          rw [e]
          rcases (show m = 0 ∨ m = 1 ∨ m = 2 ∨ m = 3 by omega) with rfl | rfl | rfl | rfl <;> decide
  · rw [if_neg hp, if_neg hp]
theorem frc_inF {nR t : Nat} {S : tf_M} (T : IvT nR t S) (day : Int32) : ∀ m, m ≤ t → (frc S day m = 15 ∧ inF S day m = -1) ∨ ∃ i, i < m ∧ frc S day m = 400 + i ∧ inF S day m = nI i := by
  intro m
  induction m with
  | zero => intro _; exact Or.inl ⟨rfl, rfl⟩
  | succ m ih =>
    intro hm
    unfold frc inF
    rw [(T m (by omega)).t1]
    by_cases h : S 65 m ≤ day
    · rw [if_pos h, if_pos h]; exact Or.inr ⟨m, by omega, rfl, rfl⟩
    · rw [if_neg h, if_neg h]
      rcases ih (by omega) with g | ⟨i, g1, g2⟩
      · exact Or.inl g
      · exact Or.inr ⟨i, by omega, g2⟩
theorem tells_all {nR n t nk k d : Nat} {S : tf_M} (I : Iv nR n t nk k d S) (day : Int32) : S (frc S day t) 3 = mTells S t day 0 0 2 ∧ S (frc S day t) 4 = mTells S t day 2 0 20 ∧ S (frc S day t) 5 = mTells S t day 3 0 2 ∧ S (frc S day t) 6 = mTells S t day 4 0 1 ∧ S (frc S day t) 0 = inF S day t ∧ ∀ r, r < nR → S (frw (frc S day t)) r = mTells S t day 1 (nI r) 3 := by
  have X := I.2.1
  have B := I.1
  have T := I.2.2.2
  unfold mTells
  rcases frc_inF T day t (Nat.le_refl t) with ⟨h1, h2⟩ | ⟨i, hi, h1, h2⟩
  · rw [h1, h2]
    obtain ⟨u1, u2, u3, u4, u5⟩ := X.i33
    simp only [if_pos]
    exact ⟨u2, u3, u4, u5, u1, fun r hr => X.i34 r hr⟩
  · have hn : ¬ nI i = -1 := nI_nm (by have := B.2.2.2.1; omega)
    have hc : (nI i).toNatClampNeg = i := nI_clamp (by have := B.2.2.2.1; omega)
    obtain ⟨c, hc1, hc2, e3, e4, e5, e6, e7⟩ := (T i hi).tc
    have hcc : (S 64 i).toNatClampNeg = c := by rw [hc2]; exact nI_clamp (by omega)
    rw [h1, h2, hc, hcc]
    simp only [if_neg hn]
    refine ⟨e3, e4, e5, e6, (T i hi).t0, fun r hr => ?_⟩
    have hw : frw (400 + i) = 500 + i := by unfold frw; rw [if_neg (by omega)]; omega
    rw [hw]
    exact e7 r hr
theorem se_law {nR n t nk k d : Nat} {S : tf_M} (I : Iv nR n t nk k d S) (a b : Int32) : (if isW a 0 400 = true then stTell nR S (frc S a t) (frw (frc S a t)) b else -1) = mLaw nR S t a b := by
  have B := I.1
  obtain ⟨e3, e4, e5, e6, e0, e7⟩ := tells_all I a
  unfold mLaw stTell alwIn
  rw [e3, e4, e5, e6, e0]
  by_cases ha : isW a 0 400 = true
  · rw [if_pos ha, if_pos ha]
    have h9 : (if isP (b - 10) (nI nR) = true then S (frw (frc S a t)) (b - 10).toNatClampNeg else -1) = (if isP (b - 10) (nI nR) = true then mTells S t a 1 (b - 10) 3 else -1) := by
      by_cases h : isP (b - 10) (nI nR) = true
      · obtain ⟨g1, g2⟩ := isP_nat h (by have := B.2.1; omega)
        rw [if_pos h, if_pos h, e7 _ g1, ← g2]
      · rw [if_neg h, if_neg h]
    rw [h9]
  · rw [if_neg ha, if_neg ha]
theorem se_judge {nR n t nk k d : Nat} {S : tf_M} (I : Iv nR n t nk k d S) (q b : Int32) : (if isP q (S 7 2) = true ∧ come S (100 + q.toNatClampNeg) = true then judgeOf nR S (100 + q.toNatClampNeg) (200 + q.toNatClampNeg) (frc S (S (100 + q.toNatClampNeg) 7) t) (frw (frc S (S (100 + q.toNatClampNeg) 7) t)) b else -1) = mJudge nR S n t q b := by
  have X := I.2.1
  have B := I.1
  unfold mJudge
  rw [X.i16]
  by_cases hp : isP q (nI n) = true
  · obtain ⟨hq, hq2⟩ := isP_nat hp (by have := B.2.2.1; omega)
    have Q := I.2.2.1.1 _ hq
    have hcm : come S (100 + q.toNatClampNeg) = true ↔ ¬ S 48 q.toNatClampNeg = -1 := by
      unfold come
      rw [Q.q7]
      simp
    by_cases hc : S 48 q.toNatClampNeg = -1
    · rw [if_neg (fun h => hcm.mp h.2 hc), if_neg (fun h => h.2.1 hc)]
    · rw [if_pos ⟨hp, hcm.mpr hc⟩, Q.q7]
      obtain ⟨e, he1, he2⟩ := Q.qc.resolve_left hc
      obtain ⟨e3, e4, e5, e6, e0, e7⟩ := tells_all I (S 48 q.toNatClampNeg)
      have hw : isW (S 48 q.toNatClampNeg) 0 400 = true := by
        rw [he2]
        unfold isW
        rw [decide_eq_true (nI_pos' (by omega)), decide_eq_true (show nI e ≤ 400 from nI_le (b := 400) he1 (by decide))]
        rfl
      have ho : overOf nR S (200 + q.toNatClampNeg) (frw (frc S (S 48 q.toNatClampNeg) t)) = mOver nR S t q.toNatClampNeg (S 48 q.toNatClampNeg) := by
        unfold overOf mOver
        refine sumI_c _ fun r hr => ?_
        have hr2 : r < nR := by omega
        unfold alwIn
        rw [Q.qd r hr2, if_pos (isP_k hr2 (by have := B.2.1; omega)), nI_clamp (by have := B.2.1; omega), e7 r hr2]
      have l1 : mLaw nR S t (S 48 q.toNatClampNeg) 1 = mTells S t (S 48 q.toNatClampNeg) 2 0 20 := by unfold mLaw; rw [if_pos hw]; rfl
      have l2 : mLaw nR S t (S 48 q.toNatClampNeg) 2 = mTells S t (S 48 q.toNatClampNeg) 3 0 2 := by unfold mLaw; rw [if_pos hw]; rfl
      have l3 : mLaw nR S t (S 48 q.toNatClampNeg) 3 = mTells S t (S 48 q.toNatClampNeg) 4 0 1 := by unfold mLaw; rw [if_pos hw]; rfl
      have hs : shortOf S (100 + q.toNatClampNeg) (frc S (S 48 q.toNatClampNeg) t) = mFell nR S t q.toNatClampNeg (S 48 q.toNatClampNeg) := by
        unfold shortOf mFell
        rw [Q.q8, Q.q2, e4, l1]
      have hm : goodsOf S (100 + q.toNatClampNeg) (frc S (S 48 q.toNatClampNeg) t) = mMore nR S t q.toNatClampNeg (S 48 q.toNatClampNeg) := by
        unfold goodsOf mMore
        rw [Q.q3, Q.q1, e5, l2]
      unfold judgeOf
      rw [ho, hs, hm, e6, l3]
      by_cases hb : isW b 0 3 = true
      · rw [if_pos (show isP q (nI n) = true ∧ ¬ S 48 q.toNatClampNeg = -1 ∧ isW b 0 3 = true from ⟨hp, hc, hb⟩)]
        rcases w03 hb with rfl | rfl | rfl | rfl <;> simp
      · rw [if_neg (show ¬ (isP q (nI n) = true ∧ ¬ S 48 q.toNatClampNeg = -1 ∧ isW b 0 3 = true) from fun h => hb h.2.2), if_neg (fun h => hb (by rw [h]; decide)), if_neg (fun h => hb (by rw [h]; decide)), if_neg (fun h => hb (by rw [h]; decide)), if_neg (fun h => hb (by rw [h]; decide))]
  · rw [if_neg (fun h => hp h.1), if_neg (fun h => hp h.1)]
