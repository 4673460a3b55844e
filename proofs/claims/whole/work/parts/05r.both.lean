/-! both sides: the other writers -/
/-- what is held of squadron i is the same -/
def QSame (i : Nat) (S S2 : tf_M) : Prop := S2 (100 + i) = S (100 + i) ∧ S2 (200 + i) = S (200 + i) ∧ S2 (300 + i) = S (300 + i) ∧ (∀ y, 42 ≤ y → y ≤ 51 → S2 y i = S y i) ∧ (∀ r, r < 12 → S2 52 (12 * i + r) = S 52 (12 * i + r)) ∧ ∀ c, c < 5 → S2 53 (5 * i + c) = S 53 (5 * i + c)
theorem QOk.same {nR i : Nat} {S S2 : tf_M} (hR : nR ≤ 12) (h : QSame i S S2) (I : QOk nR i S) : QOk nR i S2 := by
  obtain ⟨h1, h2, h3, h4, h5, h6⟩ := h
  unfold QOk
  rw [h1, h2, h3, h4 42 (by decide) (by decide), h4 43 (by decide) (by decide), h4 44 (by decide) (by decide), h4 45 (by decide) (by decide), h4 46 (by decide) (by decide), h4 47 (by decide) (by decide), h4 48 (by decide) (by decide), h4 49 (by decide) (by decide), h4 50 (by decide) (by decide), h4 51 (by decide) (by decide)]
  exact ⟨I.q0, I.q1, I.q2, I.q3, I.q6, I.q7, I.q8, I.q9, I.q10, I.q11, fun r hr => by rw [h5 r (by omega)]; exact I.qd r hr, fun c hc => by rw [show 5 * i + c + 1 = 5 * i + (c + 1) by omega, h6 (c + 1) (by omega)]; exact I.qb c hc, I.qat, I.qbo, I.qdu, I.qc, I.qco⟩
theorem QFr.same {i : Nat} {S S2 : tf_M} (h : (∀ y, 42 ≤ y → y ≤ 51 → S2 y i = S y i) ∧ (∀ r, r < 12 → S2 52 (12 * i + r) = S 52 (12 * i + r)) ∧ ∀ c, c < 5 → S2 53 (5 * i + c) = S 53 (5 * i + c)) (I : QFr i S) : QFr i S2 := by
  obtain ⟨h4, h5, h6⟩ := h
  exact ⟨(h4 45 (by decide) (by decide)).trans I.f45, (h4 47 (by decide) (by decide)).trans I.f47, (h4 49 (by decide) (by decide)).trans I.f49, (h4 51 (by decide) (by decide)).trans I.f51, fun r hr => (h5 r hr).trans (I.f52 r hr), fun c hc => (h6 c hc).trans (I.f53 c hc)⟩
/-- one squadron's change: row 100 + q slot s, row y at q -/
theorem IvQ.put1 {nR n q s y : Nat} {v w : Int32} {S : tf_M} (hR : nR ≤ 12) (hn : n ≤ 12) (hq : q < n) (hy1 : 42 ≤ y) (hy2 : y ≤ 51) (I : IvQ nR n S) (hk : QOk nR q (s2 (s2 S (100 + q) s v) y q w)) : IvQ nR n (s2 (s2 S (100 + q) s v) y q w) := by
  have h52 : ∀ x, s2 (s2 S (100 + q) s v) y q w 52 x = S 52 x := fun x => by rw [s2_ne (by omega), s2_ne (by omega)]
  have h53 : ∀ x, s2 (s2 S (100 + q) s v) y q w 53 x = S 53 x := fun x => by rw [s2_ne (by omega), s2_ne (by omega)]
  have hy : ∀ i, i ≠ q → ∀ z, 42 ≤ z → z ≤ 51 → s2 (s2 S (100 + q) s v) y q w z i = S z i := fun i hi z h1 h2 => by
    by_cases e : z = y
    · subst e; rw [s2_nk hi, s2_ne (by omega)]
    · rw [s2_ne e, s2_ne (by omega)]
  refine ⟨fun i hi => ?_, fun i hi => ?_⟩
  · by_cases e : i = q
    · subst e; exact hk
    · exact (I.1 i hi).same hR ⟨by rw [s2_ne (by omega), s2_ne (by omega)], by rw [s2_ne (by omega), s2_ne (by omega)], by rw [s2_ne (by omega), s2_ne (by omega)], hy i e, fun r _ => h52 _, fun c _ => h53 _⟩
  · exact (I.2 i hi).same ⟨hy i (by omega), fun r _ => h52 _, fun c _ => h53 _⟩
theorem QOk.put1 {nR q s y : Nat} {v : Int32} {S : tf_M} (hq : q < 12) (hy1 : 42 ≤ y) (hy2 : y ≤ 51) (I : QOk nR q S) (h : (s = 8 ∧ y = 45) ∨ (s = 11 ∧ y = 51) ∨ (s = 10 ∧ y = 50 ∧ ∃ e : Nat, e ≤ 400 ∧ v = nI e)) : QOk nR q (s2 (s2 S (100 + q) s v) y q v) := by
  have e1 : s2 (s2 S (100 + q) s v) y q v (100 + q) = upd (S (100 + q)) s v := by rw [s2_ne (by omega)]; simp [s2, tf_u]
  have e2 : s2 (s2 S (100 + q) s v) y q v (200 + q) = S (200 + q) := by rw [s2_ne (by omega), s2_ne (by omega)]
  have e3 : s2 (s2 S (100 + q) s v) y q v (300 + q) = S (300 + q) := by rw [s2_ne (by omega), s2_ne (by omega)]
  have e4 : ∀ z, 42 ≤ z → z ≤ 53 → s2 (s2 S (100 + q) s v) y q v z = if z = y then upd (S z) q v else S z := fun z h1 h2 => by
    by_cases e : z = y
    · subst e; rw [if_pos rfl]
      have : s2 S (100 + q) s v z = S z := s2_ne (by omega)
      show tf_u (s2 S (100 + q) s v) z (upd (s2 S (100 + q) s v z) q v) z = _
      rw [this]; simp [tf_u]
    · rw [if_neg e, s2_ne e, s2_ne (by omega)]
  unfold QOk
  rw [e1, e2, e3, e4 42 (by decide) (by decide), e4 43 (by decide) (by decide), e4 44 (by decide) (by decide), e4 45 (by decide) (by decide), e4 46 (by decide) (by decide), e4 47 (by decide) (by decide), e4 48 (by decide) (by decide), e4 49 (by decide) (by decide), e4 50 (by decide) (by decide), e4 51 (by decide) (by decide), e4 52 (by decide) (by decide), e4 53 (by decide) (by decide)]
  rcases h with ⟨rfl, rfl⟩ | ⟨rfl, rfl⟩ | ⟨rfl, rfl, he⟩
  · exact ⟨I.q0, I.q1, I.q2, I.q3, I.q6, I.q7, by simp [upd], I.q9, I.q10, I.q11, I.qd, I.qb, I.qat, I.qbo, I.qdu, I.qc, I.qco⟩
  · exact ⟨I.q0, I.q1, I.q2, I.q3, I.q6, I.q7, I.q8, I.q9, I.q10, by simp [upd], I.qd, I.qb, I.qat, I.qbo, I.qdu, I.qc, I.qco⟩
  · exact ⟨I.q0, I.q1, I.q2, I.q3, I.q6, I.q7, I.q8, I.q9, by simp [upd], I.q11, I.qd, I.qb, I.qat, I.qbo, by simpa [upd] using he, I.qc, I.qco⟩
theorem Iv.put1 {nR n t nk k d q s y : Nat} {v : Int32} {S : tf_M} (I : Iv nR n t nk k d S) (hq : q < n) (h : (s = 8 ∧ y = 45) ∨ (s = 11 ∧ y = 51) ∨ (s = 10 ∧ y = 50 ∧ ∃ e : Nat, e ≤ 400 ∧ v = nI e)) : Iv nR n t nk k d (s2 (s2 S (100 + q) s v) y q v) := by
  have hn := I.1.2.2.1
  have hy : 42 ≤ y ∧ y ≤ 51 := by omega
  refine ⟨I.1, I.2.1.keep fun x hx => by rw [s2_ne (by omega), s2_ne (by omega)], I.2.2.1.put1 I.1.2.1 hn hq hy.1 hy.2 ((I.2.2.1.1 q hq).put1 (by omega) hy.1 hy.2 h), I.2.2.2.keep fun x hx => by rw [s2_ne (by omega), s2_ne (by omega)]⟩
theorem mid_due {S u : tf_M} (q b : Int32) (hu : u = if (isP q (S 7 2) && isW b 0 400) = true then s2 S (100 + q.toNatClampNeg) 10 (b) else S) : ∀ x, x < 100 → u x = S x := by
  intro x h1
  rw [hu]
  split
  · rw [s2_ne (by omega)]
  · rfl
theorem sw_due {nR n t nk k d : Nat} {S : tf_M} (I : Iv nR n t nk k d S) (q b : Int32) {x y : Int32} {u w : tf_M} (hx : x = bI (isP q (S 7 2) && isW b 0 400) ∧ u = if (isP q (S 7 2) && isW b 0 400) = true then s2 S (100 + q.toNatClampNeg) 10 (b) else S) (hy : y = bI (isP q (nI n) && isW b 0 400) ∧ w = if (isP q (nI n) && isW b 0 400) = true then s2 u 50 q.toNatClampNeg (b) else u) : x = y ∧ ∃ nk1 k1 d1, Iv nR n t nk1 k1 d1 w := by
  have hm := mid_due (S := S) (q := q) (b := b) hx.2
  obtain ⟨rfl, hu⟩ := hx
  obtain ⟨rfl, rfl⟩ := hy
  have B := I.1
  have hm43 : ∀ y, y < 100 → u y = S y := hm
  have e16 := I.2.1.i16
  by_cases hp : isP q (nI n) = true
  · obtain ⟨hq, hq2⟩ := isP_nat hp (by have := B.2.2.1; omega)
    have Q := I.2.2.1.1 _ hq
    have e : (isP q (S 7 2) && isW b 0 400) = (isP q (nI n) && isW b 0 400) := by
      rw [e16, hp]
    rw [← e]
    by_cases hg : (isP q (S 7 2) && isW b 0 400) = true
    · rw [if_pos hg] at hu
      have hv : b = b := by
        rfl
      simp only [if_pos hg]
      rw [hv]
      refine ⟨by first | trivial | rfl, nk, k, d, ?_⟩
      rw [hu]
      exact I.put1 hq (Or.inr (Or.inr ⟨rfl, rfl, by
          rw [Bool.and_eq_true] at hg
          obtain ⟨j, _, h2, h3⟩ := isW_n (a := 0) (b := 400) (by decide) hg.2 (by decide)
          exact ⟨j, h2, h3⟩⟩))
    · rw [if_neg hg] at hu
      simp only [if_neg hg]
      rw [hu]
      exact ⟨by first | trivial | rfl, nk, k, d, I⟩
  · have hp' : isP q (nI n) = false := by simpa using hp
    have hgc : (isP q (S 7 2) && isW b 0 400) = false := by rw [e16, hp']; rfl
    have hgr : (isP q (nI n) && isW b 0 400) = false := by rw [hp']; rfl
    rw [hgc] at hu ⊢
    rw [hgr]
    rw [if_neg (by decide)] at hu
    rw [if_neg (by decide), hu]
    exact ⟨by first | trivial | rfl | simp [bI], nk, k, d, I⟩
theorem mid_leave {S u : tf_M} (q b : Int32) (hu : u = if (isP q (S 7 2) && !decide (S (100 + q.toNatClampNeg) 11 = b)) = true then s2 S (100 + q.toNatClampNeg) 11 (b) else S) : ∀ x, x < 100 → u x = S x := by
  intro x h1
  rw [hu]
  split
  · rw [s2_ne (by omega)]
  · rfl
theorem sw_leave {nR n t nk k d : Nat} {S : tf_M} (I : Iv nR n t nk k d S) (q b : Int32) {x y : Int32} {u w : tf_M} (hx : x = bI (isP q (S 7 2) && !decide (S (100 + q.toNatClampNeg) 11 = b)) ∧ u = if (isP q (S 7 2) && !decide (S (100 + q.toNatClampNeg) 11 = b)) = true then s2 S (100 + q.toNatClampNeg) 11 (b) else S) (hy : y = bI (isP q (nI n) && !decide (u 51 q.toNatClampNeg = b)) ∧ w = if (isP q (nI n) && !decide (u 51 q.toNatClampNeg = b)) = true then s2 u 51 q.toNatClampNeg (b) else u) : x = y ∧ ∃ nk1 k1 d1, Iv nR n t nk1 k1 d1 w := by
  have hm := mid_leave (S := S) (q := q) (b := b) hx.2
  obtain ⟨rfl, hu⟩ := hx
  obtain ⟨rfl, rfl⟩ := hy
  have B := I.1
  have hm43 : ∀ y, y < 100 → u y = S y := hm
  have e16 := I.2.1.i16
  by_cases hp : isP q (nI n) = true
  · obtain ⟨hq, hq2⟩ := isP_nat hp (by have := B.2.2.1; omega)
    have Q := I.2.2.1.1 _ hq
    have e : (isP q (S 7 2) && !decide (S (100 + q.toNatClampNeg) 11 = b)) = (isP q (nI n) && !decide (u 51 q.toNatClampNeg = b)) := by
      rw [e16, hp, Q.q11, hm43 51 (by decide)]
    rw [← e]
    by_cases hg : (isP q (S 7 2) && !decide (S (100 + q.toNatClampNeg) 11 = b)) = true
    · rw [if_pos hg] at hu
      have hv : b = b := by
        rfl
      simp only [if_pos hg]
      rw [hv]
      refine ⟨by first | trivial | rfl, nk, k, d, ?_⟩
      rw [hu]
      exact I.put1 hq (Or.inr (Or.inl ⟨rfl, rfl⟩))
    · rw [if_neg hg] at hu
      simp only [if_neg hg]
      rw [hu]
      exact ⟨by first | trivial | rfl, nk, k, d, I⟩
  · have hp' : isP q (nI n) = false := by simpa using hp
    have hgc : (isP q (S 7 2) && !decide (S (100 + q.toNatClampNeg) 11 = b)) = false := by rw [e16, hp']; rfl
    have hgr : (isP q (nI n) && !decide (u 51 q.toNatClampNeg = b)) = false := by rw [hp']; rfl
    rw [hgc] at hu ⊢
    rw [hgr]
    rw [if_neg (by decide)] at hu
    rw [if_neg (by decide), hu]
    exact ⟨by first | trivial | rfl | simp [bI], nk, k, d, I⟩
theorem mid_lose {S u : tf_M} (q b : Int32) (hu : u = if (isP q (S 7 2) && !come S (100 + q.toNatClampNeg) && isW b 1 (S (100 + q.toNatClampNeg) 2 - S (100 + q.toNatClampNeg) 8)) = true then s2 S (100 + q.toNatClampNeg) 8 (S (100 + q.toNatClampNeg) 8 + b) else S) : ∀ x, x < 100 → u x = S x := by
  intro x h1
  rw [hu]
  split
  · rw [s2_ne (by omega)]
  · rfl
theorem sw_lose {nR n t nk k d : Nat} {S : tf_M} (I : Iv nR n t nk k d S) (q b : Int32) {x y : Int32} {u w : tf_M} (hx : x = (if (isP q (S 7 2) && !come S (100 + q.toNatClampNeg) && isW b 1 (S (100 + q.toNatClampNeg) 2 - S (100 + q.toNatClampNeg) 8)) = true then S (100 + q.toNatClampNeg) 2 - (S (100 + q.toNatClampNeg) 8 + b) else -1) ∧ u = if (isP q (S 7 2) && !come S (100 + q.toNatClampNeg) && isW b 1 (S (100 + q.toNatClampNeg) 2 - S (100 + q.toNatClampNeg) 8)) = true then s2 S (100 + q.toNatClampNeg) 8 (S (100 + q.toNatClampNeg) 8 + b) else S) (hy : y = (if (isP q (nI n) && decide (u 48 q.toNatClampNeg = -1) && isW b 1 (u 44 q.toNatClampNeg - u 45 q.toNatClampNeg)) = true then u 44 q.toNatClampNeg - (u 45 q.toNatClampNeg + b) else -1) ∧ w = if (isP q (nI n) && decide (u 48 q.toNatClampNeg = -1) && isW b 1 (u 44 q.toNatClampNeg - u 45 q.toNatClampNeg)) = true then s2 u 45 q.toNatClampNeg (u 45 q.toNatClampNeg + b) else u) : x = y ∧ ∃ nk1 k1 d1, Iv nR n t nk1 k1 d1 w := by
  have hm := mid_lose (S := S) (q := q) (b := b) hx.2
  obtain ⟨rfl, hu⟩ := hx
  obtain ⟨rfl, rfl⟩ := hy
  have B := I.1
  have hm43 : ∀ y, y < 100 → u y = S y := hm
  have e16 := I.2.1.i16
  by_cases hp : isP q (nI n) = true
  · obtain ⟨hq, hq2⟩ := isP_nat hp (by have := B.2.2.1; omega)
    have Q := I.2.2.1.1 _ hq
    have e : (isP q (S 7 2) && !come S (100 + q.toNatClampNeg) && isW b 1 (S (100 + q.toNatClampNeg) 2 - S (100 + q.toNatClampNeg) 8)) = (isP q (nI n) && decide (u 48 q.toNatClampNeg = -1) && isW b 1 (u 44 q.toNatClampNeg - u 45 q.toNatClampNeg)) := by
      rw [e16, hp, come, Q.q7, Q.q2, Q.q8, hm43 44 (by decide), hm43 45 (by decide), hm43 48 (by decide), Bool.not_not]
    rw [← e]
    by_cases hg : (isP q (S 7 2) && !come S (100 + q.toNatClampNeg) && isW b 1 (S (100 + q.toNatClampNeg) 2 - S (100 + q.toNatClampNeg) 8)) = true
    · rw [if_pos hg] at hu
      have hv : u 45 q.toNatClampNeg + b = S (100 + q.toNatClampNeg) 8 + b := by
        rw [hm43 45 (by decide), Q.q8]
      simp only [if_pos hg]
      rw [hv]
      refine ⟨by rw [hm43 44 (by decide), Q.q2], nk, k, d, ?_⟩
      rw [hu]
      exact I.put1 hq (Or.inl ⟨rfl, rfl⟩)
    · rw [if_neg hg] at hu
      simp only [if_neg hg]
      rw [hu]
      exact ⟨by first | trivial | rfl, nk, k, d, I⟩
  · have hp' : isP q (nI n) = false := by simpa using hp
    have hgc : (isP q (S 7 2) && !come S (100 + q.toNatClampNeg) && isW b 1 (S (100 + q.toNatClampNeg) 2 - S (100 + q.toNatClampNeg) 8)) = false := by rw [e16, hp']; rfl
    have hgr : (isP q (nI n) && decide (u 48 q.toNatClampNeg = -1) && isW b 1 (u 44 q.toNatClampNeg - u 45 q.toNatClampNeg)) = false := by rw [hp']; rfl
    rw [hgc] at hu ⊢
    rw [hgr]
    rw [if_neg (by decide)] at hu
    rw [if_neg (by decide), hu]
    exact ⟨by first | trivial | rfl | simp, nk, k, d, I⟩
theorem mid_commute {S u : tf_M} {a b : Int32} (hu : u = if (isW a 0 5 && isW b 1 (leftOf S a)) = true then payS S a b else S) : ∀ x, 30 ≤ x → u x = S x := by
  intro x h1
  rw [hu]
  split
  · unfold payS
    split
    · rw [s2_ne (by omega), s2_ne (by omega)]
    · rfl
  · rfl
theorem sx_commute {nR n t nk k d : Nat} {S : tf_M} (I : IvX nR n t nk k d S) (c : Nat) (b : Int32) : IvX nR n t nk k d (s2 (s2 (s2 (s2 S 19 c (S 19 c + b)) 20 c (S 20 c + b * S 17 3)) 55 c (S 55 c + b)) 56 c (S 56 c + b * S 30 8)) := by
  refine ⟨I.i1, I.i2, I.i3, I.i4, I.i5, I.i6, I.i7, I.i8, I.i9, I.i10, I.i11, I.i12, I.i13, I.i14, I.i15, I.i16, I.i17, I.i18, I.i19, I.i20, I.i21, I.i22, ?_, ?_, I.i25, I.i26, I.i27, I.i28, I.i29, I.i30, I.i31, I.i32, I.i33, I.i34⟩
  · show upd (S 19) c (S 19 c + b) = upd (S 55) c (S 55 c + b)
    rw [I.i23]
  · show upd (S 20) c (S 20 c + b * S 17 3) = upd (S 56) c (S 56 c + b * S 30 8)
    rw [I.i24, I.i25]
theorem e_commute {nR n t nk k d : Nat} {S u : tf_M} {a b : Int32} (X : IvX nR n t nk k d S) (hm : ∀ x, 30 ≤ x → u x = S x) : (isW a 0 5 && isW b 1 (leftOf S a)) = (isW a 0 5 && isW b 1 (u 54 a.toNatClampNeg - u 55 a.toNatClampNeg)) := by
  cases ha : isW a 0 5 with
  | false => rw [Bool.false_and, Bool.false_and]
  | true => rw [leftOf, if_pos ha, hm 54 (by decide), hm 55 (by decide), X.i22, X.i23]
theorem w_commute {S u : tf_M} {a b : Int32} (hm : ∀ x, 30 ≤ x → u x = S x) (hu : u = s2 (s2 S 19 a.toNatClampNeg (S 19 a.toNatClampNeg + b)) 20 a.toNatClampNeg (S 20 a.toNatClampNeg + b * S 17 3)) : mPay u a b = s2 (s2 (s2 (s2 S 19 a.toNatClampNeg (S 19 a.toNatClampNeg + b)) 20 a.toNatClampNeg (S 20 a.toNatClampNeg + b * S 17 3)) 55 a.toNatClampNeg (S 55 a.toNatClampNeg + b)) 56 a.toNatClampNeg (S 56 a.toNatClampNeg + b * S 30 8) := by
  unfold mPay
  rw [hm 55 (by decide), hm 56 (by decide), hm 30 (by decide), ← hu]
theorem sw_commute {nR n t nk k d : Nat} {S : tf_M} (I : Iv nR n t nk k d S) {a b x y : Int32} {u w : tf_M} (hx : x = (if (isW a 0 5 && isW b 1 (leftOf S a)) = true then b * S 17 3 else -1) ∧ u = if (isW a 0 5 && isW b 1 (leftOf S a)) = true then payS S a b else S) (hy : y = (if (isW a 0 5 && isW b 1 (u 54 a.toNatClampNeg - u 55 a.toNatClampNeg)) = true then b * u 30 8 else -1) ∧ w = if (isW a 0 5 && isW b 1 (u 54 a.toNatClampNeg - u 55 a.toNatClampNeg)) = true then mPay u a b else u) : x = y ∧ ∃ nk1 k1 d1, Iv nR n t nk1 k1 d1 w := by
  have hm := mid_commute hx.2
  have e := e_commute (a := a) (b := b) I.2.1 hm
  obtain ⟨hx1, hu⟩ := hx
  obtain ⟨hy1, hw⟩ := hy
  rw [← e] at hy1 hw
  rw [hm 30 (by decide), ← I.2.1.i25] at hy1
  refine ⟨hx1.trans hy1.symm, nk, k, d, ?_⟩
  by_cases hg : (isW a 0 5 && isW b 1 (leftOf S a)) = true
  · rw [if_pos hg] at hu hw
    have ha : isW a 0 5 = true := by rw [Bool.and_eq_true] at hg; exact hg.1
    rw [payS, if_pos ha] at hu
    rw [hw, w_commute hm hu]
    exact ⟨I.1, sx_commute I.2.1 _ _, I.2.2.1.keep I.1.2.2.1 fun x hx => by rw [s2_ne (by omega), s2_ne (by omega), s2_ne (by omega), s2_ne (by omega)], I.2.2.2.keep fun x hx => by rw [s2_ne (by omega), s2_ne (by omega), s2_ne (by omega), s2_ne (by omega)]⟩
  · rw [if_neg hg] at hu hw
    rw [hw, hu]
    exact I
def bt (v sh : Int32) : Int32 := vp_nar .byte (v >>> (sh &&& 31)).toInt8.toInt32
def ap4 (f : Nat → Int32) (k : Nat) (v : Int32) : Nat → Int32 := upd (upd (upd (upd f k (bt v 24)) (k + 1) (bt v 16)) (k + 2) (bt v 8)) (k + 3) (bt v 0)
def fdF (f : Nat → Int32) (k : Nat) (a b c d e : Int32) : Nat → Int32 := ap4 (ap4 (ap4 (ap4 (ap4 f k a) (k + 4) b) (k + 8) c) (k + 12) d) (k + 16) e
theorem bt_n (v sh : Int32) : vp_nar .byte (bt v sh) = bt v sh := by unfold bt; rw [vp_nar_byte (v >>> (sh &&& 31)).toInt8.toInt32]; exact pk_vb _
theorem upd_n {f : Nat → Int32} (h : ∀ j, vp_nar .byte (f j) = f j) (k : Nat) (v sh : Int32) : ∀ j, vp_nar .byte (upd f k (bt v sh) j) = upd f k (bt v sh) j := by
  intro j
  unfold upd
  split
  · exact bt_n _ _
  · exact h j
theorem ap4_n {f : Nat → Int32} (h : ∀ j, vp_nar .byte (f j) = f j) (k : Nat) (v : Int32) : ∀ j, vp_nar .byte (ap4 f k v j) = ap4 f k v j := upd_n (upd_n (upd_n (upd_n h _ _ _) _ _ _) _ _ _) _ _ _
theorem fdF_n {f : Nat → Int32} (h : ∀ j, vp_nar .byte (f j) = f j) (k : Nat) (a b c d e : Int32) : ∀ j, vp_nar .byte (fdF f k a b c d e j) = fdF f k a b c d e j := ap4_n (ap4_n (ap4_n (ap4_n (ap4_n h _ _) _ _) _ _) _ _) _ _
theorem app4_ne {S : tf_M} {a o q k x : Nat} {v : Int32} (h1 : x ≠ a) (h2 : x ≠ o) : app4 S a o q k v x = S x := by
  unfold app4 app1
  rw [s2_ne h2, s2_ne h1, s2_ne h2, s2_ne h1, s2_ne h2, s2_ne h1, s2_ne h2, s2_ne h1]
theorem app4_a {S : tf_M} {a o q k : Nat} {v : Int32} (h : a ≠ o) : app4 S a o q k v a = ap4 (S a) k v := by
  have e : ∀ (Z : tf_M) (k : Nat) (v sh : Int32), app1 Z a o q k v sh a = upd (Z a) k (bt v sh) := fun Z k v sh => by
    unfold app1
    rw [s2_ne h]
    simp [s2, tf_u, bt]
  unfold app4 ap4
  rw [e, e, e, e]
theorem app4_q {S : tf_M} {a o q k : Nat} {v : Int32} : app4 S a o q k v o q = nI (k + 4) := by
  unfold app4 app1
  exact s2_eq
theorem app4_nq {S : tf_M} {a o q k j : Nat} {v : Int32} (h : a ≠ o) (hj : j ≠ q) : app4 S a o q k v o j = S o j := by
  unfold app4 app1
  rw [s2_nk hj, s2_ne (Ne.symm h), s2_nk hj, s2_ne (Ne.symm h), s2_nk hj, s2_ne (Ne.symm h), s2_nk hj, s2_ne (Ne.symm h)]
theorem feedS_ne {S : tf_M} {t o q k x : Nat} {a b c d e : Int32} (h1 : x ≠ t) (h2 : x ≠ o) : feedS S t o q k a b c d e x = S x := by
  unfold feedS
  rw [app4_ne h1 h2, app4_ne h1 h2, app4_ne h1 h2, app4_ne h1 h2, app4_ne h1 h2]
theorem feedS_a {S : tf_M} {t o q k : Nat} {a b c d e : Int32} (h : t ≠ o) : feedS S t o q k a b c d e t = fdF (S t) k a b c d e := by
  unfold feedS fdF
  rw [app4_a h, app4_a h, app4_a h, app4_a h, app4_a h]
theorem feedS_q {S : tf_M} {t o q k : Nat} {a b c d e : Int32} : feedS S t o q k a b c d e o q = nI (k + 20) := by
  unfold feedS
  exact app4_q
theorem feedS_nq {S : tf_M} {t o q k j : Nat} {a b c d e : Int32} (h : t ≠ o) (hj : j ≠ q) : feedS S t o q k a b c d e o j = S o j := by
  unfold feedS
  rw [app4_nq h hj, app4_nq h hj, app4_nq h hj, app4_nq h hj, app4_nq h hj]
theorem mid_feed {S u : tf_M} {k : Nat} {v1 v2 v3 v4 v5 : Int32} (hu : u = if k + 20 ≤ 400 then feedS S 11 10 1 k v1 v2 v3 v4 v5 else S) : ∀ x, 30 ≤ x → u x = S x := by
  intro x h1
  rw [hu]
  split
  · exact feedS_ne (by omega) (by omega)
  · rfl
theorem sw_feed {nR n t nk k d : Nat} {S : tf_M} (I : Iv nR n t nk k d S) {v1 v2 v3 v4 v5 x y : Int32} {u w : tf_M} (hx : x = (if k + 20 ≤ 400 then nI (k + 20) else -1) ∧ u = if k + 20 ≤ 400 then feedS S 11 10 1 k v1 v2 v3 v4 v5 else S) (hy : y = (if k + 20 ≤ 400 then nI (k + 20) else -1) ∧ w = if k + 20 ≤ 400 then feedS u 57 30 29 k v1 v2 v3 v4 v5 else u) : x = y ∧ ∃ nk1 k1 d1, Iv nR n t nk1 k1 d1 w := by
  obtain ⟨rfl, hu⟩ := hx
  obtain ⟨rfl, hw⟩ := hy
  refine ⟨rfl, ?_⟩
  by_cases hg : k + 20 ≤ 400
  · rw [if_pos hg] at hu hw
    have hx : ∀ x, x ≠ 11 → x ≠ 10 → x ≠ 57 → x ≠ 30 → w x = S x := fun x h1 h2 h3 h4 => by rw [hw, feedS_ne h3 h4, hu, feedS_ne h1 h2]
    have h30 : ∀ j, j ≠ 29 → w 30 j = S 30 j := fun j hj => by rw [hw, feedS_nq (by decide) hj, hu, feedS_ne (by decide) (by decide)]
    have e11 : w 11 = fdF (S 11) k v1 v2 v3 v4 v5 := by rw [hw, feedS_ne (by decide) (by decide), hu, feedS_a (by decide)]
    have e57 : w 57 = fdF (S 57) k v1 v2 v3 v4 v5 := by rw [hw, feedS_a (by decide), hu, feedS_ne (by decide) (by decide)]
    have e10 : w 10 1 = nI (k + 20) := by rw [hw, feedS_ne (by decide) (by decide), hu, feedS_q]
    have e30 : w 30 29 = nI (k + 20) := by rw [hw, feedS_q]
    have I0 := I
    obtain ⟨B, I, -, -⟩ := I
    refine ⟨nk, k + 20, d, ⟨B.1, B.2.1, B.2.2.1, B.2.2.2.1, B.2.2.2.2.1, hg, B.2.2.2.2.2.2⟩, ⟨by rw [hx 1 (by decide) (by decide) (by decide) (by decide)]; exact I.i1, by rw [h30 0 (by decide)]; exact I.i2, by rw [hx 2 (by decide) (by decide) (by decide) (by decide), hx 31 (by decide) (by decide) (by decide) (by decide)]; exact I.i3, by rw [hx 3 (by decide) (by decide) (by decide) (by decide), hx 32 (by decide) (by decide) (by decide) (by decide)]; exact I.i4, by rw [hx 32 (by decide) (by decide) (by decide) (by decide)]; exact I.i5, by rw [hx 1 (by decide) (by decide) (by decide) (by decide)]; exact I.i6, by rw [h30 4 (by decide)]; exact I.i7, by rw [hx 4 (by decide) (by decide) (by decide) (by decide), hx 39 (by decide) (by decide) (by decide) (by decide)]; exact I.i8, by rw [hx 5 (by decide) (by decide) (by decide) (by decide), hx 40 (by decide) (by decide) (by decide) (by decide)]; exact I.i9, by rw [hx 6 (by decide) (by decide) (by decide) (by decide), hx 41 (by decide) (by decide) (by decide) (by decide)]; exact I.i10, by rw [hx 39 (by decide) (by decide) (by decide) (by decide)]; exact I.i11, by rw [hx 1 (by decide) (by decide) (by decide) (by decide), h30 6 (by decide)]; exact I.i12, by rw [hx 1 (by decide) (by decide) (by decide) (by decide), h30 7 (by decide)]; exact I.i13, by rw [hx 0 (by decide) (by decide) (by decide) (by decide)]; exact I.i14, by rw [h30 3 (by decide)]; exact I.i15, by rw [hx 7 (by decide) (by decide) (by decide) (by decide)]; exact I.i16, by rw [h30 5 (by decide)]; exact I.i17, e10, e30, ?_, ?_, by rw [hx 18 (by decide) (by decide) (by decide) (by decide), hx 54 (by decide) (by decide) (by decide) (by decide)]; exact I.i22, by rw [hx 19 (by decide) (by decide) (by decide) (by decide), hx 55 (by decide) (by decide) (by decide) (by decide)]; exact I.i23, by rw [hx 20 (by decide) (by decide) (by decide) (by decide), hx 56 (by decide) (by decide) (by decide) (by decide)]; exact I.i24, by rw [hx 17 (by decide) (by decide) (by decide) (by decide), h30 8 (by decide)]; exact I.i25, by rw [hx 13 (by decide) (by decide) (by decide) (by decide)]; exact I.i26, by rw [h30 33 (by decide)]; exact I.i27, by rw [hx 0 (by decide) (by decide) (by decide) (by decide), h30 32 (by decide)]; exact I.i28, by rw [hx 8 (by decide) (by decide) (by decide) (by decide)]; exact I.i29, by rw [hx 8 (by decide) (by decide) (by decide) (by decide)]; exact I.i30, by rw [hx 14 (by decide) (by decide) (by decide) (by decide)]; exact I.i31, by rw [hx 14 (by decide) (by decide) (by decide) (by decide)]; exact I.i32, by rw [hx 15 (by decide) (by decide) (by decide) (by decide)]; exact I.i33, by rw [hx 16 (by decide) (by decide) (by decide) (by decide)]; exact I.i34⟩, I0.2.2.1.keep B.2.2.1 fun x h => hx x (by omega) (by omega) (by omega) (by omega), I0.2.2.2.keep fun x h => hx x (by omega) (by omega) (by omega) (by omega)⟩
    · rw [e11, e57, I.i20]
    · rw [e57]; exact fdF_n I.i21 _ _ _ _ _ _
  · rw [if_neg hg] at hu hw
    rw [hw, hu]
    exact ⟨nk, k, d, I⟩
theorem sw_squadron {nR n t nk k d : Nat} {S : tf_M} (I : Iv nR n t nk k d S) {a b c e x y : Int32} {u w : tf_M} (hx : (sqG n a b c e = false → x = -1 ∧ u = S) ∧ (sqG n a b c e = true → x = nI n ∧ u = s2 (s2 (sqNew S n a b c e) 8 n 1) 7 2 (nI (n + 1)))) (hy : y = (if (isW a 0 5 && isW b 1 50 && isW c 0 5000 && isW e 0 2000) = true ∧ n < 12 then nI n else -1) ∧ w = if (isW a 0 5 && isW b 1 50 && isW c 0 5000 && isW e 0 2000) = true ∧ n < 12 then s2 (s2 (s2 (s2 (s2 (s2 (s2 u 30 5 (nI (n + 1))) 42 n a) 43 n b) 44 n c) 46 n e) 48 n (-1)) 50 n 400 else u) : x = y ∧ ∃ nk1 k1 d1, Iv nR (if sqG n a b c e = true then n + 1 else n) t nk1 k1 d1 w := by
  obtain ⟨rfl, hw⟩ := hy
  have hgg : ((isW a 0 5 && isW b 1 50 && isW c 0 5000 && isW e 0 2000) = true ∧ n < 12) ↔ sqG n a b c e = true := by
    unfold sqG
    rw [Bool.and_eq_true (_ && _) (decide _), decide_eq_true_eq]
  cases hg : sqG n a b c e with
  | false =>
    obtain ⟨rfl, rfl⟩ := hx.1 hg
    have h9 : ¬ ((isW a 0 5 && isW b 1 50 && isW c 0 5000 && isW e 0 2000) = true ∧ n < 12) := fun h => by rw [hgg.mp h] at hg; cases hg
    rw [if_neg h9] at hw ⊢
    rw [hw]
    exact ⟨rfl, nk, k, d, I⟩
  | true =>
    obtain ⟨rfl, hu⟩ := hx.2 hg
    have h9 := hgg.mpr hg
    rw [if_pos h9] at hw ⊢
    have hn := h9.2
    have hb : isW b 1 50 = true := by
      have := h9.1
      rw [Bool.and_eq_true, Bool.and_eq_true, Bool.and_eq_true] at this
      exact this.1.1.2
    have ha : isW a 0 5 = true := by
      have := h9.1
      rw [Bool.and_eq_true, Bool.and_eq_true, Bool.and_eq_true] at this
      exact this.1.1.1
    refine ⟨rfl, nk, k, d, ?_⟩
    rw [if_pos rfl]
    have hx : ∀ x, x ≠ 7 → x ≠ 8 → x ≠ 30 → x ≠ 42 → x ≠ 43 → x ≠ 44 → x ≠ 46 → x ≠ 48 → x ≠ 50 → w x = sqNew S n a b c e x := fun x h1 h2 h3 h4 h5 h6 h7 h8 h9 => by rw [hw, s2_ne h9, s2_ne h8, s2_ne h7, s2_ne h6, s2_ne h5, s2_ne h4, s2_ne h3, hu, s2_ne h1, s2_ne h2]
    have hS : ∀ x, x < 100 → sqNew S n a b c e x = S x := fun x h => sqNew_ne (by omega) (by omega) (by omega)
    have hz : ∀ x, x < 100 → x ≠ 7 → x ≠ 8 → x ≠ 30 → x ≠ 42 → x ≠ 43 → x ≠ 44 → x ≠ 46 → x ≠ 48 → x ≠ 50 → w x = S x := fun x h0 h1 h2 h3 h4 h5 h6 h7 h8 h9 => (hx x h1 h2 h3 h4 h5 h6 h7 h8 h9).trans (hS x h0)
    have h30 : ∀ j, j ≠ 5 → w 30 j = S 30 j := fun j hj => by rw [hw, s2_ne (by decide), s2_ne (by decide), s2_ne (by decide), s2_ne (by decide), s2_ne (by decide), s2_ne (by decide), s2_nk hj, hu, s2_ne (by decide), s2_ne (by decide), hS 30 (by decide)]
    have e30 : w 30 5 = nI (n + 1) := by rw [hw, s2_ne (by decide), s2_ne (by decide), s2_ne (by decide), s2_ne (by decide), s2_ne (by decide), s2_ne (by decide)]; exact s2_eq
    have e7 : w 7 2 = nI (n + 1) := by rw [hw, s2_ne (by decide), s2_ne (by decide), s2_ne (by decide), s2_ne (by decide), s2_ne (by decide), s2_ne (by decide), s2_ne (by decide), hu]; exact s2_eq
    have e8 : ∀ i, w 8 i = if i = n then 1 else S 8 i := fun i => by rw [hw, s2_ne (by decide), s2_ne (by decide), s2_ne (by decide), s2_ne (by decide), s2_ne (by decide), s2_ne (by decide), s2_ne (by decide), hu, s2_ne (by decide), s2_at, hS 8 (by decide)]
    have r42 : ∀ i, w 42 i = if i = n then a else S 42 i := fun i => by rw [hw, s2_ne (by decide), s2_ne (by decide), s2_ne (by decide), s2_ne (by decide), s2_ne (by decide), s2_at, s2_ne (by decide), hu, s2_ne (by decide), s2_ne (by decide), hS 42 (by decide)]
    have r43 : ∀ i, w 43 i = if i = n then b else S 43 i := fun i => by rw [hw, s2_ne (by decide), s2_ne (by decide), s2_ne (by decide), s2_ne (by decide), s2_at, s2_ne (by decide), s2_ne (by decide), hu, s2_ne (by decide), s2_ne (by decide), hS 43 (by decide)]
    have r44 : ∀ i, w 44 i = if i = n then c else S 44 i := fun i => by rw [hw, s2_ne (by decide), s2_ne (by decide), s2_ne (by decide), s2_at, s2_ne (by decide), s2_ne (by decide), s2_ne (by decide), hu, s2_ne (by decide), s2_ne (by decide), hS 44 (by decide)]
    have r46 : ∀ i, w 46 i = if i = n then e else S 46 i := fun i => by rw [hw, s2_ne (by decide), s2_ne (by decide), s2_at, s2_ne (by decide), s2_ne (by decide), s2_ne (by decide), s2_ne (by decide), hu, s2_ne (by decide), s2_ne (by decide), hS 46 (by decide)]
    have r48 : ∀ i, w 48 i = if i = n then -1 else S 48 i := fun i => by rw [hw, s2_ne (by decide), s2_at, s2_ne (by decide), s2_ne (by decide), s2_ne (by decide), s2_ne (by decide), s2_ne (by decide), hu, s2_ne (by decide), s2_ne (by decide), hS 48 (by decide)]
    have r50 : ∀ i, w 50 i = if i = n then 400 else S 50 i := fun i => by rw [hw, s2_at, s2_ne (by decide), s2_ne (by decide), s2_ne (by decide), s2_ne (by decide), s2_ne (by decide), s2_ne (by decide), hu, s2_ne (by decide), s2_ne (by decide), hS 50 (by decide)]
    have h42 : ∀ i, i ≠ n → ∀ y, 42 ≤ y → y ≤ 51 → w y i = S y i := fun i hi y h1 h2 => by
      rcases (show y = 42 ∨ y = 43 ∨ y = 44 ∨ y = 46 ∨ y = 48 ∨ y = 50 ∨ (y ≠ 42 ∧ y ≠ 43 ∧ y ≠ 44 ∧ y ≠ 46 ∧ y ≠ 48 ∧ y ≠ 50) by omega) with rfl | rfl | rfl | rfl | rfl | rfl | ⟨g1, g2, g3, g4, g5, g6⟩
      · rw [r42, if_neg hi]
      · rw [r43, if_neg hi]
      · rw [r44, if_neg hi]
      · rw [r46, if_neg hi]
      · rw [r48, if_neg hi]
      · rw [r50, if_neg hi]
      · rw [hz y (by omega) (by omega) (by omega) (by omega) g1 g2 g3 g4 g5 g6]
    have hs : ∀ x, 100 ≤ x → w x = sqNew S n a b c e x := fun x h => hx x (by omega) (by omega) (by omega) (by omega) (by omega) (by omega) (by omega) (by omega) (by omega)
    have z52 : w 52 = S 52 := hz 52 (by decide) (by decide) (by decide) (by decide) (by decide) (by decide) (by decide) (by decide) (by decide) (by decide)
    have z53 : w 53 = S 53 := hz 53 (by decide) (by decide) (by decide) (by decide) (by decide) (by decide) (by decide) (by decide) (by decide) (by decide)
    obtain ⟨B, I, Q, T⟩ := I
    have F := Q.2 n (Nat.le_refl n)
    have z45 : w 45 = S 45 := hz 45 (by decide) (by decide) (by decide) (by decide) (by decide) (by decide) (by decide) (by decide) (by decide) (by decide)
    have z47 : w 47 = S 47 := hz 47 (by decide) (by decide) (by decide) (by decide) (by decide) (by decide) (by decide) (by decide) (by decide) (by decide)
    have z49 : w 49 = S 49 := hz 49 (by decide) (by decide) (by decide) (by decide) (by decide) (by decide) (by decide) (by decide) (by decide) (by decide)
    have z51 : w 51 = S 51 := hz 51 (by decide) (by decide) (by decide) (by decide) (by decide) (by decide) (by decide) (by decide) (by decide) (by decide)
    have s1 : w (100 + n) = sqF a b c e := by rw [hs _ (by omega)]; unfold sqNew tf_u; rw [if_neg (by omega), if_neg (by omega), if_pos rfl]
    have s2' : w (200 + n) = fun _ => 0 := by rw [hs _ (by omega)]; unfold sqNew tf_u; rw [if_neg (by omega), if_pos rfl]
    have s3 : w (300 + n) = fun _ => 0 := by rw [hs _ (by omega)]; unfold sqNew tf_u; rw [if_pos rfl]
    refine ⟨⟨B.1, B.2.1, by omega, B.2.2.2.1, B.2.2.2.2.1, B.2.2.2.2.2.1, B.2.2.2.2.2.2⟩, ⟨by rw [hz 1 (by decide) (by decide) (by decide) (by decide) (by decide) (by decide) (by decide) (by decide) (by decide) (by decide)]; exact I.i1, by rw [h30 0 (by decide)]; exact I.i2, by rw [hz 2 (by decide) (by decide) (by decide) (by decide) (by decide) (by decide) (by decide) (by decide) (by decide) (by decide), hz 31 (by decide) (by decide) (by decide) (by decide) (by decide) (by decide) (by decide) (by decide) (by decide) (by decide)]; exact I.i3, by rw [hz 3 (by decide) (by decide) (by decide) (by decide) (by decide) (by decide) (by decide) (by decide) (by decide) (by decide), hz 32 (by decide) (by decide) (by decide) (by decide) (by decide) (by decide) (by decide) (by decide) (by decide) (by decide)]; exact I.i4, by rw [hz 32 (by decide) (by decide) (by decide) (by decide) (by decide) (by decide) (by decide) (by decide) (by decide) (by decide)]; exact I.i5, by rw [hz 1 (by decide) (by decide) (by decide) (by decide) (by decide) (by decide) (by decide) (by decide) (by decide) (by decide)]; exact I.i6, by rw [h30 4 (by decide)]; exact I.i7, by rw [hz 4 (by decide) (by decide) (by decide) (by decide) (by decide) (by decide) (by decide) (by decide) (by decide) (by decide), hz 39 (by decide) (by decide) (by decide) (by decide) (by decide) (by decide) (by decide) (by decide) (by decide) (by decide)]; exact I.i8, by rw [hz 5 (by decide) (by decide) (by decide) (by decide) (by decide) (by decide) (by decide) (by decide) (by decide) (by decide), hz 40 (by decide) (by decide) (by decide) (by decide) (by decide) (by decide) (by decide) (by decide) (by decide) (by decide)]; exact I.i9, by rw [hz 6 (by decide) (by decide) (by decide) (by decide) (by decide) (by decide) (by decide) (by decide) (by decide) (by decide), hz 41 (by decide) (by decide) (by decide) (by decide) (by decide) (by decide) (by decide) (by decide) (by decide) (by decide)]; exact I.i10, by rw [hz 39 (by decide) (by decide) (by decide) (by decide) (by decide) (by decide) (by decide) (by decide) (by decide) (by decide)]; exact I.i11, by rw [hz 1 (by decide) (by decide) (by decide) (by decide) (by decide) (by decide) (by decide) (by decide) (by decide) (by decide), h30 6 (by decide)]; exact I.i12, by rw [hz 1 (by decide) (by decide) (by decide) (by decide) (by decide) (by decide) (by decide) (by decide) (by decide) (by decide), h30 7 (by decide)]; exact I.i13, by rw [hz 0 (by decide) (by decide) (by decide) (by decide) (by decide) (by decide) (by decide) (by decide) (by decide) (by decide)]; exact I.i14, by rw [h30 3 (by decide)]; exact I.i15, e7, e30, by rw [hz 10 (by decide) (by decide) (by decide) (by decide) (by decide) (by decide) (by decide) (by decide) (by decide) (by decide)]; exact I.i18, by rw [h30 29 (by decide)]; exact I.i19, by rw [hz 11 (by decide) (by decide) (by decide) (by decide) (by decide) (by decide) (by decide) (by decide) (by decide) (by decide), hz 57 (by decide) (by decide) (by decide) (by decide) (by decide) (by decide) (by decide) (by decide) (by decide) (by decide)]; exact I.i20, by rw [hz 57 (by decide) (by decide) (by decide) (by decide) (by decide) (by decide) (by decide) (by decide) (by decide) (by decide)]; exact I.i21, by rw [hz 18 (by decide) (by decide) (by decide) (by decide) (by decide) (by decide) (by decide) (by decide) (by decide) (by decide), hz 54 (by decide) (by decide) (by decide) (by decide) (by decide) (by decide) (by decide) (by decide) (by decide) (by decide)]; exact I.i22, by rw [hz 19 (by decide) (by decide) (by decide) (by decide) (by decide) (by decide) (by decide) (by decide) (by decide) (by decide), hz 55 (by decide) (by decide) (by decide) (by decide) (by decide) (by decide) (by decide) (by decide) (by decide) (by decide)]; exact I.i23, by rw [hz 20 (by decide) (by decide) (by decide) (by decide) (by decide) (by decide) (by decide) (by decide) (by decide) (by decide), hz 56 (by decide) (by decide) (by decide) (by decide) (by decide) (by decide) (by decide) (by decide) (by decide) (by decide)]; exact I.i24, by rw [hz 17 (by decide) (by decide) (by decide) (by decide) (by decide) (by decide) (by decide) (by decide) (by decide) (by decide), h30 8 (by decide)]; exact I.i25, by rw [hz 13 (by decide) (by decide) (by decide) (by decide) (by decide) (by decide) (by decide) (by decide) (by decide) (by decide)]; exact I.i26, by rw [h30 33 (by decide)]; exact I.i27, by rw [hz 0 (by decide) (by decide) (by decide) (by decide) (by decide) (by decide) (by decide) (by decide) (by decide) (by decide), h30 32 (by decide)]; exact I.i28, ?_, ?_, by rw [hz 14 (by decide) (by decide) (by decide) (by decide) (by decide) (by decide) (by decide) (by decide) (by decide) (by decide)]; exact I.i31, by rw [hz 14 (by decide) (by decide) (by decide) (by decide) (by decide) (by decide) (by decide) (by decide) (by decide) (by decide)]; exact I.i32, by rw [hz 15 (by decide) (by decide) (by decide) (by decide) (by decide) (by decide) (by decide) (by decide) (by decide) (by decide)]; exact I.i33, by rw [hz 16 (by decide) (by decide) (by decide) (by decide) (by decide) (by decide) (by decide) (by decide) (by decide) (by decide)]; exact I.i34⟩, ⟨fun i hi => ?_, fun i hi => ?_⟩, T.keep fun x h => ?_⟩
    · intro i hi
      rw [e8]
      by_cases h : i = n
      · rw [if_pos h]; decide
      · rw [if_neg h]; exact I.i29 i (by omega)
    · intro i hi
      rw [e8, if_neg (by omega)]; exact I.i30 i (by omega)
    · by_cases h : i = n
      · subst h
        unfold QOk
        rw [s1, s2', s3, r42, r43, r44, r46, r48, r50, if_pos rfl, if_pos rfl, if_pos rfl, if_pos rfl, if_pos rfl, if_pos rfl, z45, z47, z49, z51, z52, z53, F.f45, F.f47, F.f49, F.f51]
        refine ⟨rfl, rfl, rfl, rfl, rfl, rfl, rfl, rfl, rfl, rfl, fun r hr => (F.f52 r (by have := B.2.1; omega)).symm, fun c hc => (F.f53 (c + 1) (by omega)).symm, ⟨0, by have := B.1; omega, rfl, iff_of_true rfl (by have := B.1; omega)⟩, ?_, ⟨400, by decide, rfl⟩, Or.inl rfl, ?_⟩
        · exact isW_n (a := 1) (b := 50) (by decide) hb (by decide)
        · obtain ⟨j, _, h2, h3⟩ := isW_n (a := 0) (b := 5) (by decide) ha (by decide)
          exact ⟨j, h2, h3⟩
      · refine (Q.1 i (by omega)).same B.2.1 ⟨?_, ?_, ?_, h42 i h, fun r _ => by rw [z52], fun c _ => by rw [z53]⟩
        · rw [hs _ (by omega), sqNew_ne (by omega) (by omega) (by omega)]
        · rw [hs _ (by omega), sqNew_ne (by omega) (by have := B.2.2.1; omega) (by omega)]
        · rw [hs _ (by omega), sqNew_ne (by have := B.2.2.1; omega) (by omega) (by omega)]
    · exact (Q.2 i (by omega)).same ⟨h42 i (by omega), fun r _ => by rw [z52], fun c _ => by rw [z53]⟩
    · rcases h with h | h
      · exact hz x (by omega) (by omega) (by omega) (by omega) (by omega) (by omega) (by omega) (by omega) (by omega) (by omega)
      · rw [hs x (by omega), sqNew_ne (by have := B.2.2.1; omega) (by have := B.2.2.1; omega) (by have := B.2.2.1; omega)]
