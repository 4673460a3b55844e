/-! what the loop still wants -/
theorem sw_statute {nR n t nk k d : Nat} {S u w : tf_M} {r1 r2 : Int32} (I : Iv nR n t nk k d S) (x : Int32) (h1 : isW x 0 (S 10 1) = false → r1 = -2 ∧ u = S) (h2 : isW x 0 (S 10 1) = true → t = 10 → r1 = -3 ∧ u = S) (h3 : isW x 0 (S 10 1) = true → ¬ t = 10 → ctP nR S x.toNatClampNeg t r1 u) (hy : (isW x 0 (S 10 1) = false → r2 = -2 ∧ w = u) ∧ (isW x 0 (S 10 1) = true → t = 10 → r2 = -3 ∧ w = u) ∧ (isW x 0 (S 10 1) = true → ¬ t = 10 → stP nR u x.toNatClampNeg t r2 w)) : r1 = r2 ∧ ∃ nk1 k1 d1, Iv nR n (if stAcc S nR t x = true then t + 1 else t) nk1 k1 d1 w := by
  unfold stAcc
  cases hg : isW x 0 (S 10 1) with
  | false =>
    obtain ⟨rfl, rfl⟩ := h1 hg
    obtain ⟨rfl, rfl⟩ := hy.1 hg
    exact ⟨rfl, nk, k, d, I⟩
  | true =>
    by_cases h10 : t = 10
    · obtain ⟨rfl, rfl⟩ := h2 hg h10
      obtain ⟨rfl, rfl⟩ := hy.2.1 hg h10
      rw [decide_eq_true h10]
      exact ⟨rfl, nk, k, d, I⟩
    · have hN : x.toNatClampNeg ≤ k := by
        rw [I.2.1.i18] at hg
        obtain ⟨j, _, hj, rfl⟩ := isW_n (a := 0) (b := k) (by have := I.1.2.2.2.2.2.1; omega) hg (by decide)
        rw [nI_clamp (by have := I.1.2.2.2.2.2.1; omega)]
        exact hj
      obtain ⟨he, n1, nk1, k1, d1, hI1, rfl⟩ := sw_statute0 I hN (by have := I.1.2.2.2.1; omega) (h3 hg h10) (hy.2.2 hg h10)
      refine ⟨he, nk1, k1, d1, ?_⟩
      rw [decide_eq_false h10]
      by_cases hr : (stRd S nR t x.toNatClampNeg).1 = -1
      · rw [if_pos hr] at hI1
        rw [decide_eq_true hr]
        exact hI1
      · rw [if_neg hr] at hI1
        rw [decide_eq_false hr]
        exact hI1
theorem lsS_ne {S : tf_M} {x a : Int32} {n y : Nat} (h : y < 21 ∨ 25 < y) : lsS S x a n y = S y := by
  unfold lsS
  rw [wgAll_ne (by omega), s2_ne (by omega)]
  exact (scAll_ok n).2.2 y (by omega)
theorem mid_least {n : Nat} {S u : tf_M} {x a : Int32} (hu : u = if lsG S x a = true then lsS S x a n else S) : ∀ y, 30 ≤ y → y < 100 → u y = S y := by
  intro y h1 h2
  rw [hu]
  split
  · exact lsS_ne (by omega)
  · rfl
