/-! least of both sides -/
theorem sw_least {nR n t nk k d : Nat} {S : tf_M} (I : Iv nR n t nk k d S) {x a kk z y : Int32} {u w : tf_M} (hx : z = (if lsG S x a = true then lsR S x a n kk else -1) ∧ u = if lsG S x a = true then lsS S x a n else S) (hy : (mLsG u nR n x a → y = mLsR u n x a kk) ∧ (¬ mLsG u nR n x a → y = -1) ∧ lsK u w) : z = y ∧ ∃ nk1 k1 d1, Iv nR n t nk1 k1 d1 w := by
  sorry
