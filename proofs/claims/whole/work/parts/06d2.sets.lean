/-! sets as numbers -/
theorem sh_k : ∀ k, k < 13 → (((nI k &&& 31 : Int32)).toBitVec.smod 32).toNat = k := by decide +kernel
theorem ush_k : ∀ k, k < 13 → (((nI k).toUInt32 &&& Int32.toUInt32 31).toBitVec % 32).toNat = k := by decide +kernel
theorem bit1_nI {s k : Nat} (hs : s < 2 ^ 31) (hk : k < 13) : bit1 (nI s) k = if s.testBit k = true then 1 else 0 := by
  unfold bit1
  have h2 : s / 2 ^ k ≤ s := Nat.div_le_self _ _
  rw [pk_shrN hs _ k (sh_k k hk), pk_andN (by omega) 1 (by decide), Nat.testBit_eq_decide_div_mod_eq]
  rcases Nat.mod_two_eq_zero_or_one (s / 2 ^ k) with h | h
  · rw [show 2 ^ 1 = 2 from rfl, h]; rfl
  · rw [show 2 ^ 1 = 2 from rfl, h]; rfl
theorem bit1_t {s k : Nat} (hs : s < 2 ^ 31) (hk : k < 13) : (bit1 (nI s) k = 1) = (s.testBit k = true) := by
  rw [bit1_nI hs hk]
  cases s.testBit k <;> simp
theorem bit1_f {s k : Nat} (hs : s < 2 ^ 31) (hk : k < 13) : (bit1 (nI s) k = 0) = (s.testBit k = false) := by
  rw [bit1_nI hs hk]
  cases s.testBit k <;> simp
theorem or_nI (a b : Nat) : nI a ||| nI b = nI (a ||| b) := by
  apply Int32.toBitVec_inj.mp
  rw [Int32.toBitVec_or]
  exact (BitVec.ofNat_or).symm
theorem pow_nI : ∀ q, q < 12 → (1 : Int32) <<< (nI q &&& 31) = nI (2 ^ q) := by decide +kernel
theorem aftr_nI {P q : Nat} (hq : q < 12) : aftr (nI P) (nI q) = nI (P ||| 2 ^ q) := by
  unfold aftr
  rw [pow_nI q hq, or_nI]
theorem p12 {s n : Nat} (hn : n ≤ 12) (h : s < 2 ^ n) : s < 4096 := Nat.lt_of_lt_of_le h (pow12 n (by omega))
theorem gd_x {x : Int32} {n : Nat} (hn : n ≤ 12) : us x (nI n) = 0 ↔ ∃ s : Nat, s < 2 ^ n ∧ x = nI s := by
  refine ⟨us_0 hn, fun ⟨s, hs, he⟩ => ?_⟩
  subst he
  have := p12 hn hs
  unfold us
  rw [pk_ushrN (by omega) _ n (ush_k n (by omega)), Nat.div_eq_of_lt hs]
  rfl
theorem gd_y {x : Int32} {n : Nat} (hn : n ≤ 12) : (¬ x < 0 ∧ x >>> (nI n &&& 31) = 0) ↔ ∃ s : Nat, s < 2 ^ n ∧ x = nI s := by
  constructor
  · intro ⟨h1, h2⟩
    obtain ⟨s, hs, rfl⟩ := nI_of h1
    rw [pk_shrN hs _ n (sh_k n (by omega))] at h2
    have h3 : s / 2 ^ n ≤ s := Nat.div_le_self _ _
    have h4 := nI_inj (b := 0) h2 (by omega) (by decide)
    refine ⟨s, ?_, rfl⟩
    rcases Nat.lt_or_ge s (2 ^ n) with g | g
    · exact g
    · exact absurd h4 (Nat.pos_iff_ne_zero.mp (Nat.div_pos g (Nat.two_pow_pos n)))
  · intro ⟨s, hs, he⟩
    subst he
    have := p12 hn hs
    refine ⟨nI_pos (by omega), ?_⟩
    rw [pk_shrN (by omega) _ n (sh_k n (by omega)), Nat.div_eq_of_lt hs]
    rfl
theorem cnt_hi {s n : Nat} (hn : n ≤ 12) (hs : s < 2 ^ n) : ∀ k, n + k ≤ 12 → cntB (nI s) (n + k) = cntB (nI s) n := by
  intro k
  induction k with
  | zero => intro _; rfl
  | succ k ih =>
    intro hk
    have := p12 hn hs
    have h9 : ¬ bit1 (nI s) (n + k) = 1 := by
      rw [bit1_t (by omega) (by omega), Nat.testBit_lt_two_pow (Nat.lt_of_lt_of_le hs (Nat.pow_le_pow_right (by decide) (Nat.le_add_right n k)))]
      decide
    rw [← Nat.add_assoc, cntB, if_neg h9]
    exact ih (by omega)
theorem cnt_le {x : Int32} : ∀ i, cntB x i ≤ i := by
  intro i
  induction i with
  | zero => exact Nat.le_refl 0
  | succ i ih => unfold cntB; split <;> omega
/-- the j-th of the chosen -/
def selB (x : Int32) : Nat → Nat → Nat
  | 0, _ => 0
  | i + 1, j => if bit1 x i = 1 ∧ j = cntB x i then i else selB x i j
theorem sel_ok {x : Int32} : ∀ i j, j < cntB x i → selB x i j < i ∧ bit1 x (selB x i j) = 1 ∧ cntB x (selB x i j) = j := by
  intro i
  induction i with
  | zero => intro j hj; exact absurd hj (Nat.not_lt_zero j)
  | succ i ih =>
    intro j hj
    unfold cntB at hj
    unfold selB
    split
    · rename_i h
      exact ⟨by omega, h.1, h.2.symm⟩
    · rename_i h
      have h2 : j < cntB x i := by
        split at hj
        · rename_i g
          have : ¬ j = cntB x i := fun e => h ⟨g, e⟩
          omega
        · exact hj
      obtain ⟨h3, h4, h5⟩ := ih j h2
      exact ⟨by omega, h4, h5⟩
theorem sel_on {x : Int32} : ∀ i q, q < i → bit1 x q = 1 → cntB x q < cntB x i ∧ selB x i (cntB x q) = q := by
  intro i
  induction i with
  | zero => intro q hq; exact absurd hq (Nat.not_lt_zero q)
  | succ i ih =>
    intro q hq hb
    unfold selB
    rw [show cntB x (i + 1) = if bit1 x i = 1 then cntB x i + 1 else cntB x i from rfl]
    by_cases e : q = i
    · subst e
      rw [if_pos hb, if_pos ⟨hb, rfl⟩]
      exact ⟨by omega, rfl⟩
    · obtain ⟨h1, h2⟩ := ih q (by omega) hb
      refine ⟨by split <;> omega, ?_⟩
      rw [if_neg (fun g => by have := g.2; omega)]
      exact h2
theorem fwS_sel {S : tf_M} {x : Int32} : ∀ i j, j < cntB x i → fwS S x i 72 j = nI (selB x i j) := by
  intro i
  induction i with
  | zero => intro j hj; exact absurd hj (Nat.not_lt_zero j)
  | succ i ih =>
    intro j hj
    unfold cntB at hj
    unfold fwS selB
    by_cases g : bit1 x i = 1
    · rw [if_pos g] at hj
      rw [if_pos g]
      by_cases e : j = cntB x i
      · rw [if_pos ⟨g, e⟩, e, s2_eq]
      · rw [if_neg (fun h => e h.2), s2_nk e]
        exact ih j (by omega)
    · rw [if_neg g] at hj
      rw [if_neg g, if_neg (fun h => g h.1)]
      exact ih j hj
theorem scAll_sel {S : tf_M} {x a : Int32} : ∀ i j, j < cntB x i → (scAll S x a i).1 22 j = nI (selB x i j) ∧ (scAll S x a i).1 23 j = dtp (S (100 + selB x i j) 1) (S 3 a.toNatClampNeg) ∧ (scAll S x a i).1 24 j = S (100 + selB x i j) 10 := by
  intro i
  induction i with
  | zero => intro j hj; exact absurd hj (Nat.not_lt_zero j)
  | succ i ih =>
    intro j hj
    unfold cntB at hj
    unfold scAll selB
    by_cases g : bit1 x i = 1
    · rw [if_pos g] at hj
      rw [if_pos g, (scAll_ok i).1]
      by_cases e : j = cntB x i
      · rw [if_pos ⟨g, e⟩, e]
        simp only [schAdd]
        refine ⟨?_, ?_, ?_⟩
        · rw [s2_ne (by decide), s2_ne (by decide), s2_ne (by decide), s2_eq]
        · rw [s2_ne (by decide), s2_ne (by decide), s2_eq]
        · rw [s2_ne (by decide), s2_eq]
      · obtain ⟨h1, h2, h3⟩ := ih j (by omega)
        rw [if_neg (fun h => e h.2)]
        simp only [schAdd]
        refine ⟨?_, ?_, ?_⟩
        · rw [s2_ne (by decide), s2_ne (by decide), s2_ne (by decide), s2_nk e]; exact h1
        · rw [s2_ne (by decide), s2_ne (by decide), s2_nk e, s2_ne (by decide)]; exact h2
        · rw [s2_ne (by decide), s2_nk e, s2_ne (by decide), s2_ne (by decide)]; exact h3
    · rw [if_neg g] at hj
      rw [if_neg g, if_neg (fun h => g h.1)]
      exact ih j hj
/-- the day that a set of orders ends -/
def eN (d : Nat) (t : Nat → Nat) (P : Nat) : Nat → Nat
  | 0 => d
  | j + 1 => if P.testBit j = true then eN d t P j + t j else eN d t P j
theorem eN_or {d : Nat} {t : Nat → Nat} {P q : Nat} (h : P.testBit q = false) : ∀ k, eN d t (P ||| 2 ^ q) k = eN d t P k + if q < k then t q else 0 := by
  intro k
  induction k with
  | zero => rfl
  | succ k ih =>
    unfold eN
    rw [tb_or]
    by_cases e : q = k
    · subst e
      rw [decide_eq_true rfl, Bool.or_true, if_pos rfl, h, if_neg (by decide), ih, if_neg (by omega), if_pos (by omega)]
      omega
    · rw [decide_eq_false e, Bool.or_false]
      have e2 : (q < k + 1) = (q < k) := by apply propext; omega
      simp only [e2]
      split <;> omega
theorem eN_le {d : Nat} {t : Nat → Nat} {P : Nat} : ∀ k, (∀ j, j < k → t j ≤ 50) → eN d t P k ≤ d + 50 * k := by
  intro k
  induction k with
  | zero => intro _; exact Nat.le_refl _
  | succ k ih =>
    intro h
    have h1 := ih fun j hj => h j (by omega)
    have h2 := h k (by omega)
    unfold eN
    split <;> omega
theorem eN_0 {d : Nat} {t : Nat → Nat} : ∀ k, eN d t 0 k = d := by
  intro k
  induction k with
  | zero => rfl
  | succ k ih => unfold eN; rw [Nat.zero_testBit, if_neg (by decide)]; exact ih
theorem imax_nI {e D : Nat} (he : e < 2 ^ 30) (hD : D < 2 ^ 30) : imax 0 (nI e - nI D) = nI (e - D) := by
  unfold imax
  by_cases h : D ≤ e
  · rw [pk_sub h]
    split
    · rfl
    · rename_i g
      have : e - D ≤ 0 := Nat.le_of_not_lt fun q => g (by rw [← nI_0]; exact nI_lt q (by omega))
      rw [show e - D = 0 by omega]; rfl
  · rw [if_neg, show e - D = 0 by omega]
    · rfl
    · have := pk_sneg hD (show e < D by omega)
      exact Int32.not_lt.mpr (Int32.le_of_lt this)
