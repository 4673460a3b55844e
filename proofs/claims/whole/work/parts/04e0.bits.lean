/-! numbers of bits -/
def cntB (x : Int32) : Nat → Nat
  | 0 => 0
  | i + 1 => if bit1 x i = 1 then cntB x i + 1 else cntB x i
theorem cntB_le {x : Int32} {i n : Nat} (h : i ≤ n) : cntB x i ≤ cntB x n := by
  induction n with
  | zero => rw [show i = 0 by omega]; exact Nat.le_refl _
  | succ n ih =>
    by_cases e : i = n + 1
    · rw [e]; exact Nat.le_refl _
    · have := ih (by omega)
      rw [show cntB x (n + 1) = if bit1 x n = 1 then cntB x n + 1 else cntB x n from rfl]
      by_cases g : bit1 x n = 1
      · rw [if_pos g]; omega
      · rw [if_neg g]; exact this
theorem bc_0 : ∀ s, s < 1024 → bcF (nI s) = nI (cntB (nI s) 12) := by decide +kernel
theorem bc_1 : ∀ s, s < 1024 → bcF (nI (1024 + s)) = nI (cntB (nI (1024 + s)) 12) := by decide +kernel
theorem bc_2 : ∀ s, s < 1024 → bcF (nI (2048 + s)) = nI (cntB (nI (2048 + s)) 12) := by decide +kernel
theorem bc_3 : ∀ s, s < 1024 → bcF (nI (3072 + s)) = nI (cntB (nI (3072 + s)) 12) := by decide +kernel
theorem bc_ok (s : Nat) (h : s < 4096) : bcF (nI s) = nI (cntB (nI s) 12) := by
  rcases (show s < 1024 ∨ (1024 ≤ s ∧ s < 2048) ∨ (2048 ≤ s ∧ s < 3072) ∨ 3072 ≤ s by omega) with g | g | g | g
  · exact bc_0 s g
  · have := bc_1 (s - 1024) (by omega); rwa [show 1024 + (s - 1024) = s by omega] at this
  · have := bc_2 (s - 2048) (by omega); rwa [show 2048 + (s - 2048) = s by omega] at this
  · have := bc_3 (s - 3072) (by omega); rwa [show 3072 + (s - 3072) = s by omega] at this
theorem us_0 {x : Int32} {n : Nat} (hn : n ≤ 12) (h : us x (nI n) = 0) : ∃ s : Nat, s < 2 ^ n ∧ x = nI s := by
  have h1 : x.toUInt32 >>> ((nI n).toUInt32 &&& Int32.toUInt32 31) = 0 := by
    have : ((x.toUInt32 >>> ((nI n).toUInt32 &&& Int32.toUInt32 31)).toInt32).toUInt32 = (0 : Int32).toUInt32 := congrArg Int32.toUInt32 h
    have h9 : x.toUInt32 >>> ((nI n).toUInt32 &&& Int32.toUInt32 31) = Int32.toUInt32 0 := by simpa using this
    exact h9.trans (by decide)
  have h2 : (nI n).toUInt32 &&& Int32.toUInt32 31 = UInt32.ofNat n := by
    have : ∀ n, n < 13 → (nI n).toUInt32 &&& Int32.toUInt32 31 = UInt32.ofNat n := by decide +kernel
    exact this n (by omega)
  rw [h2] at h1
  have h3 : (x.toUInt32 >>> UInt32.ofNat n).toNat = 0 := by rw [h1]; rfl
  rw [UInt32.toNat_shiftRight] at h3
  have h4 : (UInt32.ofNat n).toNat % 32 = n := by
    have : ∀ n, n < 13 → (UInt32.ofNat n).toNat % 32 = n := by decide +kernel
    exact this n (by omega)
  rw [h4, Nat.shiftRight_eq_div_pow] at h3
  refine ⟨x.toUInt32.toNat, ?_, ?_⟩
  · rcases Nat.lt_or_ge x.toUInt32.toNat (2 ^ n) with g | g
    · exact g
    · exact absurd h3 (Nat.pos_iff_ne_zero.mp (Nat.div_pos g (Nat.two_pow_pos n)))
  · show x = Int32.ofNat x.toUInt32.toNat
    have : (UInt32.ofNat x.toUInt32.toNat).toInt32 = x := by simp
    exact this.symm
theorem pow12 : ∀ n, n < 13 → 2 ^ n ≤ 4096 := by decide +kernel
theorem bc_6 {S : tf_M} {x : Int32} {n : Nat} (hz : S 7 2 = nI n) (hn : n ≤ 12) (h : hasAllB S x = true) (h6 : bcF x ≤ 6) : cntB x n ≤ 6 := by
  unfold hasAllB at h
  rw [hz] at h
  obtain ⟨s, h1, rfl⟩ := us_0 hn (of_decide_eq_true h)
  have h2 := pow12 n (by omega)
  rw [bc_ok s (by omega)] at h6
  have h12 : cntB (nI s) 12 ≤ 12 := by
    have : ∀ i, cntB (nI s) i ≤ i := by
      intro i
      induction i with
      | zero => exact Nat.le_refl 0
      | succ i ih => rw [show cntB (nI s) (i + 1) = if bit1 (nI s) i = 1 then cntB (nI s) i + 1 else cntB (nI s) i from rfl]; by_cases g : bit1 (nI s) i = 1 <;> simp only [g, if_true, if_false] <;> omega
    exact this 12
  have h3 : cntB (nI s) 12 ≤ 6 := nI_ge' (a := 6) h6 (by omega)
  exact Nat.le_trans (cntB_le hn) h3

