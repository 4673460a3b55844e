/-! the order in which squadrons stand -/
/-- i stands ahead of j: the lesser key, then the lesser number -/
def bef (ky : Nat → Int) (i j : Nat) : Prop := ky i < ky j ∨ (ky i = ky j ∧ i < j)
theorem mNext_best {B : tf_M} {q : Int32} {ky : Nat → Int} {n : Nat} (hn : n ≤ 12) (hk : ∀ i j, i < n → j < n → (mAhead B i j q = true ↔ bef ky i j)) : ∀ k, k ≤ n → (mNext B q k = -1 ∧ ∀ s, s < k → ¬ B 71 s = 0) ∨ ∃ s, s < k ∧ mNext B q k = nI s ∧ B 71 s = 0 ∧ ∀ s', s' < k → B 71 s' = 0 → s' ≠ s → bef ky s s' := by
  intro k
  induction k with
  | zero => intro _; exact Or.inl ⟨rfl, fun s hs => absurd hs (Nat.not_lt_zero s)⟩
  | succ k ih =>
    intro hk1
    unfold mNext
    by_cases h0 : B 71 k = 0
    · rcases ih (by omega) with ⟨h1, h2⟩ | ⟨s, hs, h1, h2, h3⟩
      · rw [if_pos ⟨h0, Or.inl h1⟩]
        refine Or.inr ⟨k, by omega, rfl, h0, fun s' hs' g1 g2 => ?_⟩
        exact absurd g1 (h2 s' (by omega))
      · have hc : (mNext B q k).toNatClampNeg = s := by rw [h1]; exact nI_clamp (by omega)
        have hne : ¬ mNext B q k = -1 := by rw [h1]; exact nI_nm (by omega)
        by_cases ha : mAhead B k s q = true
        · rw [if_pos ⟨h0, Or.inr (by rw [hc]; exact ha)⟩]
          have hb := (hk k s (by omega) (by omega)).mp ha
          refine Or.inr ⟨k, by omega, rfl, h0, fun s' hs' g1 g2 => ?_⟩
          by_cases e : s' = s
          · subst e; exact hb
          · have := h3 s' (by omega) g1 e
            unfold bef at *
            omega
        · rw [if_neg (fun g => g.2.elim hne (fun g => ha (by rw [← hc]; exact g)))]
          refine Or.inr ⟨s, by omega, h1, h2, fun s' hs' g1 g2 => ?_⟩
          by_cases e : s' = k
          · subst e
            have hb : ¬ bef ky s' s := fun g => ha ((hk s' s (by omega) (by omega)).mpr g)
            unfold bef at *
            omega
          · exact h3 s' (by omega) g1 g2
    · rw [if_neg (fun g => h0 g.1)]
      rcases ih (by omega) with ⟨h1, h2⟩ | ⟨s, hs, h1, h2, h3⟩
      · refine Or.inl ⟨h1, fun s hs => ?_⟩
        by_cases e : s = k
        · subst e; exact h0
        · exact h2 s (by omega)
      · refine Or.inr ⟨s, by omega, h1, h2, fun s' hs' g1 g2 => ?_⟩
        by_cases e : s' = k
        · subst e; exact absurd g1 h0
        · exact h3 s' (by omega) g1 g2
/-- the line of the first i: sorted, and all of them -/
def LnS (ky : Nat → Int) (i : Nat) (L : Nat → Nat) : Prop := (∀ p, p < i → L p < i) ∧ (∀ p p', p < p' → p' < i → bef ky (L p) (L p')) ∧ ∀ s, s < i → ∃ p, p < i ∧ L p = s
theorem insDown_s {ky : Nat → Int} {n i : Nat} {q : Int32} {L : Nat → Nat} (hn : n ≤ 12) (hi : i < n) (hL : ∀ p, p < i → L p < i) : ∀ (p : Nat) (S : tf_M), (∀ a b, a < n → b < n → (ahead S a b q = true ↔ ky a < ky b)) → p ≤ i → (∀ x, x < p → S 9 x = nI (L x)) → (∀ x, p < x → x ≤ i → S 9 x = nI (L (x - 1))) → (∀ x, p ≤ x → x < i → ky i < ky (L x)) → ∃ m, m ≤ p ∧ (∀ x, x < m → insDown S i q p 9 x = nI (L x)) ∧ insDown S i q p 9 m = nI i ∧ (∀ x, m < x → x ≤ i → insDown S i q p 9 x = nI (L (x - 1))) ∧ (∀ x, m ≤ x → x < i → ky i < ky (L x)) ∧ (0 < m → ¬ ky i < ky (L (m - 1))) := by
  intro p
  induction p with
  | zero =>
    intro S ha hp h1 h2 h3
    unfold insDown
    exact ⟨0, Nat.le_refl 0, fun x hx => absurd hx (Nat.not_lt_zero x), s2_eq, fun x hx hx2 => by rw [s2_nk (by omega)]; exact h2 x hx hx2, h3, fun h => absurd h (Nat.lt_irrefl 0)⟩
  | succ p ih =>
    intro S ha hp h1 h2 h3
    have hc : (S 9 p).toNatClampNeg = L p := by rw [h1 p (by omega)]; exact nI_clamp (by have := hL p (by omega); omega)
    unfold insDown
    rw [hc]
    by_cases h : ahead S i (L p) q = true
    · rw [if_pos h]
      have hk := (ha i (L p) hi (by have := hL p (by omega); omega)).mp h
      have hs : ∀ a b, ahead (s2 S 9 (p + 1) (S 9 p)) a b q = ahead S a b q := fun a b => by
        unfold ahead
        rw [s2_ne (by omega), s2_ne (by omega)]
      obtain ⟨m, g1, g2, g3, g4, g5, g6⟩ := ih (s2 S 9 (p + 1) (S 9 p)) (fun a b h1 h2 => by rw [hs]; exact ha a b h1 h2) (by omega) (fun x hx => by rw [s2_nk (by omega)]; exact h1 x (by omega)) (fun x hx hx2 => by
        by_cases e : x = p + 1
        · subst e; rw [s2_eq]; exact h1 p (by omega)
        · rw [s2_nk e]; exact h2 x (by omega) hx2) (fun x hx hx2 => by
        by_cases e : x = p
        · subst e; exact hk
        · exact h3 x (by omega) hx2)
      exact ⟨m, by omega, g2, g3, g4, g5, g6⟩
    · rw [if_neg h]
      refine ⟨p + 1, Nat.le_refl _, fun x hx => by rw [s2_nk (by omega)]; exact h1 x (by omega), s2_eq, fun x hx hx2 => by rw [s2_nk (by omega)]; exact h2 x hx hx2, h3, fun _ g => h ?_⟩
      exact (ha i (L p) hi (by have := hL p (by omega); omega)).mpr g
theorem lineAll_s {ky : Nat → Int} {n : Nat} {q : Int32} (hn : n ≤ 12) {S : tf_M} (ha : ∀ a b, a < n → b < n → (ahead S a b q = true ↔ ky a < ky b)) : ∀ i, i ≤ n → ∃ L : Nat → Nat, LnS ky i L ∧ ∀ p, p < i → lineAll S q i 9 p = nI (L p) := by
  intro i
  induction i with
  | zero => intro _; exact ⟨fun _ => 0, ⟨fun p hp => absurd hp (Nat.not_lt_zero p), fun p p' _ h => absurd h (Nat.not_lt_zero p'), fun s hs => absurd hs (Nat.not_lt_zero s)⟩, fun p hp => absurd hp (Nat.not_lt_zero p)⟩
  | succ i ih =>
    intro hi
    obtain ⟨L, ⟨l1, l2, l3⟩, hl⟩ := ih (by omega)
    have hs : ∀ a b, ahead (lineAll S q i) a b q = ahead S a b q := fun a b => by
      unfold ahead
      rw [lineAll_ne (by omega), lineAll_ne (by omega)]
    obtain ⟨m, g1, g2, g3, g4, g5, g6⟩ := insDown_s (ky := ky) (L := L) hn (show i < n by omega) l1 i (lineAll S q i) (fun a b h1 h2 => by rw [hs]; exact ha a b h1 h2) (Nat.le_refl i) hl (fun x h1 h2 => by omega) (fun x h1 h2 => by omega)
    refine ⟨fun x => if x < m then L x else if x = m then i else L (x - 1), ⟨fun p hp => ?_, fun p p' hp hp' => ?_, fun s hs => ?_⟩, fun p hp => ?_⟩
    · by_cases a1 : p < m
      · simp only [if_pos a1]; have := l1 p (by omega); omega
      · by_cases a2 : p = m
        · simp only [if_neg a1, if_pos a2]; omega
        · simp only [if_neg a1, if_neg a2]; have := l1 (p - 1) (by omega); omega
    · have low : ∀ x, x < m → bef ky (L x) i := fun x hx => by
        have h6 := g6 (by omega)
        have hi2 := l1 x (by omega)
        by_cases e : x = m - 1
        · rw [← e] at h6
          unfold bef; omega
        · have h7 := l2 x (m - 1) (by omega) (by omega)
          unfold bef at h7 ⊢; omega
      have high : ∀ x, m ≤ x → x < i → bef ky i (L x) := fun x h1 h2 => Or.inl (g5 x h1 h2)
      by_cases a1 : p < m
      · simp only [if_pos a1]
        by_cases b1 : p' < m
        · simp only [if_pos b1]; exact l2 p p' hp (by omega)
        · by_cases b2 : p' = m
          · simp only [if_neg b1, if_pos b2]; exact low p a1
          · simp only [if_neg b1, if_neg b2]
            exact l2 p (p' - 1) (by omega) (by omega)
      · by_cases a2 : p = m
        · simp only [if_neg a1, if_pos a2, if_neg (show ¬ p' < m by omega), if_neg (show ¬ p' = m by omega)]
          exact high (p' - 1) (by omega) (by omega)
        · simp only [if_neg a1, if_neg a2, if_neg (show ¬ p' < m by omega), if_neg (show ¬ p' = m by omega)]
          exact l2 (p - 1) (p' - 1) (by omega) (by omega)
    · by_cases e : s = i
      · exact ⟨m, by omega, by simp [e]⟩
      · obtain ⟨p, hp, hps⟩ := l3 s (by omega)
        by_cases a1 : p < m
        · exact ⟨p, by omega, by simp only [if_pos a1]; exact hps⟩
        · exact ⟨p + 1, by omega, by simp only [if_neg (show ¬ p + 1 < m by omega), if_neg (show ¬ p + 1 = m by omega)]; rw [Nat.add_sub_cancel]; exact hps⟩
    · show insDown (lineAll S q i) i q i 9 p = _
      by_cases a1 : p < m
      · simp only [if_pos a1]; exact g2 p a1
      · by_cases a2 : p = m
        · simp only [if_neg a1, if_pos a2]; rw [a2]; exact g3
        · simp only [if_neg a1, if_neg a2]; exact g4 p (by omega) (by omega)
/-- the key that an order looks at -/
def kyO (B : tf_M) (q : Int32) (i : Nat) : Int := if q = 0 then (B 42 i).toInt else if q = 1 then - (B 43 i).toInt else 0
theorem mAhead_ky {B : tf_M} {q : Int32} {i j : Nat} (hi : (∃ c : Nat, c ≤ 5 ∧ B 42 i = nI c) ∧ ∃ b : Nat, b ≤ 50 ∧ B 43 i = nI b) (hj : (∃ c : Nat, c ≤ 5 ∧ B 42 j = nI c) ∧ ∃ b : Nat, b ≤ 50 ∧ B 43 j = nI b) : mAhead B i j q = true ↔ bef (kyO B q) i j := by
  obtain ⟨⟨ci, hci, hci2⟩, bi, hbi, hbi2⟩ := hi
  obtain ⟨⟨cj, hcj, hcj2⟩, bj, hbj, hbj2⟩ := hj
  have key : ∀ (a b : Nat) (_ : a < 2 ^ 30) (_ : b < 2 ^ 30), ((if ¬ nI a - nI b = 0 then decide (0 < nI a - nI b) else decide (i < j)) = true ↔ ((b : Int) < a ∨ ((b : Int) = a ∧ i < j))) := by
    intro a b ha hb
    have e := pk_sub_toInt ha hb
    have e0 : (0 : Int32).toInt = 0 := rfl
    by_cases h : nI a - nI b = 0
    · rw [h] at e
      rw [if_neg (fun g => g h)]
      rw [decide_eq_true_eq]
      omega
    · rw [if_pos h, decide_eq_true_eq, Int32.lt_iff_toInt_lt, e, e0]
      have : ¬ (a : Int) - b = 0 := fun g => h (Int32.toInt_inj.mp (by rw [e, e0]; exact g))
      omega
  unfold mAhead bef kyO
  by_cases h0 : q = 0
  · simp only [if_pos h0]
    rw [hci2, hcj2, nI_toInt (by omega), nI_toInt (by omega)]
    exact key cj ci (by omega) (by omega)
  · simp only [if_neg h0]
    by_cases h1 : q = 1
    · simp only [if_pos h1]
      rw [hbi2, hbj2, nI_toInt (by omega), nI_toInt (by omega)]
      refine (key bi bj (by omega) (by omega)).trans ?_
      omega
    · simp only [if_neg h1]
      simp
theorem ahead_ky {A B : tf_M} {q : Int32} {i j : Nat} (h0 : A (100 + i) 0 = B 42 i) (h1 : A (100 + i) 1 = B 43 i) (g0 : A (100 + j) 0 = B 42 j) (g1 : A (100 + j) 1 = B 43 j) : ahead A i j q = true ↔ kyO B q i < kyO B q j := by
  unfold ahead kyO
  rw [h0, h1, g0, g1]
  by_cases c0 : q = 0
  · simp only [if_pos c0]
    rw [decide_eq_true_eq, Int32.lt_iff_toInt_lt]
  · simp only [if_neg c0]
    by_cases c1 : q = 1
    · simp only [if_pos c1]
      rw [decide_eq_true c1, Bool.true_and, decide_eq_true_eq, Int32.lt_iff_toInt_lt]
      omega
    · simp only [if_neg c1]
      rw [decide_eq_false c1]
      simp
