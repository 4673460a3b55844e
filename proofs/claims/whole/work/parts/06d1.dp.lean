/-! orders of a few: the least sum, and the first order that has it -/
def nclr (P : Nat) : Nat → Nat
  | 0 => 0
  | j + 1 => if P.testBit j = true then nclr P j else nclr P j + 1
theorem tb_or (P q j : Nat) : (P ||| 2 ^ q).testBit j = (P.testBit j || decide (q = j)) := by
  rw [Nat.testBit_or, Nat.testBit_two_pow]
theorem nclr_or {P q : Nat} : ∀ k, nclr (P ||| 2 ^ q) k + (if q < k ∧ P.testBit q = false then 1 else 0) = nclr P k := by
  intro k
  induction k with
  | zero => simp [nclr]
  | succ k ih =>
    unfold nclr
    rw [tb_or]
    by_cases e : q = k
    · subst e
      rw [decide_eq_true rfl, Bool.or_true, if_pos rfl]
      rw [if_neg (by omega)] at ih
      cases h : P.testBit q
      · rw [if_pos ⟨by omega, rfl⟩, if_neg (by decide)]; omega
      · rw [if_neg (fun h => by cases h.2), if_pos rfl]; omega
    · rw [decide_eq_false e, Bool.or_false]
      have e2 : (q < k + 1 ∧ P.testBit q = false) = (q < k ∧ P.testBit q = false) := by
        apply propext
        constructor
        · exact fun h => ⟨by omega, h.2⟩
        · exact fun h => ⟨by omega, h.2⟩
      simp only [e2]
      split <;> omega
theorem nclr_0 {P : Nat} : ∀ {k : Nat}, nclr P k = 0 → ∀ j, j < k → P.testBit j = true := by
  intro k
  induction k with
  | zero => intro _ j hj; exact absurd hj (Nat.not_lt_zero j)
  | succ k ih =>
    intro h j hj
    unfold nclr at h
    split at h
    · rename_i g
      by_cases e : j = k
      · subst e; exact g
      · exact ih h j (by omega)
    · exact absurd h (by omega)
theorem nclr_ne {P : Nat} : ∀ {k : Nat}, ¬ nclr P k = 0 → ∃ j, j < k ∧ P.testBit j = false := by
  intro k
  induction k with
  | zero => intro h; exact absurd rfl h
  | succ k ih =>
    intro h
    unfold nclr at h
    split at h
    · obtain ⟨j, h1, h2⟩ := ih h
      exact ⟨j, by omega, h2⟩
    · rename_i g
      exact ⟨k, by omega, by simpa using g⟩
theorem nclr_all {P : Nat} : ∀ {k : Nat}, (∀ j, j < k → P.testBit j = true) → nclr P k = 0 := by
  intro k
  induction k with
  | zero => intro _; rfl
  | succ k ih => intro h; unfold nclr; rw [if_pos (h k (by omega))]; exact ih fun j hj => h j (by omega)
theorem nclr_zero : ∀ k, nclr 0 k = k := by
  intro k
  induction k with
  | zero => rfl
  | succ k ih => unfold nclr; rw [Nat.zero_testBit, if_neg (by decide), ih]
def dg (m X c : Nat) : Nat := X / m ^ c % m
def costN (m : Nat) (E D : Nat → Nat) : Nat → Nat → Nat → Nat
  | 0, _, _ => 0
  | c + 1, P, X => (E (P ||| 2 ^ dg m X c) - D (dg m X c)) + costN m E D c (P ||| 2 ^ dg m X c) X
def vldN (m : Nat) : Nat → Nat → Nat → Prop
  | 0, P, _ => nclr P m = 0
  | c + 1, P, X => P.testBit (dg m X c) = false ∧ vldN m c (P ||| 2 ^ dg m X c) X
def grdN (m : Nat) (b : Nat → Nat) : Nat → Nat → Nat
  | 0, _ => 0
  | c + 1, P => b P * m ^ c + grdN m b c (P ||| 2 ^ b P)
def DpOk (m : Nat) (E D V b : Nat → Nat) : Prop := (∀ P, P < 2 ^ m → nclr P m = 0 → V P = 0) ∧ (∀ P, P < 2 ^ m → ¬ nclr P m = 0 → b P < m ∧ P.testBit (b P) = false ∧ V P = (E (P ||| 2 ^ b P) - D (b P)) + V (P ||| 2 ^ b P)) ∧ ∀ P, P < 2 ^ m → ∀ i, i < m → P.testBit i = false → V P ≤ (E (P ||| 2 ^ i) - D i) + V (P ||| 2 ^ i) ∧ (i < b P → V P < (E (P ||| 2 ^ i) - D i) + V (P ||| 2 ^ i))
theorem or_lt {m P q : Nat} (h : P < 2 ^ m) (hq : q < m) : P ||| 2 ^ q < 2 ^ m := Nat.or_lt_two_pow h (Nat.pow_lt_pow_right (by decide) hq)
theorem dg_lt {m X c : Nat} (h : 0 < m) : dg m X c < m := Nat.mod_lt _ h
theorem grd_lt {m : Nat} {E D V b : Nat → Nat} (H : DpOk m E D V b) : ∀ c P, P < 2 ^ m → nclr P m = c → grdN m b c P < m ^ c := by
  intro c
  induction c with
  | zero => intro P _ _; exact Nat.one_pos
  | succ c ih =>
    intro P hP hc
    obtain ⟨h1, h2, _⟩ := H.2.1 P hP (by omega)
    have h3 := nclr_or (P := P) (q := b P) m
    rw [if_pos ⟨h1, h2⟩] at h3
    have h4 := ih (P ||| 2 ^ b P) (or_lt hP h1) (by omega)
    unfold grdN
    have h5 : (b P + 1) * m ^ c ≤ m * m ^ c := Nat.mul_le_mul_right _ h1
    rw [Nat.succ_mul] at h5
    rw [Nat.pow_succ, Nat.mul_comm (m ^ c) m]
    omega
theorem vld_A {m : Nat} {E D V b : Nat → Nat} (H : DpOk m E D V b) (hm : 0 < m) : ∀ c P X, P < 2 ^ m → nclr P m = c → vldN m c P X → V P ≤ costN m E D c P X ∧ (V P = costN m E D c P X → grdN m b c P ≤ X % m ^ c) := by
  intro c
  induction c with
  | zero => intro P X hP hc _; rw [H.1 P hP hc]; exact ⟨Nat.zero_le _, fun _ => Nat.zero_le _⟩
  | succ c ih =>
    intro P X hP hc hv
    obtain ⟨v1, v2⟩ := hv
    have hq := dg_lt (X := X) (c := c) hm
    have h3 := nclr_or (P := P) (q := dg m X c) m
    rw [if_pos ⟨hq, v1⟩] at h3
    obtain ⟨i1, i2⟩ := ih _ X (or_lt hP hq) (by omega) v2
    obtain ⟨g1, g2⟩ := H.2.2 P hP _ hq v1
    obtain ⟨b1, b2, b3⟩ := H.2.1 P hP (by omega)
    refine ⟨by unfold costN; omega, fun he => ?_⟩
    have he2 : V P = (E (P ||| 2 ^ dg m X c) - D (dg m X c)) + costN m E D c (P ||| 2 ^ dg m X c) X := he
    have i3 := i2 (by omega)
    have hb : b P ≤ dg m X c := Nat.le_of_not_lt fun h => by have := g2 h; omega
    rw [Nat.mod_pow_succ]
    unfold grdN
    by_cases e : b P = dg m X c
    · rw [e]
      have e2 : m ^ c * (X / m ^ c % m) = dg m X c * m ^ c := Nat.mul_comm _ _
      omega
    · have h6 := nclr_or (P := P) (q := b P) m
      rw [if_pos ⟨b1, b2⟩] at h6
      have h4 := grd_lt H c (P ||| 2 ^ b P) (or_lt hP b1) (by omega)
      have h5 : (b P + 1) * m ^ c ≤ dg m X c * m ^ c := Nat.mul_le_mul_right _ (by omega)
      rw [Nat.succ_mul] at h5
      have e2 : m ^ c * (X / m ^ c % m) = dg m X c * m ^ c := Nat.mul_comm _ _
      omega
theorem dg_mod {m X Y c i : Nat} (h : X % m ^ c = Y % m ^ c) (hi : i < c) : dg m X i = dg m Y i := by
  have k : ∀ Z, dg m Z i = (Z % m ^ c) / m ^ i % m := fun Z => by
    have e : m ^ c = m ^ i * m * m ^ (c - (i + 1)) := by rw [← Nat.pow_succ, ← Nat.pow_add]; congr 1; omega
    rw [e, Nat.mul_assoc, Nat.mod_mul_right_div_self, Nat.mod_mul_right_mod]
    rfl
  rw [k X, k Y, h]
theorem cost_mod {m : Nat} {E D : Nat → Nat} {X Y : Nat} : ∀ c P, (∀ i, i < c → dg m X i = dg m Y i) → costN m E D c P X = costN m E D c P Y := by
  intro c
  induction c with
  | zero => intro _ _; rfl
  | succ c ih => intro P h; unfold costN; rw [h c (by omega), ih _ fun i hi => h i (by omega)]
theorem vld_mod {m : Nat} {X Y : Nat} : ∀ c P, (∀ i, i < c → dg m X i = dg m Y i) → vldN m c P X → vldN m c P Y := by
  intro c
  induction c with
  | zero => intro _ _ h; exact h
  | succ c ih => intro P h hv; obtain ⟨h1, h2⟩ := hv; rw [h c (by omega)] at h1 h2; exact ⟨h1, ih _ (fun i hi => h i (by omega)) h2⟩
theorem dg_top {m c B g : Nat} (hB : B < m) (hg : g < m ^ c) : dg m (B * m ^ c + g) c = B := by
  unfold dg
  rw [Nat.add_comm, Nat.add_mul_div_right _ _ (by omega), Nat.div_eq_of_lt hg, Nat.zero_add, Nat.mod_eq_of_lt hB]
theorem dg_low {m c B g : Nat} (hg : g < m ^ c) : (B * m ^ c + g) % m ^ c = g % m ^ c := by
  rw [Nat.add_comm, Nat.add_mul_mod_self_right]
theorem grd_B {m : Nat} {E D V b : Nat → Nat} (H : DpOk m E D V b) : ∀ c P, P < 2 ^ m → nclr P m = c → vldN m c P (grdN m b c P) ∧ costN m E D c P (grdN m b c P) = V P := by
  intro c
  induction c with
  | zero => intro P hP hc; exact ⟨hc, (H.1 P hP hc).symm⟩
  | succ c ih =>
    intro P hP hc
    obtain ⟨b1, b2, b3⟩ := H.2.1 P hP (by omega)
    have h6 := nclr_or (P := P) (q := b P) m
    rw [if_pos ⟨b1, b2⟩] at h6
    have h4 := grd_lt H c (P ||| 2 ^ b P) (or_lt hP b1) (by omega)
    obtain ⟨i1, i2⟩ := ih (P ||| 2 ^ b P) (or_lt hP b1) (by omega)
    have e1 : dg m (grdN m b (c + 1) P) c = b P := dg_top b1 h4
    have e2 : ∀ i, i < c → dg m (grdN m b c (P ||| 2 ^ b P)) i = dg m (grdN m b (c + 1) P) i := fun i hi => dg_mod (dg_low h4).symm hi
    constructor
    · refine ⟨by rw [e1]; exact b2, ?_⟩
      rw [e1]
      exact vld_mod c _ e2 i1
    · rw [costN, e1, ← cost_mod c _ e2, i2, b3]
/-- the places that are walked -/
def pthN (b : Nat → Nat) : Nat → Nat
  | 0 => 0
  | j + 1 => pthN b j ||| 2 ^ b (pthN b j)
theorem pth_ok {m : Nat} {E D V b : Nat → Nat} (H : DpOk m E D V b) : ∀ j, j ≤ m → pthN b j < 2 ^ m ∧ nclr (pthN b j) m = m - j ∧ grdN m b m 0 % m ^ (m - j) = grdN m b (m - j) (pthN b j) := by
  intro j
  induction j with
  | zero => intro _; exact ⟨Nat.two_pow_pos m, nclr_zero m, Nat.mod_eq_of_lt (grd_lt H m 0 (Nat.two_pow_pos m) (nclr_zero m))⟩
  | succ j ih =>
    intro hj
    obtain ⟨h1, h2, h3⟩ := ih (by omega)
    obtain ⟨b1, b2, b3⟩ := H.2.1 _ h1 (by omega)
    have h6 := nclr_or (P := pthN b j) (q := b (pthN b j)) m
    rw [if_pos ⟨b1, b2⟩] at h6
    have h7 := or_lt h1 b1
    have h4 := grd_lt H (m - (j + 1)) _ h7 (by omega)
    refine ⟨h7, by rw [pthN]; omega, ?_⟩
    have e : m - j = (m - (j + 1)) + 1 := by omega
    rw [e] at h3
    rw [grdN] at h3
    have h8 : grdN m b m 0 % m ^ (m - (j + 1)) = (grdN m b m 0 % m ^ (m - (j + 1) + 1)) % m ^ (m - (j + 1)) := by
      rw [Nat.pow_succ, Nat.mod_mul_right_mod]
    rw [h8, h3, dg_low h4, Nat.mod_eq_of_lt h4]
    rfl
theorem pth_dg {m : Nat} {E D V b : Nat → Nat} (H : DpOk m E D V b) {j : Nat} (hj : j < m) : dg m (grdN m b m 0) (m - 1 - j) = b (pthN b j) := by
  obtain ⟨h1, h2, h3⟩ := pth_ok H j (by omega)
  obtain ⟨b1, b2, b3⟩ := H.2.1 _ h1 (by omega)
  have h6 := nclr_or (P := pthN b j) (q := b (pthN b j)) m
  rw [if_pos ⟨b1, b2⟩] at h6
  have h7 := or_lt h1 b1
  have h4 := grd_lt H (m - 1 - j) _ h7 (by omega)
  have e : m - j = (m - 1 - j) + 1 := by omega
  have h9 := grd_lt H (m - j) _ h1 (by omega)
  rw [dg_mod (Y := grdN m b (m - j) (pthN b j)) (c := m - j) (by rw [h3, Nat.mod_eq_of_lt h9]) (by omega), e, grdN]
  exact dg_top b1 h4
theorem vld_cov {m X : Nat} (hm : 0 < m) : ∀ c P, P < 2 ^ m → (∀ j, j < m → P.testBit j = false → ∃ i, i < c ∧ dg m X i = j) → nclr P m ≤ c := by
  intro c
  induction c with
  | zero =>
    intro P _ h
    rcases Nat.eq_zero_or_pos (nclr P m) with g | g
    · omega
    · obtain ⟨j, h1, h2⟩ := nclr_ne (P := P) (k := m) (by omega)
      obtain ⟨i, h3, _⟩ := h j h1 h2
      exact absurd h3 (Nat.not_lt_zero i)
  | succ c ih =>
    intro P hP h
    have hq := dg_lt (X := X) (c := c) hm
    have h3 := nclr_or (P := P) (q := dg m X c) m
    have h4 := ih (P ||| 2 ^ dg m X c) (or_lt hP hq) (fun j hj hc => by
      rw [tb_or, Bool.or_eq_false_iff] at hc
      obtain ⟨i, hi, he⟩ := h j hj hc.1
      have : ¬ dg m X c = j := of_decide_eq_false hc.2
      refine ⟨i, ?_, he⟩
      rcases Nat.lt_or_ge i c with g | g
      · exact g
      · exact absurd (by rw [show c = i by omega]; exact he) this)
    split at h3 <;> omega
theorem vld_iff {m X : Nat} : ∀ c P, c ≤ m → P < 2 ^ m → nclr P m = c → (vldN m c P X ↔ ∀ j, j < m → P.testBit j = false → ∃ i, i < c ∧ dg m X i = j) := by
  intro c
  induction c with
  | zero =>
    intro P _ _ hc
    refine ⟨fun _ j hj h => ?_, fun _ => hc⟩
    rw [nclr_0 hc j hj] at h
    cases h
  | succ c ih =>
    intro P hcm hP hc
    have hm : 0 < m := by omega
    have hq := dg_lt (X := X) (c := c) hm
    have h3 := nclr_or (P := P) (q := dg m X c) m
    have hlt := or_lt hP hq
    constructor
    · intro hv j hj hf
      obtain ⟨v1, v2⟩ := hv
      rw [if_pos ⟨hq, v1⟩] at h3
      by_cases e : dg m X c = j
      · exact ⟨c, by omega, e⟩
      · obtain ⟨i, hi, he⟩ := (ih _ (by omega) hlt (by omega)).mp v2 j hj (by rw [tb_or, hf, decide_eq_false e]; rfl)
        exact ⟨i, by omega, he⟩
    · intro h
      have hsub : ∀ j, j < m → (P ||| 2 ^ dg m X c).testBit j = false → ∃ i, i < c ∧ dg m X i = j := fun j hj hc => by
        rw [tb_or, Bool.or_eq_false_iff] at hc
        obtain ⟨i, hi, he⟩ := h j hj hc.1
        have : ¬ dg m X c = j := of_decide_eq_false hc.2
        refine ⟨i, ?_, he⟩
        rcases Nat.lt_or_ge i c with g | g
        · exact g
        · exact absurd (by rw [show c = i by omega]; exact he) this
      have h5 := vld_cov hm c _ hlt hsub
      have hf : P.testBit (dg m X c) = false := by
        cases g : P.testBit (dg m X c)
        · rfl
        · rw [if_neg (fun h => by rw [g] at h; cases h.2)] at h3; omega
      rw [if_pos ⟨hq, hf⟩] at h3
      exact ⟨hf, (ih _ (by omega) hlt (by omega)).mpr hsub⟩
