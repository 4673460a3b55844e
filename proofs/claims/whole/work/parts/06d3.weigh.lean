/-! the table of the program -/
def RwOk (T : tf_M) (m d : Nat) (t D : Nat → Nat) : Prop := T 21 5 = nI d ∧ d ≤ 400 ∧ (∀ j, j < m → T 23 j = nI (t j) ∧ t j ≤ 50) ∧ ∀ j, j < m → T 24 j = nI (D j) ∧ D j ≤ 400
theorem RwOk.keep {T T1 : tf_M} {m d : Nat} {t D : Nat → Nat} (h : RwOk T m d t D) (e : ∀ y, y ≠ 25 → T1 y = T y) : RwOk T1 m d t D := by
  unfold RwOk at h ⊢
  rw [e 21 (by decide), e 23 (by decide), e 24 (by decide)]
  exact h
theorem p64 {m P : Nat} (hm : m ≤ 6) (h : P < 2 ^ m) : P < 64 := Nat.lt_of_lt_of_le h (pow6le m (by omega))
theorem endL_nI {T : tf_M} {m d P : Nat} {t D : Nat → Nat} (h : RwOk T m d t D) (hm : m ≤ 6) (hP : P < 64) : ∀ k, k ≤ m → endL T (nI P) k = nI (eN d t P k) := by
  intro k
  induction k with
  | zero => intro _; exact h.1
  | succ k ih =>
    intro hk
    unfold endL eN
    rw [ih (by omega)]
    by_cases g : P.testBit k = true
    · rw [if_pos ((bit1_t (by omega) (by omega)).mpr g), if_pos g, (h.2.2.1 k (by omega)).1, nI_add]
    · rw [if_neg (fun q => g ((bit1_t (by omega) (by omega)).mp q)), if_neg g]
/-- how late, by the way of a set and one more -/
def lt1 (m d : Nat) (t D : Nat → Nat) (P q : Nat) : Nat := eN d t (P ||| 2 ^ q) m - D q
theorem lt1_le {T : tf_M} {m d P q : Nat} {t D : Nat → Nat} (h : RwOk T m d t D) (hm : m ≤ 6) : lt1 m d t D P q ≤ 700 := by
  have h1 := eN_le (d := d) (t := t) (P := P ||| 2 ^ q) m fun j hj => (h.2.2.1 j hj).2
  have h2 := h.2.1
  unfold lt1
  omega
theorem restW_nI {T : tf_M} {m d P q : Nat} {t D : Nat → Nat} (h : RwOk T m d t D) (hm : m ≤ 6) (hP : P < 2 ^ m) (hq : q < m) : restW T m (nI P) (nI q) = nI (lt1 m d t D P q) + T 25 (P ||| 2 ^ q) := by
  have h1 := or_lt hP hq
  have h2 := p64 hm h1
  have h3 := eN_le (d := d) (t := t) (P := P ||| 2 ^ q) m fun j hj => (h.2.2.1 j hj).2
  have h4 := h.2.1
  have h5 := h.2.2.2 q hq
  unfold restW
  rw [aftr_nI (by omega), if_pos ⟨isP_k hq (by omega), isP_k (n := 64) h2 (by decide)⟩, endL_nI h hm h2 m (Nat.le_refl _), nI_clamp (by omega), nI_clamp (by omega), h5.1, imax_nI (by omega) (by omega)]
  rfl
theorem best_ch {T : tf_M} {m P : Nat} (hP : P < 64) : ∀ k, k ≤ 6 → (bestN T m (nI P) k = -1 ∧ ∀ j, j < k → P.testBit j = true) ∨ ∃ j, j < k ∧ P.testBit j = false ∧ bestN T m (nI P) k = nI j ∧ ∀ i, i < k → P.testBit i = false → restW T m (nI P) (nI j) ≤ restW T m (nI P) (nI i) ∧ (i < j → restW T m (nI P) (nI j) < restW T m (nI P) (nI i)) := by
  intro k
  induction k with
  | zero => intro _; exact Or.inl ⟨rfl, fun j hj => absurd hj (Nat.not_lt_zero j)⟩
  | succ k ih =>
    intro hk
    have hb : (bit1 (nI P) k = 0) = (P.testBit k = false) := bit1_f (by omega) (by omega)
    rcases ih (by omega) with ⟨h1, h2⟩ | ⟨j, h1, h2, h3, h4⟩
    · by_cases g : P.testBit k = false
      · refine Or.inr ⟨k, by omega, g, ?_, fun i hi hc => ?_⟩
        · unfold bestN
          rw [if_pos ⟨hb.mpr g, Or.inl h1⟩]
        · by_cases e : i = k
          · subst e; exact ⟨Int32.le_refl _, fun q => absurd q (Nat.lt_irrefl _)⟩
          · rw [h2 i (by omega)] at hc; cases hc
      · refine Or.inl ⟨?_, fun j hj => ?_⟩
        · unfold bestN
          rw [if_neg (fun q => g (hb.mp q.1))]
          exact h1
        · by_cases e : j = k
          · subst e; simpa using g
          · exact h2 j (by omega)
    · have hne : ¬ bestN T m (nI P) k = -1 := by rw [h3]; exact nI_nm (by omega)
      by_cases g : P.testBit k = false ∧ restW T m (nI P) (nI k) < restW T m (nI P) (nI j)
      · refine Or.inr ⟨k, by omega, g.1, ?_, fun i hi hc => ?_⟩
        · unfold bestN
          rw [if_pos ⟨hb.mpr g.1, Or.inr (by rw [h3]; exact g.2)⟩]
        · by_cases e : i = k
          · subst e; exact ⟨Int32.le_refl _, fun q => absurd q (Nat.lt_irrefl _)⟩
          · have h5 := Int32.lt_of_lt_of_le g.2 (h4 i (by omega) hc).1
            exact ⟨Int32.le_of_lt h5, fun _ => h5⟩
      · refine Or.inr ⟨j, by omega, h2, ?_, fun i hi hc => ?_⟩
        · unfold bestN
          rw [if_neg (fun q => g ⟨hb.mp q.1, by have := q.2.resolve_left hne; rw [h3] at this; exact this⟩)]
          exact h3
        · by_cases e : i = k
          · subst e; exact ⟨Int32.not_lt.mp fun q => g ⟨hc, q⟩, fun q => by omega⟩
          · exact h4 i (by omega) hc
def GdAt (m d : Nat) (t D V : Nat → Nat) (P : Nat) : Prop := V P ≤ 700 * (2 ^ m - 1 - P) ∧ (nclr P m = 0 → V P = 0) ∧ (¬ nclr P m = 0 → ∃ b, b < m ∧ P.testBit b = false ∧ V P = lt1 m d t D P b + V (P ||| 2 ^ b)) ∧ ∀ i, i < m → P.testBit i = false → V P ≤ lt1 m d t D P i + V (P ||| 2 ^ i)
theorem GdAt.cg {m d P : Nat} {t D V V1 : Nat → Nat} (h : GdAt m d t D V P) (e : ∀ Q, P ≤ Q → V1 Q = V Q) : GdAt m d t D V1 P := by
  unfold GdAt at h ⊢
  have e2 : ∀ i, V1 (P ||| 2 ^ i) = V (P ||| 2 ^ i) := fun i => e _ Nat.left_le_or
  simp only [e P (Nat.le_refl _), e2]
  exact h
theorem or_gt {P q : Nat} (h : P.testBit q = false) : P < P ||| 2 ^ q := by
  rcases Nat.lt_or_ge P (P ||| 2 ^ q) with g | g
  · exact g
  · have e : P ||| 2 ^ q = P := Nat.le_antisymm g Nat.left_le_or
    have h2 := tb_or P q q
    rw [e, h, decide_eq_true rfl] at h2
    cases h2
theorem wg_one {T : tf_M} {m d k : Nat} {t D V : Nat → Nat} (h : RwOk T m d t D) (hm : m ≤ 6) (hk : k < 2 ^ m) (hV : ∀ Q, k < Q → Q < 2 ^ m → T 25 Q = nI (V Q) ∧ GdAt m d t D V Q) : ∃ V1 : Nat → Nat, ∀ Q, k ≤ Q → Q < 2 ^ m → wgStep T m k 25 Q = nI (V1 Q) ∧ GdAt m d t D V1 Q := by
  have h64 := p64 hm hk
  have hp6 := pow6le m (by omega)
  have hr : ∀ q, q < m → k.testBit q = false → restW T m (nI k) (nI q) = nI (lt1 m d t D k q + V (k ||| 2 ^ q)) ∧ lt1 m d t D k q + V (k ||| 2 ^ q) ≤ 700 * (2 ^ m - 1 - k) := fun q hq hc => by
    have h1 := or_lt hk hq
    have h2 := or_gt hc
    obtain ⟨h3, h4⟩ := hV _ h2 h1
    have h5 := lt1_le (P := k) (q := q) h hm
    refine ⟨by rw [restW_nI h hm hk hq, h3, nI_add], ?_⟩
    have h6 := h4.1
    omega
  have key : ∃ v : Nat, (if bestN T m (nI k) m = -1 then 0 else restW T m (nI k) (bestN T m (nI k) m)) = nI v ∧ v ≤ 700 * (2 ^ m - 1 - k) ∧ (nclr k m = 0 → v = 0) ∧ (¬ nclr k m = 0 → ∃ b, b < m ∧ k.testBit b = false ∧ v = lt1 m d t D k b + V (k ||| 2 ^ b)) ∧ ∀ i, i < m → k.testBit i = false → v ≤ lt1 m d t D k i + V (k ||| 2 ^ i) := by
    rcases best_ch (T := T) (m := m) h64 m hm with ⟨h1, h2⟩ | ⟨j, h1, h2, h3, h4⟩
    · rw [if_pos h1]
      refine ⟨0, rfl, Nat.zero_le _, fun _ => rfl, fun q => absurd (nclr_all h2) q, fun i hi hc => Nat.zero_le _⟩
    · rw [h3, if_neg (nI_nm (by omega))]
      obtain ⟨r1, r2⟩ := hr j h1 h2
      refine ⟨_, r1, r2, fun q => ?_, fun _ => ⟨j, h1, h2, rfl⟩, fun i hi hc => ?_⟩
      · rw [nclr_0 q j h1] at h2; cases h2
      · obtain ⟨r3, r4⟩ := hr i hi hc
        have h5 := (h4 i hi hc).1
        rw [r1, r3] at h5
        exact nI_ge' h5 (by omega)
  obtain ⟨v, k1, k2, k3, k4, k5⟩ := key
  have hlt : ∀ i, i < m → k.testBit i = false → ¬ (k ||| 2 ^ i) = k := fun i _ hc => by have := or_gt hc; omega
  obtain ⟨V1, e1, e2⟩ : ∃ V1 : Nat → Nat, V1 k = v ∧ ∀ Q, ¬ Q = k → V1 Q = V Q := ⟨fun Q => if Q = k then v else V Q, if_pos rfl, fun Q h => if_neg h⟩
  refine ⟨V1, fun Q h1 h2 => ?_⟩
  by_cases e : Q = k
  · subst e
    refine ⟨?_, ?_, ?_, ?_, ?_⟩
    · unfold wgStep
      rw [s2_eq, k1, e1]
    · rw [e1]; exact k2
    · intro q; rw [e1]; exact k3 q
    · intro q
      obtain ⟨b, b1, b2, b3⟩ := k4 q
      refine ⟨b, b1, b2, ?_⟩
      rw [e1, e2 _ (hlt b b1 b2)]; exact b3
    · intro i hi hc
      rw [e1, e2 _ (hlt i hi hc)]; exact k5 i hi hc
  · obtain ⟨h3, h4⟩ := hV Q (by omega) h2
    refine ⟨?_, h4.cg fun Q2 h5 => e2 Q2 (by omega)⟩
    unfold wgStep
    rw [s2_nk e, e2 Q e]
    exact h3
theorem wg_all {m d : Nat} {t D : Nat → Nat} (hm : m ≤ 6) : ∀ k, k ≤ 2 ^ m → ∀ (T : tf_M) (V : Nat → Nat), RwOk T m d t D → (∀ Q, k ≤ Q → Q < 2 ^ m → T 25 Q = nI (V Q) ∧ GdAt m d t D V Q) → ∃ V1 : Nat → Nat, ∀ Q, Q < 2 ^ m → wgAll m k T 25 Q = nI (V1 Q) ∧ GdAt m d t D V1 Q := by
  intro k
  induction k with
  | zero => intro _ T V _ hV; exact ⟨V, fun Q h => hV Q (Nat.zero_le _) h⟩
  | succ k ih =>
    intro hk T V h hV
    obtain ⟨V1, h1⟩ := wg_one h hm (show k < 2 ^ m by omega) fun Q h1 h2 => hV Q h1 h2
    exact ih (by omega) (wgStep T m k) V1 (h.keep fun y hy => by unfold wgStep; rw [s2_ne hy]) h1
/-- the table is the least, the choice the first that reaches it -/
theorem wg_dp {T : tf_M} {m d : Nat} {t D : Nat → Nat} (h : RwOk T m d t D) (hm : m ≤ 6) : ∃ V b : Nat → Nat, DpOk m (fun P => eN d t P m) D V b ∧ (∀ Q, Q < 2 ^ m → wgAll m (2 ^ m) T 25 Q = nI (V Q) ∧ V Q ≤ 44800) ∧ ∀ Q, Q < 2 ^ m → ¬ nclr Q m = 0 → bestN (wgAll m (2 ^ m) T) m (nI Q) m = nI (b Q) := by
  obtain ⟨V, hV⟩ := wg_all (d := d) (t := t) (D := D) hm (2 ^ m) (Nat.le_refl _) T (fun _ => 0) h (fun Q h1 h2 => by omega)
  have h9 : RwOk (wgAll m (2 ^ m) T) m d t D := h.keep fun y hy => wgAll_ne hy _ _
  have h64 := pow6le m (by omega)
  have hr : ∀ P q, P < 2 ^ m → q < m → restW (wgAll m (2 ^ m) T) m (nI P) (nI q) = nI (lt1 m d t D P q + V (P ||| 2 ^ q)) ∧ lt1 m d t D P q + V (P ||| 2 ^ q) < 2 ^ 31 := fun P q hP hq => by
    have h1 := or_lt hP hq
    obtain ⟨h3, h4⟩ := hV _ h1
    have h5 := lt1_le (P := P) (q := q) h hm
    have h6 := h4.1
    exact ⟨by rw [restW_nI h9 hm hP hq, h3, nI_add], by omega⟩
  refine ⟨V, fun P => (bestN (wgAll m (2 ^ m) T) m (nI P) m).toNatClampNeg, ⟨fun P hP hc => (hV P hP).2.2.1 hc, fun P hP hc => ?_, fun P hP i hi hc => ⟨(hV P hP).2.2.2.2 i hi hc, fun hl => ?_⟩⟩, fun Q hQ => ⟨(hV Q hQ).1, by have := (hV Q hQ).2.1; omega⟩, fun Q hQ hc => ?_⟩
  · rcases best_ch (T := wgAll m (2 ^ m) T) (m := m) (p64 hm hP) m hm with ⟨h1, h2⟩ | ⟨j, h1, h2, h3, h4⟩
    · exact absurd (nclr_all h2) hc
    · dsimp only
      rw [h3, nI_clamp (by omega)]
      refine ⟨h1, h2, ?_⟩
      obtain ⟨b, b1, b2, b3⟩ := (hV P hP).2.2.2.1 hc
      have h5 := (hV P hP).2.2.2.2 j h1 h2
      have h6 := (h4 b b1 b2).1
      obtain ⟨r1, r2⟩ := hr P j hP h1
      obtain ⟨r3, r4⟩ := hr P b hP b1
      rw [r1, r3] at h6
      have h7 := nI_ge' h6 r2
      unfold lt1 at *
      omega
  · rcases best_ch (T := wgAll m (2 ^ m) T) (m := m) (p64 hm hP) m hm with ⟨h1, h2⟩ | ⟨j, h1, h2, h3, h4⟩
    · rw [h2 i hi] at hc; cases hc
    · dsimp only at hl
      rw [h3, nI_clamp (by omega)] at hl
      have h5 := (hV P hP).2.2.2.2 j h1 h2
      have h6 := (h4 i hi hc).2 hl
      obtain ⟨r1, r2⟩ := hr P j hP h1
      obtain ⟨r3, r4⟩ := hr P i hP hi
      rw [r1, r3] at h6
      have h7 := nI_lt2 h6 r2
      show V P < lt1 m d t D P i + V (P ||| 2 ^ i)
      omega
  · rcases best_ch (T := wgAll m (2 ^ m) T) (m := m) (p64 hm hQ) m hm with ⟨h1, h2⟩ | ⟨j, h1, h2, h3, h4⟩
    · exact absurd (nclr_all h2) hc
    · dsimp only
      rw [h3, nI_clamp (by omega)]
theorem ip_ok {T : tf_M} {m : Nat} {E D V b : Nat → Nat} (H : DpOk m E D V b) (hm : m ≤ 6) (hb : ∀ Q, Q < 2 ^ m → ¬ nclr Q m = 0 → bestN T m (nI Q) m = nI (b Q)) : ∀ j, j < m → ipL T m j = (nI (pthN b j), nI (b (pthN b j))) := by
  intro j
  induction j with
  | zero =>
    intro hj
    obtain ⟨h1, h2, _⟩ := pth_ok H 0 (by omega)
    unfold ipL
    exact Prod.ext rfl (hb _ h1 (fun q => by have := h2.symm.trans q; omega))
  | succ j ih =>
    intro hj
    obtain ⟨h1, h2, _⟩ := pth_ok H j (by omega)
    obtain ⟨g1, g2, _⟩ := pth_ok H (j + 1) (by omega)
    obtain ⟨b1, _, _⟩ := H.2.1 _ h1 (by omega)
    have i1 := ih (by omega)
    unfold ipL
    rw [i1, if_neg (nI_nm (by omega)), aftr_nI (by omega)]
    exact Prod.ext rfl (hb _ g1 (fun q => by have := g2.symm.trans q; omega))
