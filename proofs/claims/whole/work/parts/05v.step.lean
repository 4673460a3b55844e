/-! one day: class state A, reference state B -/
def QD (nR i : Nat) (A B : tf_M) : Prop := (A (100 + i) 0 = B 42 i) ∧ (A (100 + i) 1 = B 43 i) ∧ (A (100 + i) 2 = B 44 i) ∧ (A (100 + i) 3 = B 46 i) ∧ (A (100 + i) 6 = B 47 i) ∧ (A (100 + i) 7 = B 48 i) ∧ (A (100 + i) 8 = B 45 i) ∧ (A (100 + i) 9 = B 49 i) ∧ (A (100 + i) 10 = B 50 i) ∧ (A (100 + i) 11 = B 51 i) ∧ (∀ r, r < nR → A (200 + i) r = B 52 (12 * i + r)) ∧ (∀ c, c < 4 → A (300 + i) c = B 53 (5 * i + c + 1)) ∧ (∃ r, r < nR ∧ B 47 i = nI r ∧ (B 48 i = -1 ↔ r < nR - 1)) ∧ (∃ b : Nat, 1 ≤ b ∧ b ≤ 50 ∧ B 43 i = nI b) ∧ (∃ e : Nat, e ≤ 400 ∧ B 50 i = nI e) ∧ (B 48 i = -1 ∨ ∃ e : Nat, e ≤ 400 ∧ B 48 i = nI e) ∧ (∃ c : Nat, c ≤ 5 ∧ B 42 i = nI c)
theorem QD.q0 {nR i : Nat} {A B : tf_M} (h : QD nR i A B) : A (100 + i) 0 = B 42 i := h.1
theorem QD.q1 {nR i : Nat} {A B : tf_M} (h : QD nR i A B) : A (100 + i) 1 = B 43 i := h.2.1
theorem QD.q2 {nR i : Nat} {A B : tf_M} (h : QD nR i A B) : A (100 + i) 2 = B 44 i := h.2.2.1
theorem QD.q3 {nR i : Nat} {A B : tf_M} (h : QD nR i A B) : A (100 + i) 3 = B 46 i := h.2.2.2.1
theorem QD.q6 {nR i : Nat} {A B : tf_M} (h : QD nR i A B) : A (100 + i) 6 = B 47 i := h.2.2.2.2.1
theorem QD.q7 {nR i : Nat} {A B : tf_M} (h : QD nR i A B) : A (100 + i) 7 = B 48 i := h.2.2.2.2.2.1
theorem QD.q8 {nR i : Nat} {A B : tf_M} (h : QD nR i A B) : A (100 + i) 8 = B 45 i := h.2.2.2.2.2.2.1
theorem QD.q9 {nR i : Nat} {A B : tf_M} (h : QD nR i A B) : A (100 + i) 9 = B 49 i := h.2.2.2.2.2.2.2.1
theorem QD.q10 {nR i : Nat} {A B : tf_M} (h : QD nR i A B) : A (100 + i) 10 = B 50 i := h.2.2.2.2.2.2.2.2.1
theorem QD.q11 {nR i : Nat} {A B : tf_M} (h : QD nR i A B) : A (100 + i) 11 = B 51 i := h.2.2.2.2.2.2.2.2.2.1
theorem QD.qd {nR i : Nat} {A B : tf_M} (h : QD nR i A B) : ∀ r, r < nR → A (200 + i) r = B 52 (12 * i + r) := h.2.2.2.2.2.2.2.2.2.2.1
theorem QD.qb {nR i : Nat} {A B : tf_M} (h : QD nR i A B) : ∀ c, c < 4 → A (300 + i) c = B 53 (5 * i + c + 1) := h.2.2.2.2.2.2.2.2.2.2.2.1
theorem QD.qat {nR i : Nat} {A B : tf_M} (h : QD nR i A B) : ∃ r, r < nR ∧ B 47 i = nI r ∧ (B 48 i = -1 ↔ r < nR - 1) := h.2.2.2.2.2.2.2.2.2.2.2.2.1
theorem QD.qbo {nR i : Nat} {A B : tf_M} (h : QD nR i A B) : ∃ b : Nat, 1 ≤ b ∧ b ≤ 50 ∧ B 43 i = nI b := h.2.2.2.2.2.2.2.2.2.2.2.2.2.1
theorem QD.qdu {nR i : Nat} {A B : tf_M} (h : QD nR i A B) : ∃ e : Nat, e ≤ 400 ∧ B 50 i = nI e := h.2.2.2.2.2.2.2.2.2.2.2.2.2.2.1
theorem QD.qc {nR i : Nat} {A B : tf_M} (h : QD nR i A B) : B 48 i = -1 ∨ ∃ e : Nat, e ≤ 400 ∧ B 48 i = nI e := h.2.2.2.2.2.2.2.2.2.2.2.2.2.2.2.1
theorem QD.qco {nR i : Nat} {A B : tf_M} (h : QD nR i A B) : ∃ c : Nat, c ≤ 5 ∧ B 42 i = nI c := h.2.2.2.2.2.2.2.2.2.2.2.2.2.2.2.2
def DR (nR n d : Nat) (A B : tf_M) : Prop := A 2 = B 31 ∧ (∀ l, l < 11 → A 3 l = B 32 l) ∧ A 1 0 = nI nR ∧ A 0 7 = nI d ∧ B 30 3 = nI d ∧ (∀ e : Nat, e ≤ 400 → (A 1 7 ≤ nI e ↔ B 30 6 ≤ nI e)) ∧ A 1 8 = B 30 7 ∧ ∀ i, i < n → QD nR i A B
theorem QD.same {nR i : Nat} {A B A1 B1 : tf_M} (hR : nR ≤ 12) (a1 : A1 (100 + i) = A (100 + i)) (a2 : A1 (200 + i) = A (200 + i)) (a3 : A1 (300 + i) = A (300 + i)) (h4 : ∀ y, 42 ≤ y → y ≤ 51 → B1 y i = B y i) (h5 : ∀ r, r < 12 → B1 52 (12 * i + r) = B 52 (12 * i + r)) (h6 : ∀ c, c < 4 → B1 53 (5 * i + c + 1) = B 53 (5 * i + c + 1)) (I : QD nR i A B) : QD nR i A1 B1 := by
  unfold QD
  rw [a1, a2, a3, h4 42 (by decide) (by decide), h4 43 (by decide) (by decide), h4 44 (by decide) (by decide), h4 45 (by decide) (by decide), h4 46 (by decide) (by decide), h4 47 (by decide) (by decide), h4 48 (by decide) (by decide), h4 49 (by decide) (by decide), h4 50 (by decide) (by decide), h4 51 (by decide) (by decide)]
  exact ⟨I.q0, I.q1, I.q2, I.q3, I.q6, I.q7, I.q8, I.q9, I.q10, I.q11, fun r hr => by rw [h5 r (by omega)]; exact I.qd r hr, fun c hc => by rw [h6 c hc]; exact I.qb c hc, I.qat, I.qbo, I.qdu, I.qc, I.qco⟩
theorem dr_icy {nR n d : Nat} {A B : tf_M} (hd : d ≤ 400) (D : DR nR n d A B) (x : Int32) : icy (A 1 7) (A 1 8) x (A 0 7) = icy (B 30 6) (B 30 7) x (B 30 3) := by
  obtain ⟨-, -, -, h7, h3, hi, h8, -⟩ := D
  unfold icy
  rw [h7, h3, h8, show decide (A 1 7 ≤ nI d) = decide (B 30 6 ≤ nI d) from decide_eq_decide.mpr (hi d hd)]
theorem dr_bar {nR n d l j : Nat} {A B : tf_M} {bl ss : Int32} (hR : nR ≤ 12) (hd : d ≤ 400) (D : DR nR n d A B) (hj : j < n) (hl : l + 1 < nR) (hat : B 47 j = nI l) : barOf A (100 + j) bl ss = mBar B l j bl ss := by
  have hi := dr_icy hd D
  obtain ⟨h2, h3, h1, -, -, -, -, hq⟩ := D
  have Q := hq j hj
  unfold barOf mBar
  rw [Q.q6, hat, hi, hi, Q.q1, Q.q11]
  have ht : tooLow A (nI l + 1) (B 43 j) = decide (B 31 (l + 1) < 20 + B 43 j) := by
    unfold tooLow
    rw [h1, ← nI_succ, isP_k hl (by omega), nI_clamp (by omega), h2]
    rfl
  rw [ht]
  by_cases c : B 31 (l + 1) < 20 + B 43 j
  · rw [decide_eq_true c, if_pos rfl, if_pos c]
  · rw [decide_eq_false c, if_neg (show ¬ (false = true) by decide), if_neg c]
theorem mBar_4 {Z : tf_M} {k j : Nat} {lf w : Int32} (h : ¬ mBar Z k j lf w = 0) : ∃ c : Nat, c < 4 ∧ mBar Z k j lf w = nI (c + 1) := by
  unfold mBar at h ⊢
  split
  · exact ⟨0, by decide, rfl⟩
  · split
    · exact ⟨1, by decide, rfl⟩
    · split
      · exact ⟨2, by decide, rfl⟩
      · split
        · exact ⟨3, by decide, rfl⟩
        · rename_i h1 h2 h3 h4
          rw [if_neg h1, if_neg h2, if_neg h3, if_neg h4] at h
          exact absurd rfl h
/-- the water after b boats went up through lock l -/
def thF (f : Nat → Int32) (l : Nat) (b : Int32) : Nat → Int32 := upd (upd f (l + 1) (f (l + 1) - b)) l (imin 1000 (upd f (l + 1) (f (l + 1) - b) l + b))
theorem lkThru_2 {S : tf_M} {l : Nat} {b : Int32} (hl : l < 100) : lkThru S 2 (nI l) b 2 = thF (S 2) l b := by
  unfold lkThru thF
  rw [← nI_succ, nI_clamp (by omega), nI_clamp (by omega)]
  rfl
set_option maxHeartbeats 2000000 in
theorem dr_step {nR n d l j : Nat} {A B : tf_M} {bl ss : Int32} (hR3 : 3 ≤ nR) (hR : nR ≤ 12) (hn : n ≤ 12) (hd : d ≤ 400) (D : DR nR n d A B) (hj : j < n) (hl : l + 1 < nR) (hat : B 47 j = nI l) (hw : A (100 + j) 9 = 0) : (wkStep nR (nI l) (100 + j) (A, bl, ss)).2.1 = (opStep nR B l bl ss j).2.1 ∧ (wkStep nR (nI l) (100 + j) (A, bl, ss)).2.2 = (opStep nR B l bl ss j).2.2 ∧ DR nR n d (wkStep nR (nI l) (100 + j) (A, bl, ss)).1 (opStep nR B l bl ss j).1 ∧ (∀ i, i ≠ j → i < n → (wkStep nR (nI l) (100 + j) (A, bl, ss)).1 (100 + i) = A (100 + i)) ∧ (∀ i, i ≠ j → (opStep nR B l bl ss j).1 47 i = B 47 i) ∧ ((opStep nR B l bl ss j).1 47 j = nI l ∨ (opStep nR B l bl ss j).1 47 j = nI (l + 1)) := by
  have hb := dr_bar (bl := bl) (ss := ss) hR hd D hj hl hat
  have D0 := D
  obtain ⟨h2, h3, h1, h07, h303, hic, h18, hq⟩ := D
  have Q := hq j hj
  have q6 : A (100 + j) 6 = nI l := Q.q6.trans hat
  obtain ⟨r0, hr0, hr1, hr2⟩ := Q.qat
  have er : r0 = l := nI_inj (hr1.symm.trans hat) (by omega) (by omega)
  rw [er] at hr2
  have hc : B 48 j = -1 := hr2.mpr (by omega)
  have hpl : isP (nI l) (nI nR - 1) = true := by rw [nI_sub1 (by omega)]; exact isP_k (by omega) (by omega)
  have hlc : (nI nR - 1 ≤ nI (l + 1)) ↔ l + 1 = nR - 1 := by
    rw [nI_sub1 (by omega)]
    refine ⟨fun h => ?_, fun h => by rw [h]; exact Int32.le_refl _⟩
    have := nI_ge' h (by omega)
    omega
  have hlc2 : (nI l + 1 = nI nR - 1) ↔ l + 1 = nR - 1 := by
    rw [← nI_succ, nI_sub1 (by omega)]
    exact ⟨fun h => nI_inj h (by omega) (by omega), fun h => by rw [h]⟩
  unfold wkStep
  simp only [if_pos q6, h1, if_pos hpl, hb]
  unfold opStep
  by_cases hz : mBar B l j bl ss = 0
  · simp only [if_pos hz]
    refine ⟨by rw [Q.q1], (by first | trivial | rfl), ?_⟩
    -- the rows
    have ha : ∀ x, x ≠ 2 → x ≠ 100 + j → sqMove nR (lkThru A 2 (nI l) (A (100 + j) 1)) (100 + j) (lkThru A 2 (nI l) (A (100 + j) 1) 0 7) x = A x := fun x g1 g2 => by rw [sqMove_ne g2, lkThru_ne g1]
    have ha2 : sqMove nR (lkThru A 2 (nI l) (A (100 + j) 1)) (100 + j) (lkThru A 2 (nI l) (A (100 + j) 1) 0 7) 2 = thF (B 31) l (B 43 j) := by
      rw [sqMove_ne (by omega), lkThru_2 (by omega), h2, Q.q1]
    have hao : ∀ y, sqMove nR (lkThru A 2 (nI l) (A (100 + j) 1)) (100 + j) (lkThru A 2 (nI l) (A (100 + j) 1) 0 7) (100 + j) y = if y = 6 then nI (l + 1) else if y = 7 then (if l + 1 = nR - 1 then nI d else -1) else A (100 + j) y := fun y => by
      have e0 : lkThru A 2 (nI l) (A (100 + j) 1) (100 + j) = A (100 + j) := lkThru_ne (by omega)
      have e7 : lkThru A 2 (nI l) (A (100 + j) 1) 0 7 = nI d := by rw [lkThru_ne (by decide)]; exact h07
      unfold sqMove
      rw [s2_eq, e7, e0, q6, ← nI_succ]
      by_cases g : l + 1 = nR - 1
      · rw [if_pos (hlc.mpr g), if_pos g]
        rw [s2_at, s2_at, e0]
        by_cases y7 : y = 7
        · rw [if_pos y7, if_neg (by omega), if_pos y7]
        · rw [if_neg y7]
          by_cases y6 : y = 6
          · rw [if_pos y6, if_pos y6]
          · rw [if_neg y6, if_neg y6, if_neg y7]
      · rw [if_neg (fun q => g (hlc.mp q)), if_neg g]
        rw [s2_at, e0]
        by_cases y6 : y = 6
        · rw [if_pos y6, if_pos y6]
        · rw [if_neg y6, if_neg y6]
          by_cases y7 : y = 7
          · rw [if_pos y7, y7, Q.q7, hc]
          · rw [if_neg y7]
    generalize sqMove nR (lkThru A 2 (nI l) (A (100 + j) 1)) (100 + j) (lkThru A 2 (nI l) (A (100 + j) 1) 0 7) = A1 at ha ha2 hao ⊢
    have hbr : ∀ x, x ≠ 71 → x ≠ 49 → x ≠ 31 → x ≠ 47 → x ≠ 48 → (if nI l + 1 = nI nR - 1 then s2 (mThru B l j 0) 48 j (B 30 3) else mThru B l j 0) x = B x := fun x g1 g2 g3 g4 g5 => by
      have e : mThru B l j 0 x = B x := by unfold mThru mWhy; rw [s2_ne g4, s2_ne g3, s2_ne g3, s2_ne g2, s2_ne g1]
      split
      · rw [s2_ne g5, e]
      · exact e
    have hb31 : (if nI l + 1 = nI nR - 1 then s2 (mThru B l j 0) 48 j (B 30 3) else mThru B l j 0) 31 = thF (B 31) l (B 43 j) := by
      have e : mThru B l j 0 31 = thF (B 31) l (B 43 j) := rfl
      split
      · rw [s2_ne (by decide), e]
      · exact e
    have hb47 : ∀ i, (if nI l + 1 = nI nR - 1 then s2 (mThru B l j 0) 48 j (B 30 3) else mThru B l j 0) 47 i = if i = j then nI (l + 1) else B 47 i := fun i => by
      have e : mThru B l j 0 47 i = if i = j then nI (l + 1) else B 47 i := by
        unfold mThru mWhy
        rw [s2_at, nI_succ, s2_ne (by decide), s2_ne (by decide), s2_ne (by decide), s2_ne (by decide)]
      split
      · rw [s2_ne (by decide), e]
      · exact e
    have hb49 : ∀ i, (if nI l + 1 = nI nR - 1 then s2 (mThru B l j 0) 48 j (B 30 3) else mThru B l j 0) 49 i = if i = j then 0 else B 49 i := fun i => by
      have e : mThru B l j 0 49 i = if i = j then 0 else B 49 i := by
        unfold mThru mWhy
        rw [s2_ne (by decide), s2_ne (by decide), s2_ne (by decide), s2_at, s2_ne (by decide)]
      split
      · rw [s2_ne (by decide), e]
      · exact e
    have hb48 : ∀ i, (if nI l + 1 = nI nR - 1 then s2 (mThru B l j 0) 48 j (B 30 3) else mThru B l j 0) 48 i = if i = j then (if l + 1 = nR - 1 then nI d else -1) else B 48 i := fun i => by
      have e : mThru B l j 0 48 = B 48 := by unfold mThru mWhy; rw [s2_ne (by decide), s2_ne (by decide), s2_ne (by decide), s2_ne (by decide), s2_ne (by decide)]
      by_cases g : l + 1 = nR - 1
      · rw [if_pos (hlc2.mpr g), if_pos g, s2_at, h303, e]
      · rw [if_neg (fun q => g (hlc2.mp q)), if_neg g, e]
        by_cases ei : i = j
        · rw [if_pos ei, ei, hc]
        · rw [if_neg ei]
    generalize (if nI l + 1 = nI nR - 1 then s2 (mThru B l j 0) 48 j (B 30 3) else mThru B l j 0) = B1 at hbr hb31 hb47 hb49 hb48 ⊢
    refine ⟨⟨ha2.trans hb31.symm, fun x hx => by rw [ha 3 (by decide) (by omega), hbr 32 (by decide) (by decide) (by decide) (by decide) (by decide)]; exact h3 x hx, by rw [ha 1 (by decide) (by omega)]; exact h1, by rw [ha 0 (by decide) (by omega)]; exact h07, by rw [hbr 30 (by decide) (by decide) (by decide) (by decide) (by decide)]; exact h303, by rw [ha 1 (by decide) (by omega), hbr 30 (by decide) (by decide) (by decide) (by decide) (by decide)]; exact hic, by rw [ha 1 (by decide) (by omega), hbr 30 (by decide) (by decide) (by decide) (by decide) (by decide)]; exact h18, fun i hi => ?_⟩, fun i hi hi2 => ha _ (by omega) (by omega), fun i hi => by rw [hb47, if_neg hi], Or.inr (by rw [hb47, if_pos rfl])⟩
    have z52 := hbr 52 (by decide) (by decide) (by decide) (by decide) (by decide)
    have z53 := hbr 53 (by decide) (by decide) (by decide) (by decide) (by decide)
    by_cases e : i = j
    · subst e
      unfold QD
      rw [ha (200 + i) (by omega) (by omega), ha (300 + i) (by omega) (by omega), hbr 42 (by decide) (by decide) (by decide) (by decide) (by decide), hbr 43 (by decide) (by decide) (by decide) (by decide) (by decide), hbr 44 (by decide) (by decide) (by decide) (by decide) (by decide), hbr 45 (by decide) (by decide) (by decide) (by decide) (by decide), hbr 46 (by decide) (by decide) (by decide) (by decide) (by decide), hbr 50 (by decide) (by decide) (by decide) (by decide) (by decide), hbr 51 (by decide) (by decide) (by decide) (by decide) (by decide), z52, z53]
      simp only [hao, hb47, hb48, hb49, if_pos]
      refine ⟨Q.q0, Q.q1, Q.q2, Q.q3, (by first | trivial | rfl), (by first | trivial | rfl), Q.q8, hw, Q.q10, Q.q11, Q.qd, Q.qb, ⟨l + 1, hl, rfl, ?_⟩, Q.qbo, Q.qdu, ?_, Q.qco⟩
      · by_cases g : l + 1 = nR - 1
        · rw [if_pos g]
          exact ⟨fun q => absurd q (nI_nm (by omega)), fun q => by omega⟩
        · rw [if_neg g]
          exact ⟨fun _ => by omega, fun _ => rfl⟩
      · by_cases g : l + 1 = nR - 1
        · rw [if_pos g]; exact Or.inr ⟨d, hd, rfl⟩
        · rw [if_neg g]; exact Or.inl rfl
    · refine (hq i hi).same hR (ha _ (by omega) (by omega)) (ha _ (by omega) (by omega)) (ha _ (by omega) (by omega)) (fun y g1 g2 => ?_) (fun r _ => by rw [z52]) (fun c _ => by rw [z53])
      rcases (show y = 47 ∨ y = 48 ∨ y = 49 ∨ (y ≠ 47 ∧ y ≠ 48 ∧ y ≠ 49) by omega) with rfl | rfl | rfl | ⟨g3, g4, g5⟩
      · rw [hb47, if_neg e]
      · rw [hb48, if_neg e]
      · rw [hb49, if_neg e]
      · rw [hbr y (by omega) g5 (by omega) g3 g4]
  · simp only [if_neg hz]
    obtain ⟨c, hc4, hcv⟩ := mBar_4 hz
    rw [hcv]
    refine ⟨(by first | trivial | rfl), (by first | trivial | rfl), ?_⟩
    have e1 : nI (c + 1) - 1 = nI c := nI_pred c
    have e2 : (nI (c + 1)).toNatClampNeg = c + 1 := nI_clamp (by omega)
    have hst : sqStay A (100 + j) (100 + j + 200) (nI (c + 1)) = s2 (s2 A (100 + j) 9 (nI (c + 1))) (100 + j + 200) c (A (100 + j + 200) c + 1) := by
      unfold sqStay
      rw [e1, if_pos (show isP (nI c) 4 = true from isP_k (n := 4) hc4 (by decide)), nI_clamp (by omega), s2_ne (show 100 + j + 200 ≠ 100 + j by omega)]
    rw [hst, e2, show 100 + j + 200 = 300 + j by omega]
    have ha : ∀ x, x ≠ 100 + j → x ≠ 300 + j → s2 (s2 A (100 + j) 9 (nI (c + 1))) (300 + j) c (A (300 + j) c + 1) x = A x := fun x g1 g2 => by rw [s2_ne g2, s2_ne g1]
    have hao : ∀ y, s2 (s2 A (100 + j) 9 (nI (c + 1))) (300 + j) c (A (300 + j) c + 1) (100 + j) y = if y = 9 then nI (c + 1) else A (100 + j) y := fun y => by rw [s2_ne (by omega), s2_at]
    have hab : ∀ y, s2 (s2 A (100 + j) 9 (nI (c + 1))) (300 + j) c (A (300 + j) c + 1) (300 + j) y = if y = c then A (300 + j) c + 1 else A (300 + j) y := fun y => by rw [s2_at, s2_ne (by omega)]
    generalize s2 (s2 A (100 + j) 9 (nI (c + 1))) (300 + j) c (A (300 + j) c + 1) = A1 at ha hao hab ⊢
    have hbr : ∀ x, x ≠ 71 → x ≠ 49 → x ≠ 53 → s2 (mWhy B j (nI (c + 1))) 53 (5 * j + (c + 1)) (B 53 (5 * j + (c + 1)) + 1) x = B x := fun x g1 g2 g3 => by unfold mWhy; rw [s2_ne g3, s2_ne g2, s2_ne g1]
    have hb49 : ∀ i, s2 (mWhy B j (nI (c + 1))) 53 (5 * j + (c + 1)) (B 53 (5 * j + (c + 1)) + 1) 49 i = if i = j then nI (c + 1) else B 49 i := fun i => by unfold mWhy; rw [s2_ne (by decide), s2_at, s2_ne (by decide)]
    have hb53 : ∀ i, s2 (mWhy B j (nI (c + 1))) 53 (5 * j + (c + 1)) (B 53 (5 * j + (c + 1)) + 1) 53 i = if i = 5 * j + (c + 1) then B 53 (5 * j + (c + 1)) + 1 else B 53 i := fun i => by unfold mWhy; rw [s2_at, s2_ne (by decide), s2_ne (by decide)]
    generalize s2 (mWhy B j (nI (c + 1))) 53 (5 * j + (c + 1)) (B 53 (5 * j + (c + 1)) + 1) = B1 at hbr hb49 hb53 ⊢
    have z47 := hbr 47 (by decide) (by decide) (by decide)
    refine ⟨⟨by rw [ha 2 (by omega) (by omega), hbr 31 (by decide) (by decide) (by decide)]; exact h2, fun x hx => by rw [ha 3 (by omega) (by omega), hbr 32 (by decide) (by decide) (by decide)]; exact h3 x hx, by rw [ha 1 (by omega) (by omega)]; exact h1, by rw [ha 0 (by omega) (by omega)]; exact h07, by rw [hbr 30 (by decide) (by decide) (by decide)]; exact h303, by rw [ha 1 (by omega) (by omega), hbr 30 (by decide) (by decide) (by decide)]; exact hic, by rw [ha 1 (by omega) (by omega), hbr 30 (by decide) (by decide) (by decide)]; exact h18, fun i hi => ?_⟩, fun i hi hi2 => ha _ (by omega) (by omega), fun i hi => by rw [z47], Or.inl (by rw [z47]; exact hat)⟩
    have z52 := hbr 52 (by decide) (by decide) (by decide)
    by_cases e : i = j
    · subst e
      unfold QD
      rw [ha (200 + i) (by omega) (by omega), hbr 42 (by decide) (by decide) (by decide), hbr 43 (by decide) (by decide) (by decide), hbr 44 (by decide) (by decide) (by decide), hbr 45 (by decide) (by decide) (by decide), hbr 46 (by decide) (by decide) (by decide), hbr 48 (by decide) (by decide) (by decide), hbr 50 (by decide) (by decide) (by decide), hbr 51 (by decide) (by decide) (by decide), z52, z47]
      simp only [hao, hab, hb49, hb53, if_pos]
      refine ⟨Q.q0, Q.q1, Q.q2, Q.q3, Q.q6, Q.q7, Q.q8, (by first | trivial | rfl), Q.q10, Q.q11, Q.qd, fun c' hc' => ?_, Q.qat, Q.qbo, Q.qdu, Q.qc, Q.qco⟩
      by_cases ec : c' = c
      · rw [if_pos ec, if_pos (by omega), ← Nat.add_assoc, Q.qb c hc4]
      · rw [if_neg ec, if_neg (by omega), Q.qb c' hc']
    · refine (hq i hi).same hR (ha _ (by omega) (by omega)) (ha _ (by omega) (by omega)) (ha _ (by omega) (by omega)) (fun y g1 g2 => ?_) (fun r _ => by rw [z52]) (fun c' _ => by rw [hb53, if_neg (by omega)])
      by_cases g3 : y = 49
      · rw [g3, hb49, if_neg e]
      · rw [hbr y (by omega) g3 (by omega)]
