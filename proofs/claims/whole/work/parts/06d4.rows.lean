/-! the rows of the reference -/
def uN (f : Nat → Nat) (m X : Nat) : Nat → Nat
  | 0 => 0
  | c + 1 => uN f m X c ||| 2 ^ f (dg m X c)
theorem lsU_nI {F : Nat → Int32} {f : Nat → Nat} {m X : Nat} (hF : ∀ j, j < m → F j = nI (f j) ∧ f j < 12) : ∀ c, c ≤ m → lsU F m X c = nI (uN f m X c) := by
  intro c
  induction c with
  | zero => intro _; rfl
  | succ c ih =>
    intro hc
    obtain ⟨h1, h2⟩ := hF _ (dg_lt (X := X) (c := c) (show 0 < m by omega))
    unfold lsU uN
    rw [ih (by omega), show F (X / m ^ c % m) = nI (f (dg m X c)) from h1, pow_nI _ h2, or_nI]
theorem uN_tb {f : Nat → Nat} {m X q : Nat} : ∀ c, (uN f m X c).testBit q = true ↔ ∃ i, i < c ∧ f (dg m X i) = q := by
  intro c
  induction c with
  | zero =>
    unfold uN
    rw [Nat.zero_testBit]
    exact ⟨fun h => (by cases h), fun ⟨i, hi, _⟩ => absurd hi (Nat.not_lt_zero i)⟩
  | succ c ih =>
    unfold uN
    rw [tb_or, Bool.or_eq_true, ih]
    constructor
    · rintro (⟨i, hi, he⟩ | h)
      · exact ⟨i, by omega, he⟩
      · exact ⟨c, by omega, of_decide_eq_true h⟩
    · rintro ⟨i, hi, he⟩
      by_cases e : i = c
      · subst e; exact Or.inr (decide_eq_true he)
      · exact Or.inl ⟨i, by omega, he⟩
theorem uN_lt {f : Nat → Nat} {m X : Nat} (hf : ∀ j, j < m → f j < 12) : ∀ c, c ≤ m → uN f m X c < 2 ^ 12 := by
  intro c
  induction c with
  | zero => intro _; exact Nat.two_pow_pos 12
  | succ c ih => intro hc; exact or_lt (ih (by omega)) (hf _ (dg_lt (by omega)))
theorem lsU_iff {F : Nat → Int32} {f : Nat → Nat} {m s X : Nat} (hF : ∀ j, j < m → F j = nI (f j) ∧ f j < 12) (hs : s < 4096) (hb : ∀ q, s.testBit q = true ↔ ∃ j, j < m ∧ f j = q) (hi : ∀ i j, i < m → j < m → f i = f j → i = j) : lsU F m X m = nI s ↔ vldN m m 0 X := by
  have hu := uN_lt (X := X) (fun j hj => (hF j hj).2) m (Nat.le_refl _)
  rw [lsU_nI hF m (Nat.le_refl _), vld_iff m 0 (Nat.le_refl _) (Nat.two_pow_pos m) (nclr_zero m)]
  constructor
  · intro h j hj _
    have h2 := nI_inj h (by omega) (by omega)
    have h3 := (hb (f j)).mpr ⟨j, hj, rfl⟩
    rw [← h2] at h3
    obtain ⟨i, h4, h5⟩ := (uN_tb m).mp h3
    exact ⟨i, h4, hi _ _ (dg_lt (by omega)) hj h5⟩
  · intro h
    apply congrArg
    apply Nat.eq_of_testBit_eq
    intro q
    apply Bool.eq_iff_iff.mpr
    rw [uN_tb, hb]
    constructor
    · rintro ⟨i, h4, h5⟩
      exact ⟨_, dg_lt (by omega), h5⟩
    · rintro ⟨j, h4, h5⟩
      obtain ⟨i, h6, h7⟩ := h j h4 (Nat.zero_testBit j)
      exact ⟨i, h6, by rw [h7]; exact h5⟩
def ReOk (U : tf_M) (a : Int32) (F : Nat → Int32) (m d : Nat) (t D : Nat → Nat) : Prop := U 30 3 = nI d ∧ d ≤ 400 ∧ ∀ j, j < m → dtp (U 43 (F j).toNatClampNeg) (U 32 a.toNatClampNeg) = nI (t j) ∧ t j ≤ 50 ∧ U 50 (F j).toNatClampNeg = nI (D j) ∧ D j ≤ 400
theorem lsE_ok {U : tf_M} {a : Int32} {F : Nat → Int32} {m d X : Nat} {t D : Nat → Nat} (h : ReOk U a F m d t D) (hm : m ≤ 6) (hv : vldN m m 0 X) : ∀ i, i ≤ m → ∃ P sm : Nat, P < 2 ^ m ∧ nclr P m = m - i ∧ vldN m (m - i) P X ∧ (lsE U a (lsRw F m X) i).1 = nI (eN d t P m) ∧ (lsE U a (lsRw F m X) i).2 = nI sm ∧ sm + costN m (fun P => eN d t P m) D (m - i) P X = costN m (fun P => eN d t P m) D m 0 X ∧ sm ≤ 700 * i := by
  intro i
  induction i with
  | zero => intro _; exact ⟨0, 0, Nat.two_pow_pos m, nclr_zero m, hv, by rw [eN_0]; exact h.1, rfl, Nat.zero_add _, Nat.zero_le _⟩
  | succ i ih =>
    intro hi
    obtain ⟨P, sm, h1, h2, h3, h4, h5, h6, h7⟩ := ih (by omega)
    have e : m - i = (m - 1 - i) + 1 := by omega
    rw [e] at h3 h6
    obtain ⟨v1, v2⟩ := h3
    have hq := dg_lt (X := X) (c := m - 1 - i) (show 0 < m by omega)
    obtain ⟨r1, r2, r3, r4⟩ := h.2.2 _ hq
    have n1 := nclr_or (P := P) (q := dg m X (m - 1 - i)) m
    rw [if_pos ⟨hq, v1⟩] at n1
    have en := eN_or (d := d) (t := t) v1 m
    rw [if_pos hq] at en
    have el := eN_le (d := d) (t := t) (P := P ||| 2 ^ dg m X (m - 1 - i)) m fun j hj => (h.2.2 j hj).2.1
    have hd := h.2.1
    have e2 : m - (i + 1) = m - 1 - i := by omega
    have hw : lsRw F m X i = F (dg m X (m - 1 - i)) := rfl
    have he1 : (lsE U a (lsRw F m X) i).1 + dtp (U 43 (lsRw F m X i).toNatClampNeg) (U 32 a.toNatClampNeg) = nI (eN d t (P ||| 2 ^ dg m X (m - 1 - i)) m) := by
      rw [h4, hw, r1, nI_add, en]
    refine ⟨P ||| 2 ^ dg m X (m - 1 - i), sm + (eN d t (P ||| 2 ^ dg m X (m - 1 - i)) m - D (dg m X (m - 1 - i))), or_lt h1 hq, by omega, by rw [e2]; exact v2, he1, ?_, ?_, by omega⟩
    · unfold lsE
      dsimp only
      rw [he1, h5, hw, r3, imax_nI (by omega) (by omega), nI_add]
    · rw [e2, ← h6, costN, Nat.add_assoc]
theorem lsE_cost {U : tf_M} {a : Int32} {F : Nat → Int32} {m d X : Nat} {t D : Nat → Nat} (h : ReOk U a F m d t D) (hm : m ≤ 6) (hv : vldN m m 0 X) : (lsE U a (lsRw F m X) m).2 = nI (costN m (fun P => eN d t P m) D m 0 X) ∧ costN m (fun P => eN d t P m) D m 0 X ≤ 4200 := by
  obtain ⟨P, sm, h1, h2, h3, h4, h5, h6, h7⟩ := lsE_ok h hm hv m (Nat.le_refl _)
  rw [Nat.sub_self] at h6
  rw [costN, Nat.add_zero] at h6
  rw [← h6]
  exact ⟨h5, by omega⟩
theorem lsB_ok {U : tf_M} {a x : Int32} {F : Nat → Int32} {m d : Nat} {t D : Nat → Nat} (h : ReOk U a F m d t D) (hm : m ≤ 6) (hx : ∀ X, lsU F m X m = x ↔ vldN m m 0 X) : ∀ K, ((lsB U a x F m K).1 = -1 ∧ ∀ X, X < K → ¬ vldN m m 0 X) ∨ ∃ X0, X0 < K ∧ vldN m m 0 X0 ∧ (lsB U a x F m K).1 = nI (costN m (fun P => eN d t P m) D m 0 X0) ∧ (∀ j, j < m → (lsB U a x F m K).2 j = lsRw F m X0 j) ∧ ∀ X, X < K → vldN m m 0 X → costN m (fun P => eN d t P m) D m 0 X0 ≤ costN m (fun P => eN d t P m) D m 0 X ∧ (X < X0 → costN m (fun P => eN d t P m) D m 0 X0 < costN m (fun P => eN d t P m) D m 0 X) := by
  intro K
  induction K with
  | zero => exact Or.inl ⟨rfl, fun X hX => absurd hX (Nat.not_lt_zero X)⟩
  | succ K ih =>
    unfold lsB
    by_cases hv : vldN m m 0 K
    · obtain ⟨c1, c2⟩ := lsE_cost h hm hv
      rcases ih with ⟨h1, h2⟩ | ⟨X0, h1, h2, h3, h4, h5⟩
      · rw [if_pos ⟨(hx K).mpr hv, Or.inl h1⟩]
        refine Or.inr ⟨K, by omega, hv, c1, fun j hj => if_pos hj, fun X hX hvX => ?_⟩
        by_cases e : X = K
        · subst e; exact ⟨Nat.le_refl _, fun q => absurd q (Nat.lt_irrefl _)⟩
        · exact absurd hvX (h2 X (by omega))
      · obtain ⟨c3, c4⟩ := lsE_cost h hm h2
        by_cases g : costN m (fun P => eN d t P m) D m 0 K < costN m (fun P => eN d t P m) D m 0 X0
        · rw [if_pos ⟨(hx K).mpr hv, Or.inr (by rw [c1, h3]; exact nI_lt g (by omega))⟩]
          refine Or.inr ⟨K, by omega, hv, c1, fun j hj => if_pos hj, fun X hX hvX => ?_⟩
          by_cases e : X = K
          · subst e; exact ⟨Nat.le_refl _, fun q => absurd q (Nat.lt_irrefl _)⟩
          · have h6 := (h5 X (by omega) hvX).1
            exact ⟨by omega, fun _ => by omega⟩
        · rw [if_neg (fun q => by
            rcases q.2 with q2 | q2
            · rw [h3] at q2; exact nI_nm (by omega) q2
            · rw [c1, h3] at q2; exact g (nI_lt2 q2 (by omega)))]
          refine Or.inr ⟨X0, by omega, h2, h3, h4, fun X hX hvX => ?_⟩
          by_cases e : X = K
          · subst e; exact ⟨by omega, fun q => by omega⟩
          · exact h5 X (by omega) hvX
    · rw [if_neg (fun q => hv ((hx K).mp q.1))]
      rcases ih with ⟨h1, h2⟩ | ⟨X0, h1, h2, h3, h4, h5⟩
      · refine Or.inl ⟨h1, fun X hX => ?_⟩
        by_cases e : X = K
        · subst e; exact hv
        · exact h2 X (by omega)
      · refine Or.inr ⟨X0, by omega, h2, h3, h4, fun X hX hvX => ?_⟩
        by_cases e : X = K
        · subst e; exact absurd hvX hv
        · exact h5 X (by omega) hvX
/-- what both find: the first of the least -/
theorem lsB_grd {U : tf_M} {a x : Int32} {F : Nat → Int32} {m d : Nat} {t D V b : Nat → Nat} (h : ReOk U a F m d t D) (hm : m ≤ 6) (hx : ∀ X, lsU F m X m = x ↔ vldN m m 0 X) (H : DpOk m (fun P => eN d t P m) D V b) : (lsB U a x F m (m ^ m)).1 = nI (V 0) ∧ ∀ j, j < m → (lsB U a x F m (m ^ m)).2 j = F (b (pthN b j)) := by
  have h0 := Nat.two_pow_pos m
  obtain ⟨g1, g2⟩ := grd_B H m 0 h0 (nclr_zero m)
  have g3 := grd_lt H m 0 h0 (nclr_zero m)
  rcases lsB_ok h hm hx (m ^ m) with ⟨h1, h2⟩ | ⟨X0, h1, h2, h3, h4, h5⟩
  · exact absurd g1 (h2 _ g3)
  · obtain ⟨k1, k2⟩ := h5 _ g3 g1
    have k3 : V 0 ≤ costN m (fun P => eN d t P m) D m 0 X0 ∧ (V 0 = costN m (fun P => eN d t P m) D m 0 X0 → grdN m b m 0 ≤ X0) := by
      rcases Nat.eq_zero_or_pos m with e | e
      · subst e
        rw [g2] at k1
        exact ⟨by rw [H.1 0 h0 rfl]; exact Nat.zero_le _, fun _ => Nat.zero_le _⟩
      · have k4 := vld_A H e m 0 X0 h0 (nclr_zero m) h2
        rw [Nat.mod_eq_of_lt h1] at k4
        exact k4
    have k5 : V 0 = costN m (fun P => eN d t P m) D m 0 X0 := by omega
    have k6 := k3.2 k5
    have k7 : X0 = grdN m b m 0 := by
      rcases Nat.lt_or_ge (grdN m b m 0) X0 with q | q
      · have := k2 q; omega
      · omega
    refine ⟨by rw [h3, k5], fun j hj => ?_⟩
    rw [h4 j hj, k7]
    show F (dg m (grdN m b m 0) (m - 1 - j)) = _
    rw [pth_dg H hj]
