/-! least of both sides -/
theorem dtp_le {p q : Nat} (hp : 1 ≤ p) (hp2 : p ≤ 50) (hq : 1 ≤ q) (hq2 : q ≤ 60) : ∃ v : Nat, dtp (nI p) (nI q) = nI v ∧ v ≤ 50 := by
  refine ⟨(p + q - 1) / q, ?_, ?_⟩
  · unfold dtp
    rw [if_pos (show (1 : Int32) ≤ nI q from nI_le (a := 1) hq (by omega)), nI_add, nI_sub1 (by omega), pk_div (by omega) (by omega) (by omega)]
  · refine Nat.le_trans ?_ hp2
    refine Nat.div_le_of_le_mul ?_
    have h1 : q * p = (q - 1) * p + p := by
      have := Nat.succ_mul (q - 1) p
      rw [show (q - 1).succ = q by omega] at this
      exact this
    have h2 : (q - 1) * 1 ≤ (q - 1) * p := Nat.mul_le_mul_left _ hp
    omega
theorem ls_gd {nR n t nk k d : Nat} {S u : tf_M} (I : Iv nR n t nk k d S) {x a : Int32} (hu : u 30 = S 30) : lsG S x a = true ↔ mLsG u nR n x a := by
  have hn := I.1.2.2.1
  have hR := I.1.1
  unfold lsG hasAllB mLsG
  rw [Bool.and_eq_true, Bool.and_eq_true, decide_eq_true_iff, decide_eq_true_iff, I.2.1.i16, hu, I.2.1.i17, gd_x hn, gd_y hn, I.2.1.i1, nI_sub1 (by omega)]
  have hc : ∀ s : Nat, s < 2 ^ n → (bcF (nI s) ≤ 6 ↔ cntB (nI s) n ≤ 6) := fun s hs => by
    have h1 := cnt_hi hn hs (12 - n) (by omega)
    rw [show n + (12 - n) = 12 by omega] at h1
    have h2 := cnt_le (x := nI s) n
    rw [bc_ok s (p12 hn hs), h1]
    exact nI_leI (b := 6) (by omega) (by decide)
  constructor
  · rintro ⟨⟨⟨s, hs, rfl⟩, h6⟩, hp⟩
    exact ⟨⟨s, hs, rfl⟩, hp, (hc s hs).mp h6⟩
  · rintro ⟨⟨s, hs, rfl⟩, hp, h6⟩
    exact ⟨⟨⟨s, hs, rfl⟩, (hc s hs).mpr h6⟩, hp⟩
theorem ls_eq {nR n t nk k d : Nat} {S u : tf_M} (I : Iv nR n t nk k d S) {x a kk : Int32} (hu : ∀ y, 30 ≤ y → y < 100 → u y = S y) (hg : mLsG u nR n x a) : lsR S x a n kk = mLsR u n x a kk := by
  have hn := I.1.2.2.1
  have hR := I.1.1
  have hR12 := I.1.2.1
  have hd := I.1.2.2.2.2.2.2
  obtain ⟨hx, hp, hm⟩ := hg
  rw [hu 30 (by decide) (by decide), I.2.1.i17, gd_y hn] at hx
  obtain ⟨s, hs, rfl⟩ := hx
  have hs12 := p12 hn hs
  obtain ⟨ha, _⟩ := isP_nat hp (by omega)
  obtain ⟨lb, l1, l2, l3⟩ := I.2.1.i5 a.toNatClampNeg (by omega)
  obtain ⟨m, em⟩ : ∃ m, m = cntB (nI s) n := ⟨_, rfl⟩
  obtain ⟨f, ef⟩ : ∃ f, f = selB (nI s) n := ⟨_, rfl⟩
  have hf : ∀ j, j < m → f j < n ∧ bit1 (nI s) (f j) = 1 ∧ cntB (nI s) (f j) = j := fun j hj => by rw [ef]; exact sel_ok n j (em ▸ hj)
  have hT : ∀ j, j < m → dtp (S 43 (f j)) (S 32 a.toNatClampNeg) = nI (dtp (S 43 (f j)) (S 32 a.toNatClampNeg)).toNatClampNeg ∧ (dtp (S 43 (f j)) (S 32 a.toNatClampNeg)).toNatClampNeg ≤ 50 := fun j hj => by
    obtain ⟨bo, b1, b2, b3⟩ := (I.2.2.1.1 _ (hf j hj).1).qbo
    obtain ⟨v, v1, v2⟩ := dtp_le b1 b2 l1 l2
    rw [b3, l3, v1, nI_clamp (by omega)]
    exact ⟨rfl, v2⟩
  have hD : ∀ j, j < m → S 50 (f j) = nI (S 50 (f j)).toNatClampNeg ∧ (S 50 (f j)).toNatClampNeg ≤ 400 := fun j hj => by
    obtain ⟨e, e1, e2⟩ := (I.2.2.1.1 _ (hf j hj).1).qdu
    rw [e2, nI_clamp (by omega)]
    exact ⟨rfl, e1⟩
  have hrw : RwOk (s2 (scAll S (nI s) a n).1 21 5 ((scAll S (nI s) a n).1 0 7)) m d (fun j => (dtp (S 43 (f j)) (S 32 a.toNatClampNeg)).toNatClampNeg) (fun j => (S 50 (f j)).toNatClampNeg) := by
    refine ⟨?_, hd, fun j hj => ⟨?_, (hT j hj).2⟩, fun j hj => ⟨?_, (hD j hj).2⟩⟩
    · rw [s2_eq, (scAll_ok n).2.2 0 (by decide)]; exact I.2.1.i14
    · rw [s2_ne (by decide), (scAll_sel n j (em ▸ hj)).2.1, ← ef, (I.2.2.1.1 _ (hf j hj).1).q1, I.2.1.i4 _ (by omega)]
      exact (hT j hj).1
    · rw [s2_ne (by decide), (scAll_sel n j (em ▸ hj)).2.2, ← ef, (I.2.2.1.1 _ (hf j hj).1).q10]
      exact (hD j hj).1
  have hm6 : m ≤ 6 := by rw [em]; exact hm
  obtain ⟨V, b, H, hV, hb⟩ := wg_dp hrw hm6
  have eS : lsS S (nI s) a n = wgAll m (2 ^ m) (s2 (scAll S (nI s) a n).1 21 5 ((scAll S (nI s) a n).1 0 7)) := by rw [em]; rfl
  have hF : ∀ j, j < m → fwS u (nI s) n 72 j = nI (f j) := fun j hj => by rw [ef]; exact fwS_sel n j (em ▸ hj)
  have hre : ReOk u a (fwS u (nI s) n 72) m d (fun j => (dtp (S 43 (f j)) (S 32 a.toNatClampNeg)).toNatClampNeg) (fun j => (S 50 (f j)).toNatClampNeg) := by
    refine ⟨by rw [hu 30 (by decide) (by decide)]; exact I.2.1.i15, hd, fun j hj => ?_⟩
    have h1 := (hf j hj).1
    rw [hF j hj, nI_clamp (by omega), hu 43 (by decide) (by decide), hu 32 (by decide) (by decide), hu 50 (by decide) (by decide)]
    exact ⟨(hT j hj).1, (hT j hj).2, (hD j hj).1, (hD j hj).2⟩
  have hbits : ∀ q, s.testBit q = true ↔ ∃ j, j < m ∧ f j = q := fun q => by
    constructor
    · intro hq
      have hqn : q < n := by
        rcases Nat.lt_or_ge q n with g | g
        · exact g
        · rw [Nat.testBit_lt_two_pow (Nat.lt_of_lt_of_le hs (Nat.pow_le_pow_right (by decide) g))] at hq
          cases hq
      obtain ⟨h1, h2⟩ := sel_on (x := nI s) n q hqn ((bit1_t (by omega) (by omega)).mpr hq)
      exact ⟨_, by rw [em]; exact h1, by rw [ef]; exact h2⟩
    · rintro ⟨j, hj, rfl⟩
      obtain ⟨h1, h2, _⟩ := hf j hj
      exact (bit1_t (by omega) (by omega)).mp h2
  have hlu : ∀ X, lsU (fwS u (nI s) n 72) m X m = nI s ↔ vldN m m 0 X := fun X => lsU_iff (f := f) (fun j hj => ⟨hF j hj, by have := (hf j hj).1; omega⟩) hs12 hbits (fun i j hi hj he => by rw [← (hf i hi).2.2, ← (hf j hj).2.2, he])
  obtain ⟨g1, g2⟩ := lsB_grd hre hm6 hlu H
  unfold lsR mLsR
  rw [← em, eS]
  by_cases hk : kk = -1
  · rw [if_pos hk, if_pos hk, g1]
    exact (hV 0 (Nat.two_pow_pos m)).1
  · rw [if_neg hk, if_neg hk]
    unfold inPl
    by_cases hpk : isP kk (nI m) = true
    · obtain ⟨k1, k2⟩ := isP_nat hpk (by omega)
      obtain ⟨p1, p2, _⟩ := pth_ok H kk.toNatClampNeg (by omega)
      obtain ⟨b1, _, _⟩ := H.2.1 _ p1 (by omega)
      rw [if_pos hpk, if_pos hpk, ip_ok H hm6 hb _ k1, if_pos (isP_k b1 (by omega)), nI_clamp (by omega), wgAll_ne (by decide), s2_ne (by decide), g2 _ k1, hF _ b1, ef]
      exact (scAll_sel n _ (em ▸ b1)).1
    · rw [if_neg hpk, if_neg hpk]
theorem sw_least {nR n t nk k d : Nat} {S : tf_M} (I : Iv nR n t nk k d S) {x a kk z y : Int32} {u w : tf_M} (hx : z = (if lsG S x a = true then lsR S x a n kk else -1) ∧ u = if lsG S x a = true then lsS S x a n else S) (hy : (mLsG u nR n x a → y = mLsR u n x a kk) ∧ (¬ mLsG u nR n x a → y = -1) ∧ lsK u w) : z = y ∧ ∃ nk1 k1 d1, Iv nR n t nk1 k1 d1 w := by
  obtain ⟨hz, hu⟩ := hx
  obtain ⟨hy1, hy2, hw⟩ := hy
  have hmid := mid_least hu
  have hgd := ls_gd (u := u) I (x := x) (a := a) (hmid 30 (by decide) (by decide))
  constructor
  · by_cases hg : lsG S x a = true
    · rw [hz, if_pos hg, hy1 (hgd.mp hg)]
      exact ls_eq I hmid (hgd.mp hg)
    · rw [hz, if_neg hg, hy2 (fun h => hg (hgd.mpr h))]
  · refine ⟨nk, k, d, I.keep fun r hr => ?_⟩
    rw [hw r (by omega) (by omega) (by omega), hu]
    split
    · exact lsS_ne (by omega)
    · rfl
