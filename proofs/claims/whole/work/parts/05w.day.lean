/-! a lock's day, all locks, the day -/
theorem goneS_71 {S : tf_M} {k : Nat} : ∀ m i, i < m → goneS S k m 71 i = if S 47 i = nI k then 0 else 1 := by
  intro m
  induction m with
  | zero => intro i hi; exact absurd hi (Nat.not_lt_zero i)
  | succ m ih =>
    intro i hi
    unfold goneS
    rw [s2_at]
    by_cases e : i = m
    · rw [if_pos e, e]
    · rw [if_neg e]; exact ih i (by omega)
theorem DR.keepB {nR n d : Nat} {A B B1 : tf_M} (hR : nR ≤ 12) (h : ∀ x, x ≠ 71 → B1 x = B x) (D : DR nR n d A B) : DR nR n d A B1 := by
  obtain ⟨h2, h3, h1, h07, h303, hic, h18, hq⟩ := D
  refine ⟨h2.trans (h 31 (by decide)).symm, fun l hl => by rw [h 32 (by decide)]; exact h3 l hl, h1, h07, by rw [h 30 (by decide)]; exact h303, by rw [h 30 (by decide)]; exact hic, by rw [h 30 (by decide)]; exact h18, fun i hi => (hq i hi).same hR rfl rfl rfl (fun y _ _ => by rw [h y (by omega)]) (fun r _ => by rw [h 52 (by decide)]) (fun c _ => by rw [h 53 (by decide)])⟩
theorem QD.keys {nR i : Nat} {A B : tf_M} (Q : QD nR i A B) : (∃ c : Nat, c ≤ 5 ∧ B 42 i = nI c) ∧ ∃ b : Nat, b ≤ 50 ∧ B 43 i = nI b := by
  obtain ⟨b, _, hb, hb2⟩ := Q.qbo
  exact ⟨Q.qco, b, hb, hb2⟩
set_option maxHeartbeats 1000000 in
theorem dr_lock {nR n d l t : Nat} {A0 B0 : tf_M} {q : Int32} {L : Nat → Nat} (hR3 : 3 ≤ nR) (hR : nR ≤ 12) (hn : n ≤ 12) (hd : d ≤ 400) (D : DR nR n d A0 B0) (hl : l + 1 < nR) (hq : q = mTells B0 t (B0 30 3) 0 0 2) (hL : LnS (kyO B0 q) n L) (h9 : ∀ p, p < n → A0 9 p = nI (L p)) (hw : ∀ s, s < n → (∃ r, r ≤ l ∧ B0 47 s = nI r) → A0 (100 + s) 9 = 0) : DR nR n d (wkAll nR A0 (nI l) n).1 (mOpen nR n t B0 l) ∧ ∀ s, s < n → (∃ r, r < l ∧ mOpen nR n t B0 l 47 s = nI r) → (wkAll nR A0 (nI l) n).1 (100 + s) 9 = 0 := by
  obtain ⟨l1, l2, l3⟩ := hL
  have key : ∀ p, p ≤ n → ∃ (f : Nat) (B : tf_M) (lf w : Int32), opL nR n q l (ngo (goneS B0 l n) n + 1) (goneS B0 l n) (B0 32 l) 0 = opL nR n q l f B lf w ∧ ngo B n + 1 ≤ f ∧ DR nR n d (wkAll nR A0 (nI l) p).1 B ∧ (wkAll nR A0 (nI l) p).2.1 = lf ∧ (wkAll nR A0 (nI l) p).2.2 = w ∧ (∀ s, s < n → (B 71 s = 0 ↔ (B 47 s = nI l ∧ ∀ p', p' < p → L p' ≠ s))) ∧ (∀ s, s < n → (∀ p', p' < p → L p' ≠ s) → B 47 s = B0 47 s ∧ (wkAll nR A0 (nI l) p).1 (100 + s) = A0 (100 + s)) ∧ (∀ x, opKeep x → B x = B0 x) ∧ (∀ s, s < n → (∃ r, r < l ∧ B 47 s = nI r) → (wkAll nR A0 (nI l) p).1 (100 + s) 9 = 0) := by
    intro p
    induction p with
    | zero =>
      intro _
      have hg : ∀ x, x ≠ 71 → goneS B0 l n x = B0 x := fun x hx => goneS_ne hx n
      refine ⟨_, goneS B0 l n, B0 32 l, 0, rfl, Nat.le_refl _, D.keepB hR hg, ?_, rfl, fun s hs => ?_, fun s hs _ => ⟨by rw [hg 47 (by decide)], rfl⟩, fun x hx => hg x hx.1, fun s hs h => ?_⟩
      · show boatsOfL A0 (nI l) = B0 32 l
        unfold boatsOfL
        rw [D.2.2.1, nI_sub1 (by omega), if_pos (isP_k (by omega) (by omega)), nI_clamp (by omega)]
        exact D.2.1 l (by omega)
      · rw [goneS_71 n s hs, hg 47 (by decide)]
        by_cases e : B0 47 s = nI l
        · rw [if_pos e]
          exact ⟨fun _ => ⟨e, fun p' hp' => absurd hp' (Nat.not_lt_zero p')⟩, fun _ => rfl⟩
        · rw [if_neg e]
          exact ⟨fun g => absurd g (by decide), fun g => absurd g.1 e⟩
      · obtain ⟨r, hr, hr2⟩ := h
        rw [hg 47 (by decide)] at hr2
        exact hw s hs ⟨r, by omega, hr2⟩
    | succ p ih =>
      intro hp
      obtain ⟨f, B, lf, w, k1, k2, k3, k4, k5, k6, k7, k8, k9⟩ := ih (by omega)
      have hs := l1 p (by omega)
      have hcl : (A0 9 p).toNatClampNeg = L p := by rw [h9 p (by omega)]; exact nI_clamp (by omega)
      have hun : ∀ p', p' < p → L p' ≠ L p := fun p' hp' e => by
        have := l2 p' p hp' (by omega)
        rw [e] at this
        unfold bef at this
        omega
      have hz : wkAll nR A0 (nI l) (p + 1) = wkStep nR (nI l) (100 + L p) ((wkAll nR A0 (nI l) p).1, (wkAll nR A0 (nI l) p).2.1, (wkAll nR A0 (nI l) p).2.2) := by
        show wkStep nR (nI l) (100 + (A0 9 p).toNatClampNeg) (wkAll nR A0 (nI l) p) = _
        rw [hcl]
      have Q := k3.2.2.2.2.2.2.2 _ hs
      by_cases hat : B 47 (L p) = nI l
      · have h71 : B 71 (L p) = 0 := (k6 _ hs).mpr ⟨hat, hun⟩
        have hky : kyO B q = kyO B0 q := by
          funext i
          unfold kyO
          rw [k8 42 (by unfold opKeep; decide), k8 43 (by unfold opKeep; decide)]
        have hbest := mNext_best (B := B) (q := q) (ky := kyO B q) hn (fun i j hi hj => mAhead_ky (k3.2.2.2.2.2.2.2 i hi).keys (k3.2.2.2.2.2.2.2 j hj).keys) n (Nat.le_refl n)
        have hm : mNext B q n = nI (L p) := by
          rcases hbest with ⟨g1, g2⟩ | ⟨s, hs2, g1, g2, g3⟩
          · exact absurd h71 (g2 _ hs)
          · by_cases e : s = L p
            · rw [← e]; exact g1
            · exfalso
              obtain ⟨-, g5⟩ := (k6 s hs2).mp g2
              obtain ⟨ps, hps, hps2⟩ := l3 s hs2
              have h6 : ¬ ps < p := fun g => g5 ps g hps2
              have h7 : ps ≠ p := fun g => e (by rw [← hps2, g])
              have h8 := l2 p ps (by omega) hps
              rw [hps2] at h8
              have h10 := g3 (L p) hs h71 (Ne.symm e)
              rw [hky] at h10
              unfold bef at h8 h10
              omega
        have hun7 := k7 _ hs hun
        have hst := dr_step (bl := lf) (ss := w) hR3 hR hn hd k3 hs hl hat (by rw [hun7.2]; exact hw _ hs ⟨l, Nat.le_refl l, by rw [← hun7.1]; exact hat⟩)
        rw [hz, k4, k5]
        obtain ⟨s1, s2', s3, s4, s5, s6⟩ := hst
        obtain ⟨f', rfl⟩ : ∃ f', f = f' + 1 := ⟨f - 1, by omega⟩
        have h71' : ∀ i, (opStep nR B l lf w (L p)).1 71 i = if i = L p then 1 else B 71 i := fun i => by rw [opStep_71, s2_at]
        have hng := ngo_put (Z := B) (Z1 := (opStep nR B l lf w (L p)).1) hs h71 (by rw [h71', if_pos rfl]) (fun i hi => by rw [h71', if_neg hi])
        refine ⟨f', (opStep nR B l lf w (L p)).1, (opStep nR B l lf w (L p)).2.1, (opStep nR B l lf w (L p)).2.2, ?_, by omega, s3, s1, s2', fun s hs2 => ?_, fun s hs2 hun2 => ?_, fun x hx => (opStep_ne hx).trans (k8 x hx), fun s hs2 h => ?_⟩
        · rw [k1, opL, hm, if_neg (nI_nm (by omega)), nI_clamp (by omega)]
        · rw [h71']
          by_cases e : s = L p
          · rw [if_pos e]
            exact ⟨fun g => absurd g (by decide), fun g => absurd e.symm (g.2 p (by omega))⟩
          · rw [if_neg e, s5 s e]
            refine (k6 s hs2).trans ⟨fun g => ⟨g.1, fun p' hp' => ?_⟩, fun g => ⟨g.1, fun p' hp' => g.2 p' (by omega)⟩⟩
            by_cases ep : p' = p
            · rw [ep]; exact Ne.symm e
            · exact g.2 p' (by omega)
        · have e : s ≠ L p := Ne.symm (hun2 p (by omega))
          obtain ⟨g1, g2⟩ := k7 s hs2 fun p' hp' => hun2 p' (by omega)
          exact ⟨(s5 s e).trans g1, (s4 s e hs2).trans g2⟩
        · obtain ⟨r, hr, hr2⟩ := h
          by_cases e : s = L p
          · exfalso
            rw [e] at hr2
            rcases s6 with g | g
            · have := nI_inj (g.symm.trans hr2) (by omega) (by omega); omega
            · have := nI_inj (g.symm.trans hr2) (by omega) (by omega); omega
          · rw [s4 s e hs2]
            exact k9 s hs2 ⟨r, hr, (s5 s e).symm.trans hr2⟩
      · have hno : wkAll nR A0 (nI l) (p + 1) = wkAll nR A0 (nI l) p := by
          rw [hz]
          unfold wkStep
          rw [if_neg (show ¬ (wkAll nR A0 (nI l) p).1 (100 + L p) 6 = nI l by rw [Q.q6]; exact hat)]
        rw [hno]
        refine ⟨f, B, lf, w, k1, k2, k3, k4, k5, fun s hs2 => ?_, fun s hs2 hun2 => k7 s hs2 fun p' hp' => hun2 p' (by omega), k8, k9⟩
        refine (k6 s hs2).trans ⟨fun g => ⟨g.1, fun p' hp' => ?_⟩, fun g => ⟨g.1, fun p' hp' => g.2 p' (by omega)⟩⟩
        by_cases ep : p' = p
        · rw [ep]; exact fun e => hat (by rw [e]; exact g.1)
        · exact g.2 p' (by omega)
  obtain ⟨f, B, lf, w, k1, k2, k3, k4, k5, k6, k7, k8, k9⟩ := key n (Nat.le_refl n)
  have hbest := mNext_best (B := B) (q := q) (ky := kyO B q) hn (fun i j hi hj => mAhead_ky (k3.2.2.2.2.2.2.2 i hi).keys (k3.2.2.2.2.2.2.2 j hj).keys) n (Nat.le_refl n)
  have hm : mNext B q n = -1 := by
    rcases hbest with ⟨g1, -⟩ | ⟨s, hs, g1, g2, -⟩
    · exact g1
    · obtain ⟨-, g5⟩ := (k6 s hs).mp g2
      obtain ⟨ps, hps, hps2⟩ := l3 s hs
      exact absurd hps2 (g5 ps hps)
  have hop : mOpen nR n t B0 l = B := by
    unfold mOpen
    rw [← hq, k1]
    obtain ⟨f', rfl⟩ : ∃ f', f = f' + 1 := ⟨f - 1, by omega⟩
    rw [opL, if_pos hm]
  rw [hop]
  exact ⟨k3, k9⟩
theorem inF_keep {S S1 : tf_M} {day : Int32} (h : S1 65 = S 65) : ∀ k, inF S1 day k = inF S day k := by
  intro k
  induction k with
  | zero => rfl
  | succ k ih => unfold inF; rw [h, ih]
theorem mTells_keep {S S1 : tf_M} {t : Nat} {day a r wo : Int32} (h : ∀ x, 64 ≤ x → x ≤ 68 → S1 x = S x) : mTells S1 t day a r wo = mTells S t day a r wo := by
  unfold mTells
  rw [inF_keep (h 65 (by decide) (by decide)), h 64 (by decide) (by decide), tellV_keep _ fun j _ => by rw [h 66 (by decide) (by decide), h 67 (by decide) (by decide), h 68 (by decide) (by decide)]; exact ⟨rfl, rfl, rfl⟩]
theorem opK {x : Nat} (h : x ≤ 30 ∨ (32 ≤ x ∧ x ≤ 46) ∨ x = 50 ∨ x = 51 ∨ x = 52 ∨ (54 ≤ x ∧ x ≤ 70) ∨ 72 ≤ x) : opKeep x := by unfold opKeep; omega
theorem dr_locks {nR n d t : Nat} {q : Int32} {L : Nat → Nat} (hR3 : 3 ≤ nR) (hR : nR ≤ 12) (hn : n ≤ 12) (hd : d ≤ 400) : ∀ (k : Nat) (A B : tf_M), k + 1 ≤ nR → DR nR n d A B → q = mTells B t (B 30 3) 0 0 2 → LnS (kyO B q) n L → (∀ p, p < n → A 9 p = nI (L p)) → (∀ s, s < n → (∃ r, r < k ∧ B 47 s = nI r) → A (100 + s) 9 = 0) → DR nR n d (wkDn nR n k A) (mWkDn nR n t k B) := by
  intro k
  induction k with
  | zero => intro A B _ D _ _ _ _; exact D
  | succ k ih =>
    intro A B hk D hq hL h9 hw
    obtain ⟨g1, g2⟩ := dr_lock (t := t) hR3 hR hn hd D (show k + 1 < nR by omega) hq hL h9 (fun s hs h => hw s hs (by obtain ⟨r, hr, hr2⟩ := h; exact ⟨r, by omega, hr2⟩))
    have hln : LnOk A n n := fun p hp => ⟨L p, hL.1 p hp, h9 p hp⟩
    have hB : ∀ x, opKeep x → mOpen nR n t B k x = B x := fun x hx => mOpen_ne hx
    have hky : kyO (mOpen nR n t B k) q = kyO B q := by
      funext i
      unfold kyO
      rw [hB 42 (opK (by omega)), hB 43 (opK (by omega))]
    refine ih _ _ (by omega) g1 ?_ (by rw [hky]; exact hL) (fun p hp => ?_) g2
    · rw [mTells_keep (fun x h1 h2 => hB x (opK (by omega))), hB 30 (opK (by omega))]; exact hq
    · rw [wkAll_ne (show wkKeep 9 by unfold wkKeep; decide) hln hn n (Nat.le_refl n)]; exact h9 p hp
theorem wkDn_ne {nR n x : Nat} (hx : wkKeep x) (hx9 : wkKeep 9) (hn : n ≤ 12) : ∀ (k : Nat) (A : tf_M), LnOk A n n → wkDn nR n k A x = A x := by
  intro k
  induction k with
  | zero => intro A _; rfl
  | succ k ih =>
    intro A hl
    have h1 := wkAll_ne (nR := nR) (a := nI k) hx hl hn n (Nat.le_refl n)
    have h9 := wkAll_ne (nR := nR) (a := nI k) hx9 hl hn n (Nat.le_refl n)
    unfold wkDn
    rw [ih _ (fun p hp => by rw [h9]; exact hl p hp), h1]
theorem mWkDn_ne {nR n t x : Nat} (h : opKeep x) : ∀ (k : Nat) (B : tf_M), mWkDn nR n t k B x = B x := by
  intro k
  induction k with
  | zero => intro B; rfl
  | succ k ih => intro B; unfold mWkDn; rw [ih, mOpen_ne h]
/-- lakes give alike -/
theorem dr_lakes {A B : tf_M} (h2 : A 2 = B 31) (h5 : A 5 = B 40) (h6 : A 6 = B 41) (h4 : A 4 = B 39) : ∀ k, lkAll A 2 5 6 4 k 2 = lkAll B 31 40 41 39 k 31 ∧ lkAll A 2 5 6 4 k 5 = lkAll B 31 40 41 39 k 40 := by
  intro k
  induction k with
  | zero => exact ⟨h2, h5⟩
  | succ k ih =>
    obtain ⟨g2, g5⟩ := ih
    have e6 : lkAll A 2 5 6 4 k 6 = lkAll B 31 40 41 39 k 41 := by rw [lkAll_ne (by decide) (by decide), lkAll_ne (by decide) (by decide)]; exact h6
    have e4 : lkAll A 2 5 6 4 k 4 = lkAll B 31 40 41 39 k 39 := by rw [lkAll_ne (by decide) (by decide), lkAll_ne (by decide) (by decide)]; exact h4
    unfold lkAll
    generalize lkAll A 2 5 6 4 k = A1 at g2 g5 e6 e4
    generalize lkAll B 31 40 41 39 k = B1 at g2 g5 e6 e4
    have eg : lkGiven A1 2 5 6 4 k = lkGiven B1 31 40 41 39 k := by unfold lkGiven; rw [g2, g5, e6, e4]
    unfold lkStep
    rw [eg]
    refine ⟨?_, ?_⟩
    · show upd (A1 2) (A1 4 k).toNatClampNeg (A1 2 (A1 4 k).toNatClampNeg + lkGiven B1 31 40 41 39 k) = upd (B1 31) (B1 39 k).toNatClampNeg (B1 31 (B1 39 k).toNatClampNeg + lkGiven B1 31 40 41 39 k)
      rw [g2, e4]
    · show upd (A1 5) k (A1 5 k - lkGiven B1 31 40 41 39 k) = upd (B1 40) k (B1 40 k - lkGiven B1 31 40 41 39 k)
      rw [g5]
/-- a day begins for one squadron -/
theorem dr_beg {nR n d j : Nat} {A B : tf_M} (hR3 : 3 ≤ nR) (hR : nR ≤ 12) (hn : n ≤ 12) (D : DR nR n d A B) (hj : j < n) : DR nR n d (sqBegin nR A (100 + j) (200 + j)) (mBeg nR B j) ∧ sqBegin nR A (100 + j) (200 + j) (100 + j) 9 = 0 ∧ (∀ i, i ≠ j → i < n → sqBegin nR A (100 + j) (200 + j) (100 + i) = A (100 + i)) ∧ (∀ i, mBeg nR B j 47 i = B 47 i) := by
  obtain ⟨h2, h3, h1, h07, h303, hic, h18, hq⟩ := D
  have Q := hq j hj
  obtain ⟨r, hr, hr1, hr2⟩ := Q.qat
  have hle : (nI nR - 1 ≤ B 47 j) ↔ ¬ r < nR - 1 := by
    rw [hr1, nI_sub1 (by omega)]
    exact ⟨fun h => by have := nI_ge' h (by omega); omega, fun h => nI_le (by omega) (by omega)⟩
  have hrc : (B 47 j).toNatClampNeg = r := by rw [hr1]; exact nI_clamp (by omega)
  have hcond : (come (s2 A (100 + j) 9 0) (100 + j) = false ∧ isP (s2 A (100 + j) 9 0 (100 + j) 6) (nI nR) = true) ↔ r < nR - 1 := by
    unfold come
    rw [s2_nk (by decide), s2_nk (by decide), Q.q6, Q.q7, hr1]
    refine ⟨fun h => hr2.mp (by simpa using h.1), fun h => ⟨by simpa using hr2.mpr h, isP_k hr (by omega)⟩⟩
  have ha : ∀ x, x ≠ 100 + j → x ≠ 200 + j → sqBegin nR A (100 + j) (200 + j) x = A x := fun x g1 g2 => sqBegin_ne g1 g2
  have hao : ∀ y, sqBegin nR A (100 + j) (200 + j) (100 + j) y = if y = 9 then 0 else A (100 + j) y := fun y => by
    unfold sqBegin
    split
    · rw [s2_ne (by omega), s2_at]
    · rw [s2_at]
  have had : ∀ y, sqBegin nR A (100 + j) (200 + j) (200 + j) y = if r < nR - 1 ∧ y = r then A (200 + j) r + 1 else A (200 + j) y := fun y => by
    unfold sqBegin
    by_cases g : r < nR - 1
    · rw [if_pos (hcond.mpr g), s2_at, s2_nk (by decide), Q.q6, hrc, s2_ne (by omega)]
      by_cases e : y = r
      · rw [if_pos e, if_pos ⟨g, e⟩]
      · rw [if_neg e, if_neg (fun q => e q.2)]
    · rw [if_neg (fun q => g (hcond.mp q)), s2_ne (by omega), if_neg (fun q => g q.1)]
  have hb : ∀ x, x ≠ 49 → x ≠ 52 → mBeg nR B j x = B x := fun x g1 g2 => by
    unfold mBeg
    split
    · rw [s2_ne g1]
    · rw [s2_ne g2, s2_ne g1]
  have hb49 : ∀ i, mBeg nR B j 49 i = if i = j then 0 else B 49 i := fun i => by
    unfold mBeg
    split
    · rw [s2_at]
    · rw [s2_ne (by decide), s2_at]
  have hb52 : ∀ i, mBeg nR B j 52 i = if r < nR - 1 ∧ i = 12 * j + r then B 52 (12 * j + r) + 1 else B 52 i := fun i => by
    unfold mBeg
    by_cases g : r < nR - 1
    · rw [if_neg (fun q => (hle.mp q) g), s2_at, hrc, s2_ne (by decide)]
      by_cases e : i = 12 * j + r
      · rw [if_pos e, if_pos ⟨g, e⟩]
      · rw [if_neg e, if_neg (fun q => e q.2)]
    · rw [if_pos (hle.mpr g), s2_ne (by decide), if_neg (fun q => g q.1)]
  generalize sqBegin nR A (100 + j) (200 + j) = A1 at ha hao had ⊢
  generalize mBeg nR B j = B1 at hb hb49 hb52 ⊢
  have z53 := hb 53 (by decide) (by decide)
  refine ⟨⟨by rw [ha 2 (by omega) (by omega), hb 31 (by decide) (by decide)]; exact h2, fun x hx => by rw [ha 3 (by omega) (by omega), hb 32 (by decide) (by decide)]; exact h3 x hx, by rw [ha 1 (by omega) (by omega)]; exact h1, by rw [ha 0 (by omega) (by omega)]; exact h07, by rw [hb 30 (by decide) (by decide)]; exact h303, by rw [ha 1 (by omega) (by omega), hb 30 (by decide) (by decide)]; exact hic, by rw [ha 1 (by omega) (by omega), hb 30 (by decide) (by decide)]; exact h18, fun i hi => ?_⟩, by rw [hao, if_pos rfl], fun i hi hi2 => ha _ (by omega) (by omega), fun i => by rw [hb 47 (by decide) (by decide)]⟩
  by_cases e : i = j
  · subst e
    unfold QD
    rw [ha (300 + i) (by omega) (by omega), hb 42 (by decide) (by decide), hb 43 (by decide) (by decide), hb 44 (by decide) (by decide), hb 45 (by decide) (by decide), hb 46 (by decide) (by decide), hb 47 (by decide) (by decide), hb 48 (by decide) (by decide), hb 50 (by decide) (by decide), hb 51 (by decide) (by decide), z53]
    simp only [hao, had, hb49, hb52, if_pos]
    refine ⟨Q.q0, Q.q1, Q.q2, Q.q3, Q.q6, Q.q7, Q.q8, (by first | trivial | rfl), Q.q10, Q.q11, fun y hy => ?_, Q.qb, Q.qat, Q.qbo, Q.qdu, Q.qc, Q.qco⟩
    by_cases g : r < nR - 1 ∧ y = r
    · rw [if_pos g, if_pos ⟨g.1, by rw [g.2]⟩, Q.qd r hr]
    · rw [if_neg g, if_neg (fun q => g ⟨q.1, by omega⟩), Q.qd y hy]
  · refine (hq i hi).same hR (ha _ (by omega) (by omega)) (ha _ (by omega) (by omega)) (ha _ (by omega) (by omega)) (fun y g1 g2 => ?_) (fun y hy => by rw [hb52, if_neg (fun q => by omega)]) (fun c _ => by rw [z53])
    by_cases g3 : y = 49
    · rw [g3, hb49, if_neg e]
    · rw [hb y g3 (by omega)]
theorem dr_begs {nR n d : Nat} {A B : tf_M} (hR3 : 3 ≤ nR) (hR : nR ≤ 12) (hn : n ≤ 12) (D : DR nR n d A B) : ∀ k, k ≤ n → DR nR n d (bgAll nR A k) (mBegin nR B k) ∧ (∀ s, s < k → bgAll nR A k (100 + s) 9 = 0) ∧ ∀ i, mBegin nR B k 47 i = B 47 i := by
  intro k
  induction k with
  | zero => intro _; exact ⟨D, fun s hs => absurd hs (Nat.not_lt_zero s), fun _ => rfl⟩
  | succ k ih =>
    intro hk
    obtain ⟨g1, g2, g3⟩ := ih (by omega)
    obtain ⟨f1, f2, f3, f4⟩ := dr_beg hR3 hR hn g1 (show k < n by omega)
    unfold bgAll mBegin
    refine ⟨f1, fun s hs => ?_, fun i => (f4 i).trans (g3 i)⟩
    by_cases e : s = k
    · rw [e]; exact f2
    · rw [f3 s e (by omega)]; exact g2 s (by omega)
/-- what a day leaves of squadrons that are not there -/
def FrS (n : Nat) (B B1 : tf_M) : Prop := ∀ i, n ≤ i → B1 47 i = B 47 i ∧ B1 49 i = B 49 i ∧ (∀ r, r < 12 → B1 52 (12 * i + r) = B 52 (12 * i + r)) ∧ ∀ c, c < 5 → B1 53 (5 * i + c) = B 53 (5 * i + c)
theorem FrS.tr {n : Nat} {B B1 B2 : tf_M} (h : FrS n B B1) (g : FrS n B1 B2) : FrS n B B2 := fun i hi => ⟨(g i hi).1.trans (h i hi).1, (g i hi).2.1.trans (h i hi).2.1, fun r hr => ((g i hi).2.2.1 r hr).trans ((h i hi).2.2.1 r hr), fun c hc => ((g i hi).2.2.2 c hc).trans ((h i hi).2.2.2 c hc)⟩
theorem opStep_fr {nR n k j : Nat} {Z : tf_M} {lf w : Int32} (hj : j < n) : FrS n Z (opStep nR Z k lf w j).1 := by
  intro i hi
  unfold opStep
  split
  · have e : ∀ v, mThru Z k j v 47 i = Z 47 i ∧ mThru Z k j v 49 i = Z 49 i ∧ mThru Z k j v 52 = Z 52 ∧ mThru Z k j v 53 = Z 53 := fun v => by
      unfold mThru mWhy
      refine ⟨?_, ?_, ?_, ?_⟩
      · rw [s2_nk (by omega), s2_ne (by decide), s2_ne (by decide), s2_ne (by decide), s2_ne (by decide)]
      · rw [s2_ne (by decide), s2_ne (by decide), s2_ne (by decide), s2_nk (by omega), s2_ne (by decide)]
      · rw [s2_ne (by decide), s2_ne (by decide), s2_ne (by decide), s2_ne (by decide), s2_ne (by decide)]
      · rw [s2_ne (by decide), s2_ne (by decide), s2_ne (by decide), s2_ne (by decide), s2_ne (by decide)]
    obtain ⟨e1, e2, e3, e4⟩ := e 0
    split
    · dsimp only
      rw [s2_ne (by decide), s2_ne (by decide), s2_ne (by decide), s2_ne (by decide)]
      exact ⟨e1, e2, fun r _ => by rw [e3], fun c _ => by rw [e4]⟩
    · dsimp only
      exact ⟨e1, e2, fun r _ => by rw [e3], fun c _ => by rw [e4]⟩
  · rename_i h
    obtain ⟨c0, hc0, hcv⟩ := mBar_4 h
    rw [hcv, nI_clamp (by omega)]
    refine ⟨?_, ?_, fun r _ => ?_, fun c hc => ?_⟩
    · show s2 (mWhy Z j (nI (c0 + 1))) 53 (5 * j + (c0 + 1)) (Z 53 (5 * j + (c0 + 1)) + 1) 47 i = _
      unfold mWhy
      rw [s2_ne (by decide), s2_ne (by decide), s2_ne (by decide)]
    · show s2 (mWhy Z j (nI (c0 + 1))) 53 (5 * j + (c0 + 1)) (Z 53 (5 * j + (c0 + 1)) + 1) 49 i = _
      unfold mWhy
      rw [s2_ne (by decide), s2_nk (by omega), s2_ne (by decide)]
    · show s2 (mWhy Z j (nI (c0 + 1))) 53 (5 * j + (c0 + 1)) (Z 53 (5 * j + (c0 + 1)) + 1) 52 _ = _
      unfold mWhy
      rw [s2_ne (by decide), s2_ne (by decide), s2_ne (by decide)]
    · show s2 (mWhy Z j (nI (c0 + 1))) 53 (5 * j + (c0 + 1)) (Z 53 (5 * j + (c0 + 1)) + 1) 53 _ = _
      unfold mWhy
      rw [s2_nk (by omega), s2_ne (by decide), s2_ne (by decide)]
theorem opL_fr {nR n k : Nat} {q : Int32} (hn : n ≤ 12) : ∀ (f : Nat) (Z : tf_M) (lf w : Int32), FrS n Z (opL nR n q k f Z lf w) := by
  intro f
  induction f with
  | zero => intro Z lf w i _; exact ⟨rfl, rfl, fun _ _ => rfl, fun _ _ => rfl⟩
  | succ f ih =>
    intro Z lf w
    unfold opL
    split
    · intro i _; exact ⟨rfl, rfl, fun _ _ => rfl, fun _ _ => rfl⟩
    · rename_i h
      rcases mNext_zero (S := Z) (q := q) n with g | ⟨j, hj, g, -⟩
      · exact absurd g h
      · refine FrS.tr (opStep_fr ?_) (ih _ _ _)
        rw [g, nI_clamp (by omega)]; exact hj
theorem mOpen_fr {nR n t k : Nat} {Z : tf_M} (hn : n ≤ 12) : FrS n Z (mOpen nR n t Z k) := by
  unfold mOpen
  refine FrS.tr (B1 := goneS Z k n) (fun i _ => ?_) (opL_fr hn _ _ _ _)
  rw [goneS_ne (by decide), goneS_ne (by decide), goneS_ne (by decide), goneS_ne (by decide)]
  exact ⟨rfl, rfl, fun _ _ => rfl, fun _ _ => rfl⟩
theorem mWkDn_fr {nR n t : Nat} (hn : n ≤ 12) : ∀ (k : Nat) (Z : tf_M), FrS n Z (mWkDn nR n t k Z) := by
  intro k
  induction k with
  | zero => intro Z i _; exact ⟨rfl, rfl, fun _ _ => rfl, fun _ _ => rfl⟩
  | succ k ih => intro Z; unfold mWkDn; exact FrS.tr (mOpen_fr hn) (ih _)
theorem mBegin_fr {nR n : Nat} {B : tf_M} (hR : nR ≤ 12) : ∀ k, k ≤ n → FrS n B (mBegin nR B k) := by
  intro k
  induction k with
  | zero => intro _ i _; exact ⟨rfl, rfl, fun _ _ => rfl, fun _ _ => rfl⟩
  | succ k ih =>
    intro hk
    refine FrS.tr (ih (by omega)) ?_
    show FrS n (mBegin nR B k) (mBeg nR (mBegin nR B k) k)
    generalize mBegin nR B k = Z
    intro i hi
    show mBeg nR Z k 47 i = Z 47 i ∧ mBeg nR Z k 49 i = Z 49 i ∧ (∀ r, r < 12 → mBeg nR Z k 52 (12 * i + r) = Z 52 (12 * i + r)) ∧ ∀ c, c < 5 → mBeg nR Z k 53 (5 * i + c) = Z 53 (5 * i + c)
    unfold mBeg
    split
    · rw [s2_ne (by decide), s2_nk (by omega), s2_ne (by decide), s2_ne (by decide)]
      exact ⟨rfl, rfl, fun _ _ => rfl, fun _ _ => rfl⟩
    · rename_i h
      refine ⟨by rw [s2_ne (by decide), s2_ne (by decide)], by rw [s2_ne (by decide), s2_nk (by omega)], fun r hr => ?_, fun c _ => by rw [s2_ne (by decide), s2_ne (by decide)]⟩
      rw [s2_at, s2_ne (by decide)]
      by_cases e : 12 * i + r = 12 * k + (Z 47 k).toNatClampNeg
      · exfalso
        have h9 := Int32.lt_iff_toInt_lt.mp (Int32.not_le.mp h)
        rw [nI_pm nR (by omega)] at h9
        have h10 : (Z 47 k).toNatClampNeg < 12 := by unfold Int32.toNatClampNeg; omega
        omega
      · rw [if_neg e]
theorem frc_keep {S S1 : tf_M} {day : Int32} (h : ∀ x, 400 ≤ x → S1 x = S x) : ∀ k, frc S1 day k = frc S day k := by
  intro k
  induction k with
  | zero => rfl
  | succ k ih => unfold frc; rw [h (400 + k) (by omega), ih]
theorem frc_or {S : tf_M} {day : Int32} : ∀ k, frc S day k = 15 ∨ 400 ≤ frc S day k := by
  intro k
  induction k with
  | zero => exact Or.inl rfl
  | succ k ih =>
    unfold frc
    split
    · exact Or.inr (by omega)
    · exact ih
theorem DR.keepA {nR n d : Nat} {A A1 B : tf_M} (hR : nR ≤ 12) (h : ∀ x, x ≠ 9 → A1 x = A x) (D : DR nR n d A B) : DR nR n d A1 B := by
  obtain ⟨h2, h3, h1, h07, h303, hic, h18, hq⟩ := D
  exact ⟨(h 2 (by decide)).trans h2, fun l hl => by rw [h 3 (by decide)]; exact h3 l hl, by rw [h 1 (by decide)]; exact h1, by rw [h 0 (by decide)]; exact h07, h303, by rw [h 1 (by decide)]; exact hic, by rw [h 1 (by decide)]; exact h18, fun i hi => (hq i hi).same hR (h _ (by omega)) (h _ (by omega)) (h _ (by omega)) (fun _ _ _ => rfl) (fun _ _ => rfl) (fun _ _ => rfl)⟩
theorem dayS_ne {nR n t nk x : Nat} {S : tf_M} (hn : n ≤ 12) (h : x ≠ 0 ∧ x ≠ 2 ∧ x ≠ 5 ∧ x ≠ 9 ∧ (x < 100 ∨ 400 ≤ x)) : dayS nR n t nk S x = S x := by
  obtain ⟨h0, h2, h5, h9, hx⟩ := h
  show s2 (wkDn nR n (nR - 1) (lineAll (bgAll nR (lkAll S 2 5 6 4 nk) n) _ n)) 0 7 _ x = S x
  rw [s2_ne h0, wkDn_ne (show wkKeep x by unfold wkKeep; omega) (show wkKeep 9 by unfold wkKeep; decide) hn _ _ (lineAll_ok n (Nat.le_refl n)), lineAll_ne h9, bgAll_ne (by omega) n (by omega), lkAll_ne h2 h5]
theorem mid_day {nR n t nk : Nat} {S u : tf_M} (hn : n ≤ 12) (hu : u = if S 0 7 < 400 then dayS nR n t nk S else S) : ∀ x, (30 ≤ x ∧ x < 100) ∨ 400 ≤ x → u x = S x := by
  intro x h
  rw [hu]
  split
  · exact dayS_ne hn (by omega)
  · rfl
set_option maxHeartbeats 1000000 in
theorem sw_day {nR n t nk k d : Nat} {S : tf_M} (I : Iv nR n t nk k d S) {x y : Int32} {u w : tf_M} (hx : x = (if S 0 7 < 400 then S 0 7 + 1 else -1) ∧ u = if S 0 7 < 400 then dayS nR n t nk S else S) (hy : y = (if u 30 3 = 400 then -1 else u 30 3 + 1) ∧ w = if u 30 3 = 400 then u else mDay nR n t nk u) : x = y ∧ ∃ n1 t1 nk1 k1 d1, Iv nR n1 t1 nk1 k1 d1 w ∧ n1 = n ∧ t1 = t := by
  have X := I.2.1
  have B := I.1
  have hn := B.2.2.1
  have hR := B.2.1
  have hm := mid_day hn hx.2
  obtain ⟨rfl, hu⟩ := hx
  obtain ⟨rfl, hw⟩ := hy
  have e30 : u 30 = S 30 := hm 30 (by decide)
  rw [X.i14] at hu ⊢
  rw [e30, X.i15] at hw ⊢
  by_cases hd : d < 400
  · have c1 : nI d < 400 := nI_lt (b := 400) hd (by decide)
    have c2 : ¬ nI d = 400 := fun h => by have := nI_inj (b := 400) h (by omega) (by decide); omega
    rw [if_pos c1] at hu ⊢
    rw [if_neg c2] at hw ⊢
    refine ⟨rfl, n, t, nk, k, d + 1, ?_, rfl, rfl⟩
    have D0 : DR nR n d S u := ⟨X.i3.trans (hm 31 (by decide)).symm, fun l hl => by rw [hm 32 (by decide)]; exact X.i4 l hl, X.i1, X.i14, by rw [e30]; exact X.i15, by rw [e30]; exact X.i12, by rw [e30]; exact X.i13, fun i hi => (show QD nR i S S from I.2.2.1.1 i hi).same hR rfl rfl rfl (fun y _ _ => by rw [hm y (by omega)]) (fun r _ => by rw [hm 52 (by decide)]) (fun c _ => by rw [hm 53 (by decide)])⟩
    obtain ⟨la, lb⟩ := dr_lakes (A := S) (B := u) (X.i3.trans (hm 31 (by decide)).symm) (X.i9.trans (hm 40 (by decide)).symm) (X.i10.trans (hm 41 (by decide)).symm) (X.i8.trans (hm 39 (by decide)).symm) nk
    have hA1 : ∀ x, x ≠ 2 → x ≠ 5 → lkAll S 2 5 6 4 nk x = S x := fun x h1 h2 => lkAll_ne h1 h2 nk
    have hB1 : ∀ x, x ≠ 31 → x ≠ 40 → lkAll u 31 40 41 39 nk x = u x := fun x h1 h2 => lkAll_ne h1 h2 nk
    have D1 : DR nR n d (lkAll S 2 5 6 4 nk) (lkAll u 31 40 41 39 nk) := by
      obtain ⟨h2, h3, h1, h07, h303, hic, h18, hq⟩ := D0
      exact ⟨la, fun l hl => by rw [hA1 3 (by decide) (by decide), hB1 32 (by decide) (by decide)]; exact h3 l hl, by rw [hA1 1 (by decide) (by decide)]; exact h1, by rw [hA1 0 (by decide) (by decide)]; exact h07, by rw [hB1 30 (by decide) (by decide)]; exact h303, by rw [hA1 1 (by decide) (by decide), hB1 30 (by decide) (by decide)]; exact hic, by rw [hA1 1 (by decide) (by decide), hB1 30 (by decide) (by decide)]; exact h18, fun i hi => (hq i hi).same hR (hA1 _ (by omega) (by omega)) (hA1 _ (by omega) (by omega)) (hA1 _ (by omega) (by omega)) (fun y _ _ => by rw [hB1 y (by omega) (by omega)]) (fun r _ => by rw [hB1 52 (by decide) (by decide)]) (fun c _ => by rw [hB1 53 (by decide) (by decide)])⟩
    obtain ⟨D2, w9, f47⟩ := dr_begs B.1 hR hn D1 n (Nat.le_refl n)
    have hA2 : ∀ x, x ≠ 2 → x ≠ 5 → (x < 100 ∨ 400 ≤ x) → bgAll nR (lkAll S 2 5 6 4 nk) n x = S x := fun x h1 h2 h3 => by rw [bgAll_ne (by omega) n (by omega), hA1 x h1 h2]
    have hA25 : bgAll nR (lkAll S 2 5 6 4 nk) n 5 = lkAll S 2 5 6 4 nk 5 := bgAll_ne (by omega) n (by omega)
    have hB2 : ∀ x, x ≠ 49 → x ≠ 52 → mBegin nR (lkAll u 31 40 41 39 nk) n x = lkAll u 31 40 41 39 nk x := fun x h1 h2 => mBegin_ne h1 h2 n
    obtain ⟨q, hq⟩ : ∃ q, q = bgAll nR (lkAll S 2 5 6 4 nk) n (frc (bgAll nR (lkAll S 2 5 6 4 nk) n) (bgAll nR (lkAll S 2 5 6 4 nk) n 0 7) t) 3 := ⟨_, rfl⟩
    have hfr : FrS n u (mBegin nR (lkAll u 31 40 41 39 nk) n) := FrS.tr (B1 := lkAll u 31 40 41 39 nk) (fun i _ => by rw [hB1 47 (by decide) (by decide), hB1 49 (by decide) (by decide), hB1 52 (by decide) (by decide), hB1 53 (by decide) (by decide)]; exact ⟨rfl, rfl, fun _ _ => rfl, fun _ _ => rfl⟩) (mBegin_fr hR n (Nat.le_refl n))
    have hdayS : u = s2 (wkDn nR n (nR - 1) (lineAll (bgAll nR (lkAll S 2 5 6 4 nk) n) q n)) 0 7 (wkDn nR n (nR - 1) (lineAll (bgAll nR (lkAll S 2 5 6 4 nk) n) q n) 0 7 + 1) := by rw [hu, hq]; rfl
    have hmDay : w = s2 (mWkDn nR n t (nR - 1) (mBegin nR (lkAll u 31 40 41 39 nk) n)) 30 3 (mWkDn nR n t (nR - 1) (mBegin nR (lkAll u 31 40 41 39 nk) n) 30 3 + 1) := hw
    have hq2 : q = mTells (mBegin nR (lkAll u 31 40 41 39 nk) n) t (mBegin nR (lkAll u 31 40 41 39 nk) n 30 3) 0 0 2 := by
      rw [hq, frc_keep (S := S) fun x hx => hA2 x (by omega) (by omega) (Or.inr hx), D2.2.2.2.1, D2.2.2.2.2.1]
      have h15 : bgAll nR (lkAll S 2 5 6 4 nk) n (frc S (nI d) t) = S (frc S (nI d) t) := by
        rcases frc_or (S := S) (day := nI d) t with g | g
        · rw [g]; exact hA2 15 (by decide) (by decide) (by decide)
        · exact hA2 _ (by omega) (by omega) (Or.inr g)
      rw [h15, (tells_all I (nI d)).1]
      exact (mTells_keep fun x h1 h2 => by rw [hB2 x (by omega) (by omega), hB1 x (by omega) (by omega), hm x (by omega)]).symm
    generalize bgAll nR (lkAll S 2 5 6 4 nk) n = A2 at *
    generalize mBegin nR (lkAll u 31 40 41 39 nk) n = B2 at *
    obtain ⟨L, hL, h9⟩ := lineAll_s (ky := kyO B2 q) hn (S := A2) (q := q) (fun a b ha hb => ahead_ky (D2.2.2.2.2.2.2.2 a ha).q0 (D2.2.2.2.2.2.2.2 a ha).q1 (D2.2.2.2.2.2.2.2 b hb).q0 (D2.2.2.2.2.2.2.2 b hb).q1) n (Nat.le_refl n)
    have hln := lineAll_ok (S := A2) (q := q) n (Nat.le_refl n)
    have hA3 : ∀ x, x ≠ 9 → lineAll A2 q n x = A2 x := fun x h => lineAll_ne h A2 n
    have D3 : DR nR n d (lineAll A2 q n) B2 := D2.keepA hR hA3
    have D4 := dr_locks (t := t) B.1 hR hn B.2.2.2.2.2.2 (nR - 1) (lineAll A2 q n) B2 (by have := B.1; omega) D3 hq2 hL h9 (fun s hs _ => by rw [hA3 _ (by omega)]; exact w9 s hs)
    have hA4 : ∀ x, wkKeep x → wkDn nR n (nR - 1) (lineAll A2 q n) x = lineAll A2 q n x := fun x h => wkDn_ne h (show wkKeep 9 by unfold wkKeep; decide) hn _ _ hln
    have hB4 : ∀ x, opKeep x → mWkDn nR n t (nR - 1) B2 x = B2 x := fun x h => mWkDn_ne h _ _
    have hf4 : FrS n u (mWkDn nR n t (nR - 1) B2) := FrS.tr hfr (mWkDn_fr hn _ _)
    have D40 := D4.2.2.2.1
    have D430 := D4.2.2.2.2.1
    generalize wkDn nR n (nR - 1) (lineAll A2 q n) = A4 at *
    generalize mWkDn nR n t (nR - 1) B2 = B4 at *
    have wB : ∀ x, x ≠ 30 → w x = B4 x := fun x h => by rw [hmDay, s2_ne h]
    have wu : ∀ x, x ≠ 30 → x ≠ 31 → x ≠ 40 → x ≠ 49 → x ≠ 52 → opKeep x → w x = u x := fun x h1 h2 h3 h4 h5 h6 => by rw [wB x h1, hB4 x h6, hB2 x h4 h5, hB1 x h2 h3]
    have e2 : ∀ x, (x < 30 ∧ x ≠ 0) ∨ 100 ≤ x → w x = A4 x := fun x h => by rw [wu x (by omega) (by omega) (by omega) (by omega) (by omega) (opK (by omega)), hdayS, s2_ne (by omega)]
    have hx : ∀ x, (x < 30 ∧ x ≠ 0 ∧ x ≠ 2 ∧ x ≠ 5 ∧ x ≠ 9) ∨ x = 32 ∨ x = 39 ∨ x = 41 ∨ (54 ≤ x ∧ x ≤ 70) ∨ 400 ≤ x → w x = S x := fun x h => by
      rcases (show (x < 30 ∧ x ≠ 0 ∧ x ≠ 2 ∧ x ≠ 5 ∧ x ≠ 9) ∨ (30 < x ∧ (x < 100 ∨ 400 ≤ x) ∧ x ≠ 31 ∧ x ≠ 40 ∧ x ≠ 47 ∧ x ≠ 48 ∧ x ≠ 49 ∧ x ≠ 52 ∧ x ≠ 53 ∧ x ≠ 71) by omega) with g | g
      · rw [e2 x (by omega), hA4 x (by unfold wkKeep; omega), hA3 x (by omega), hA2 x (by omega) (by omega) (by omega)]
      · rw [wu x (by omega) (by omega) (by omega) (by omega) (by omega) (opK (by omega)), hm x (by omega)]
    have a40 : A4 0 = S 0 := by rw [hA4 0 (by unfold wkKeep; decide), hA3 0 (by decide), hA2 0 (by decide) (by decide) (by decide)]
    have w00 : w 0 = u 0 := wu 0 (by decide) (by decide) (by decide) (by decide) (by decide) (opK (by decide))
    have w0 : ∀ j, j ≠ 7 → w 0 j = S 0 j := fun j hj => by rw [w00, hdayS, s2_nk hj, a40]
    have w07 : w 0 7 = nI (d + 1) := by rw [w00, hdayS, s2_eq, D40, nI_succ]
    have b30 : B4 30 = S 30 := by rw [hB4 30 (opK (by decide)), hB2 30 (by decide) (by decide), hB1 30 (by decide) (by decide), e30]
    have w30 : ∀ j, j ≠ 3 → w 30 j = S 30 j := fun j hj => by rw [hmDay, s2_nk hj, b30]
    have w303 : w 30 3 = nI (d + 1) := by rw [hmDay, s2_eq, D430, nI_succ]
    have b31 : w 31 = B4 31 := wB 31 (by decide)
    refine ⟨⟨B.1, hR, hn, B.2.2.2.1, B.2.2.2.2.1, B.2.2.2.2.2.1, by omega⟩, ⟨by rw [hx 1 (by decide)]; exact X.i1, by rw [w30 0 (by decide)]; exact X.i2, (e2 2 (by decide)).trans (D4.1.trans b31.symm), by rw [hx 3 (by decide), hx 32 (by decide)]; exact X.i4, by rw [hx 32 (by decide)]; exact X.i5, by rw [hx 1 (by decide)]; exact X.i6, by rw [w30 4 (by decide)]; exact X.i7, by rw [hx 4 (by decide), hx 39 (by decide)]; exact X.i8, ?_, by rw [hx 6 (by decide), hx 41 (by decide)]; exact X.i10, by rw [hx 39 (by decide)]; exact X.i11, by rw [hx 1 (by decide), w30 6 (by decide)]; exact X.i12, by rw [hx 1 (by decide), w30 7 (by decide)]; exact X.i13, w07, w303, by rw [hx 7 (by decide)]; exact X.i16, by rw [w30 5 (by decide)]; exact X.i17, by rw [hx 10 (by decide)]; exact X.i18, by rw [w30 29 (by decide)]; exact X.i19, by rw [hx 11 (by decide), hx 57 (by decide)]; exact X.i20, by rw [hx 57 (by decide)]; exact X.i21, by rw [hx 18 (by decide), hx 54 (by decide)]; exact X.i22, by rw [hx 19 (by decide), hx 55 (by decide)]; exact X.i23, by rw [hx 20 (by decide), hx 56 (by decide)]; exact X.i24, by rw [hx 17 (by decide), w30 8 (by decide)]; exact X.i25, by rw [hx 13 (by decide)]; exact X.i26, by rw [w30 33 (by decide)]; exact X.i27, by rw [w0 _ (by decide), w30 32 (by decide)]; exact X.i28, by rw [hx 8 (by decide)]; exact X.i29, by rw [hx 8 (by decide)]; exact X.i30, by rw [hx 14 (by decide)]; exact X.i31, by rw [hx 14 (by decide)]; exact X.i32, by rw [hx 15 (by decide)]; exact X.i33, by rw [hx 16 (by decide)]; exact X.i34⟩, ⟨fun i hi => ?_, fun i hi => ?_⟩, I.2.2.2.keep fun x h => hx x (by omega)⟩
    · rw [e2 5 (by decide), hA4 5 (by unfold wkKeep; decide), hA3 5 (by decide), hA25, lb, wB 40 (by decide), hB4 40 (opK (by decide)), hB2 40 (by decide) (by decide)]
    · exact (show QD nR i w w from (D4.2.2.2.2.2.2.2 i hi).same hR (e2 _ (by omega)) (e2 _ (by omega)) (e2 _ (by omega)) (fun y h1 h2 => by rw [wB y (by omega)]) (fun r _ => by rw [wB 52 (by decide)]) (fun c _ => by rw [wB 53 (by decide)]))
    · have F := I.2.2.1.2 i hi
      obtain ⟨g1, g2, g3, g4⟩ := hf4 i hi
      refine ⟨?_, ?_, ?_, ?_, fun r hr => ?_, fun c hc => ?_⟩
      · rw [wu 45 (by decide) (by decide) (by decide) (by decide) (by decide) (opK (by decide)), hm 45 (by decide)]; exact F.f45
      · rw [wB 47 (by decide), g1, hm 47 (by decide)]; exact F.f47
      · rw [wB 49 (by decide), g2, hm 49 (by decide)]; exact F.f49
      · rw [wu 51 (by decide) (by decide) (by decide) (by decide) (by decide) (opK (by decide)), hm 51 (by decide)]; exact F.f51
      · rw [wB 52 (by decide), g3 r hr, hm 52 (by decide)]; exact F.f52 r hr
      · rw [wB 53 (by decide), g4 c hc, hm 53 (by decide)]; exact F.f53 c hc
  · have e : d = 400 := by have := B.2.2.2.2.2.2; omega
    have c1 : ¬ nI d < 400 := by rw [e]; decide
    have c2 : nI d = 400 := by rw [e]; rfl
    rw [if_neg c1] at hu ⊢
    rw [if_pos c2] at hw ⊢
    rw [hw, hu]
    exact ⟨rfl, n, t, nk, k, d, I, rfl, rfl⟩
