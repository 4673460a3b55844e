/-! the reference's words and numbers are the class's tokens -/
theorem skK_all {T : Nat → Int32} {kd : Int32} : ∀ (r x k : Nat), x ≤ k → k < skK T kd x r → kOf (T k) = kd := by
  intro r
  induction r with
  | zero => intro x k h1 h2; simp only [skK] at h2; omega
  | succ r ih =>
    intro x k h1 h2
    unfold skK at h2
    split at h2
    · rename_i h
      rcases Nat.lt_or_ge x k with g | g
      · exact ih (x + 1) k g h2
      · rw [show k = x by omega]; exact h
    · omega
theorem skB_end {T : Nat → Int32} : ∀ (r x : Nat), skB T x r = x + r ∨ ¬ blk (T (skB T x r)) = true := by
  intro r
  induction r with
  | zero => intro x; exact Or.inl rfl
  | succ r ih =>
    intro x
    unfold skB
    split
    · rcases ih (x + 1) with h | h
      · exact Or.inl (by omega)
      · exact Or.inr h
    · rename_i h
      exact Or.inr h
theorem skB_stay {T : Nat → Int32} {x : Nat} (h : ¬ blk (T x) = true) : ∀ r, skB T x r = x := by
  intro r
  cases r with
  | zero => rfl
  | succ r => unfold skB; rw [if_neg h]
theorem tkS_idem {T : Nat → Int32} {N e : Nat} (h : e ≤ N) : tkS T N (tkS T N e) = tkS T N e := by
  unfold tkS
  rcases skB_end (T := T) (N - e) e with g | g
  · rw [g, show e + (N - e) = N by omega, Nat.sub_self]; rfl
  · exact skB_stay g _
theorem tkK_c {T : Nat → Int32} {N p e : Nat} (hp : tkS T N p = tkS T N e) : tkK T N p = tkK T N e := by
  unfold tkK; rw [hp]
theorem tkE_c {T : Nat → Int32} {N p e : Nat} (hp : tkS T N p = tkS T N e) : tkE T N p = tkE T N e := by
  unfold tkE; rw [tkK_c hp, hp]
theorem wrdT_c {T : Nat → Int32} {N p e i : Nat} (hp : tkS T N p = tkS T N e) : wrdT T N p i = wrdT T N e i := by
  unfold wrdT; rw [tkK_c hp, tkE_c hp, hp]
theorem numR_c {T : Nat → Int32} {N p e : Nat} (hp : tkS T N p = tkS T N e) : numR T N p = numR T N e := by
  unfold numR; rw [tkK_c hp, tkE_c hp, hp]
/-- a word's bytes as a number -/
def wdN (T : Nat → Int32) (s : Nat) : Nat → Nat
  | 0 => 0
  | j + 1 => wdN T s j * 256 + (T (s + j)).toNatClampNeg
def cpN (i : Nat) : Nat → Nat
  | 0 => 0
  | j + 1 => cpN i j * 256 + (sByt i j).toNatClampNeg
def wcO (i : Nat) : Int64 := lN (cpN i (sLen i))
theorem kOf_1n {x : Int32} (h : kOf x = 1) : ∃ b : Nat, 97 ≤ b ∧ b ≤ 122 ∧ x = nI b := by
  have h1 := kOf_1.mp h
  have e1 : (97 : Int32).toInt = 97 := rfl
  have e2 : (122 : Int32).toInt = 122 := rfl
  have h2 := Int32.le_iff_toInt_le.mp h1.1
  have h3 := Int32.le_iff_toInt_le.mp h1.2
  obtain ⟨b, hb, hx⟩ := nI_of (x := x) (by rw [Int32.lt_iff_toInt_lt]; have e0 : (0 : Int32).toInt = 0 := rfl; omega)
  rw [hx, nI_toInt hb] at h2 h3
  exact ⟨b, by omega, by omega, hx⟩
theorem kOf_2n {x : Int32} (h : kOf x = 2) : ∃ b : Nat, b ≤ 9 ∧ x = nI (48 + b) := by
  have h1 := kOf_2.mp h
  have e1 : (48 : Int32).toInt = 48 := rfl
  have e2 : (57 : Int32).toInt = 57 := rfl
  have h2 := Int32.le_iff_toInt_le.mp h1.1
  have h3 := Int32.le_iff_toInt_le.mp h1.2
  obtain ⟨b, hb, hx⟩ := nI_of (x := x) (by rw [Int32.lt_iff_toInt_lt]; have e0 : (0 : Int32).toInt = 0 := rfl; omega)
  rw [hx, nI_toInt hb] at h2 h3
  exact ⟨b - 48, by omega, by rw [hx]; congr 1; omega⟩
theorem i64_or {a b : Nat} (ha : a < 2 ^ 48) (hb : b < 256) : (lN a <<< ((8 : Int32).toInt64 &&& 63)) ||| lN b = lN (a * 256 + b) := by
  rw [show ((8 : Int32).toInt64 &&& 63) = (8 : Int64) from by decide]
  apply Int64.toBitVec_inj.mp
  rw [Int64.toBitVec_or, Int64.toBitVec_shiftLeft, show ((8 : Int64).toBitVec.smod 64) = 8#64 from by decide]
  show (BitVec.ofNat 64 a <<< 8#64) ||| BitVec.ofNat 64 b = BitVec.ofNat 64 (a * 256 + b)
  apply BitVec.eq_of_toNat_eq
  rw [BitVec.toNat_or, BitVec.shiftLeft_eq', BitVec.toNat_shiftLeft]
  simp only [BitVec.toNat_ofNat]
  rw [Nat.mod_eq_of_lt (show a < 2 ^ 64 by omega), Nat.mod_eq_of_lt (show b < 2 ^ 64 by omega), Nat.mod_eq_of_lt (show a * 256 + b < 2 ^ 64 by omega)]
  show (a <<< 8) % 2 ^ 64 ||| b = _
  rw [Nat.mod_eq_of_lt (by rw [Nat.shiftLeft_eq]; omega), ← Nat.shiftLeft_add_eq_or_of_lt (show b < 2 ^ 8 by omega), Nat.shiftLeft_eq]
theorem pow256 : ∀ L, L ≤ 6 → 256 ^ L ≤ 2 ^ 48 := by
  intro L h
  have : 256 ^ L ≤ 256 ^ 6 := Nat.pow_le_pow_right (by decide) h
  exact Nat.le_trans this (by decide)
theorem wdN_lt {T : Nat → Int32} {s : Nat} : ∀ L, (∀ j, j < L → kOf (T (s + j)) = 1) → wdN T s L < 256 ^ L := by
  intro L
  induction L with
  | zero => intro _; exact Nat.zero_lt_one
  | succ L ih =>
    intro h
    have h1 := ih fun j hj => h j (by omega)
    obtain ⟨b, hb1, hb2, hx⟩ := kOf_1n (h L (by omega))
    unfold wdN
    rw [hx, nI_clamp (by omega), Nat.pow_succ]
    omega
theorem wdV_N {T : Nat → Int32} {s : Nat} : ∀ L, L ≤ 7 → (∀ j, j < L → kOf (T (s + j)) = 1) → wdV T s L = lN (wdN T s L) := by
  intro L
  induction L with
  | zero => intro _ _; rfl
  | succ L ih =>
    intro h7 h
    have h1 := wdN_lt (T := T) (s := s) L fun j hj => h j (by omega)
    have h2 := pow256 L (by omega)
    obtain ⟨b, hb1, hb2, hx⟩ := kOf_1n (h L (by omega))
    unfold wdV wdN
    rw [if_pos (by omega), ih (by omega) fun j hj => h j (by omega), hx, nI_clamp (by omega), nI_l (by omega), i64_or (by omega) (by omega)]
theorem lN_inj {a b : Nat} (ha : a < 2 ^ 63) (hb : b < 2 ^ 63) (h : lN a = lN b) : a = b := by
  rw [← Int64.toNatClampNeg_ofNat_of_lt ha, ← Int64.toNatClampNeg_ofNat_of_lt hb]
  exact congrArg Int64.toNatClampNeg h
theorem sByt_p : ∀ i, i < 9 → ∀ j, j < sLen i → 97 ≤ (sByt i j).toNatClampNeg ∧ (sByt i j).toNatClampNeg ≤ 122 ∧ nI (sByt i j).toNatClampNeg = sByt i j := by decide +kernel
theorem sLen_1 : ∀ i, i < 9 → 1 ≤ sLen i ∧ sLen i ≤ 7 := by decide +kernel
theorem cpN_lt : ∀ i, i < 9 → 0 < cpN i (sLen i) ∧ cpN i (sLen i) < 2 ^ 63 := by decide +kernel
theorem wdN_cp {T : Nat → Int32} {s i : Nat} (hi : i < 9) : ∀ L M, M ≤ sLen i → (∀ j, j < L → kOf (T (s + j)) = 1) → (wdN T s L = cpN i M ↔ L = M ∧ ∀ j, j < L → T (s + j) = sByt i j) := by
  intro L
  induction L with
  | zero =>
    intro M hM _
    cases M with
    | zero => exact ⟨fun _ => ⟨rfl, fun j hj => absurd hj (Nat.not_lt_zero j)⟩, fun _ => rfl⟩
    | succ M =>
      have h1 := sByt_p i hi M (by omega)
      refine ⟨fun h => ?_, fun h => by omega⟩
      simp only [wdN, cpN] at h
      omega
  | succ L ih =>
    intro M hM h
    obtain ⟨b, hb1, hb2, hx⟩ := kOf_1n (h L (by omega))
    cases M with
    | zero =>
      refine ⟨fun g => ?_, fun g => by omega⟩
      simp only [wdN, cpN] at g
      rw [hx, nI_clamp (by omega)] at g
      omega
    | succ M =>
      have h1 := sByt_p i hi M (by omega)
      have h2 := ih M (by omega) fun j hj => h j (by omega)
      refine ⟨fun g => ?_, fun g => ?_⟩
      · simp only [wdN, cpN] at g
        rw [hx, nI_clamp (by omega)] at g
        have g1 : wdN T s L = cpN i M := by omega
        have g2 : b = (sByt i M).toNatClampNeg := by omega
        obtain ⟨g3, g4⟩ := h2.mp g1
        subst g3
        refine ⟨rfl, fun j hj => ?_⟩
        by_cases hjL : j = L
        · subst hjL; rw [hx, g2]; exact h1.2.2
        · exact g4 j (by omega)
      · obtain ⟨g1, g2⟩ := g
        have g3 : L = M := by omega
        subst g3
        have g4 := h2.mpr ⟨rfl, fun j hj => g2 j (by omega)⟩
        simp only [wdN, cpN]
        rw [g4, g2 L (by omega)]
theorem allM_iff {T : Nat → Int32} {a i : Nat} : ∀ n, allM T a i n = true ↔ ∀ j, j < n → T (a + j) = sByt i j := by
  intro n
  induction n with
  | zero => exact ⟨fun _ j hj => absurd hj (Nat.not_lt_zero j), fun _ => rfl⟩
  | succ n ih =>
    unfold allM
    rw [Bool.and_eq_true, ih, decide_eq_true_eq]
    refine ⟨fun h j hj => ?_, fun h => ⟨fun j hj => h j (by omega), h n (by omega)⟩⟩
    by_cases e : j = n
    · subst e; exact h.2
    · exact h.1 j (by omega)
theorem tk_end {T : Nat → Int32} {N e : Nat} {kd : Int32} (hk : kd = 1 ∨ kd = 2) : (tkK T N e = kd → wEnd T kd N (tkS T N e) = tkE T N e ∧ tkS T N e < tkE T N e) ∧ (¬ tkK T N e = kd → wEnd T kd N (tkS T N e) = tkS T N e) := by
  refine ⟨fun h => ?_, fun h => ?_⟩
  · have h0 : ¬ N ≤ tkS T N e := fun g => by
      unfold tkK at h
      rw [if_pos g] at h
      rcases hk with rfl | rfl <;> exact absurd h (by decide)
    have h1 : kOf (T (tkS T N e)) = kd := by unfold tkK at h; rw [if_neg h0] at h; exact h
    have h2 : tkE T N e = skK T kd (tkS T N e + 1) (N - (tkS T N e + 1)) := by
      unfold tkE
      rw [if_neg h0, if_pos (by rw [h]; exact hk), h]
    refine ⟨?_, ?_⟩
    · unfold wEnd
      rw [skK_go (by omega) h1, h2]
    · rw [h2]
      have := skK_le (T := T) (kd := kd) (N - (tkS T N e + 1)) (tkS T N e + 1)
      omega
  · unfold wEnd
    refine skK_stop fun h1 g => h ?_
    unfold tkK
    rw [if_neg (by omega)]
    exact g
theorem word_wrd {T : Nat → Int32} {N e i : Nat} (hi : i < 9) : wordV T N e = wcO i ↔ wrdT T N e i = true := by
  obtain ⟨h1, h2⟩ := tk_end (T := T) (N := N) (e := e) (kd := 1) (Or.inl rfl)
  obtain ⟨l1, l2⟩ := sLen_1 i hi
  obtain ⟨p1, p2⟩ := cpN_lt i hi
  unfold wordV wrdT
  rw [Bool.and_eq_true, Bool.and_eq_true, decide_eq_true_eq, decide_eq_true_eq, allM_iff]
  by_cases hk : tkK T N e = 1
  · obtain ⟨g1, g2⟩ := h1 hk
    rw [g1]
    have hlet : ∀ j, j < tkE T N e - tkS T N e → kOf (T (tkS T N e + j)) = 1 := fun j hj => skK_all (kd := 1) (N - tkS T N e) (tkS T N e) _ (by omega) (by
      have : skK T 1 (tkS T N e) (N - tkS T N e) = tkE T N e := g1
      omega)
    by_cases h7 : 7 < tkE T N e - tkS T N e
    · rw [if_pos h7]
      refine ⟨fun g => ?_, fun g => by omega⟩
      exact absurd (lN_inj (a := 0) (by decide) p2 g) (by omega)
    · rw [if_neg h7, wdV_N _ (by omega) hlet]
      have h8 := wdN_lt _ hlet
      have h9 : wdN T (tkS T N e) (tkE T N e - tkS T N e) < 2 ^ 63 := by
        have : 256 ^ (tkE T N e - tkS T N e) ≤ 256 ^ 7 := Nat.pow_le_pow_right (by decide) (by omega)
        have : (256 : Nat) ^ 7 < 2 ^ 63 := by decide
        omega
      have hc := wdN_cp (T := T) (s := tkS T N e) hi (tkE T N e - tkS T N e) (sLen i) (Nat.le_refl _) hlet
      refine ⟨fun g => ?_, fun g => ?_⟩
      · obtain ⟨q1, q2⟩ := hc.mp (lN_inj h9 p2 g)
        exact ⟨⟨hk, q1⟩, fun j hj => q2 j (by omega)⟩
      · unfold wcO
        rw [hc.mpr ⟨g.1.2, fun j hj => g.2 j (by omega)⟩]
  · rw [h2 hk, Nat.sub_self, if_neg (by decide)]
    refine ⟨fun g => ?_, fun g => absurd g.1.1 hk⟩
    exact absurd (lN_inj (a := 0) (by decide) p2 g) (by omega)
theorem numV_n {T : Nat → Int32} {s : Nat} : ∀ L, L ≤ 3 → (∀ j, j < L → kOf (T (s + j)) = 2) → nmV T s L = numV T s L ∧ ∃ v, v < 10 ^ L ∧ numV T s L = nI v := by
  intro L
  induction L with
  | zero => intro _ _; exact ⟨rfl, 0, by decide, rfl⟩
  | succ L ih =>
    intro h3 h
    obtain ⟨h1, v, hv, h2⟩ := ih (by omega) fun j hj => h j (by omega)
    obtain ⟨b, hb, hx⟩ := kOf_2n (h L (by omega))
    refine ⟨?_, v * 10 + b, by rw [Nat.pow_succ]; omega, ?_⟩
    · unfold nmV numV
      rw [if_pos (by omega), h1, Int32.mul_comm]
    · unfold numV
      rw [h2, hx, show (10 : Int32) = nI 10 from rfl, show (48 : Int32) = nI 48 from rfl, ← nI_ml, ← nI_ad, nI_sub (by omega)]
      congr 1
      omega
theorem num_nm {T : Nat → Int32} {N e : Nat} : nmOk T N e = !decide (numR T N e = -1) ∧ (nmOk T N e = true → wEnd T 2 N (tkS T N e) = tkE T N e ∧ nmV T (tkS T N e) (wEnd T 2 N (tkS T N e) - tkS T N e) = numR T N e ∧ ∃ v, v < 1000 ∧ numR T N e = nI v) := by
  obtain ⟨h1, h2⟩ := tk_end (T := T) (N := N) (e := e) (kd := 2) (Or.inr rfl)
  unfold nmOk numR
  by_cases hk : tkK T N e = 2
  · obtain ⟨g1, g2⟩ := h1 hk
    rw [g1, decide_eq_false (show ¬ tkE T N e = tkS T N e by omega)]
    by_cases h3 : tkE T N e - tkS T N e ≤ 3
    · have hlet : ∀ j, j < tkE T N e - tkS T N e → kOf (T (tkS T N e + j)) = 2 := fun j hj => skK_all (kd := 2) (N - tkS T N e) (tkS T N e) _ (by omega) (by
        have : skK T 2 (tkS T N e) (N - tkS T N e) = tkE T N e := g1
        omega)
      obtain ⟨q1, v, hv, q2⟩ := numV_n _ h3 hlet
      have hv3 : v < 1000 := by
        have : 10 ^ (tkE T N e - tkS T N e) ≤ 10 ^ 3 := Nat.pow_le_pow_right (by decide) h3
        omega
      rw [if_pos ⟨hk, h3⟩, decide_eq_true h3, q2, decide_eq_false (nI_nm (by omega))]
      exact ⟨rfl, fun _ => ⟨rfl, by rw [q1, q2], v, hv3, rfl⟩⟩
    · rw [if_neg (fun q => h3 q.2), decide_eq_false h3]
      exact ⟨rfl, fun q => absurd q (by decide)⟩
  · rw [h2 hk, if_neg (fun q => hk q.1), decide_eq_true rfl]
    exact ⟨rfl, fun q => by simp at q⟩
/-- alike but for the text's scratch -/
def scx (S Z : tf_M) : Prop := (∀ x, x ≠ 30 → Z x = S x) ∧ ∀ k, k ≠ 31 → k ≠ 39 → k ≠ 40 → Z 30 k = S 30 k
theorem scx.rf {S : tf_M} : scx S S := ⟨fun _ _ => rfl, fun _ _ _ _ => rfl⟩
theorem scx.tr {S Z W : tf_M} (h : scx S Z) (g : scx Z W) : scx S W := ⟨fun x hx => (g.1 x hx).trans (h.1 x hx), fun k a b c => (g.2 k a b c).trans (h.2 k a b c)⟩
theorem scx.p31 {S : tf_M} {v : Int32} : scx S (s2 S 30 31 v) := ⟨fun x hx => s2_ne hx, fun k a _ _ => s2_nk a⟩
theorem scx.p39 {S : tf_M} {v : Int32} : scx S (s2 S 30 39 v) := ⟨fun x hx => s2_ne hx, fun k _ a _ => s2_nk a⟩
theorem scx.p40 {S : tf_M} {v : Int32} : scx S (s2 S 30 40 v) := ⟨fun x hx => s2_ne hx, fun k _ _ a => s2_nk a⟩
theorem scx.put {S Z : tf_M} {j k : Nat} {v : Int32} (hj : j ≠ 30) (h : scx S Z) : scx (s2 S j k v) (s2 Z j k v) := by
  refine ⟨fun x hx => ?_, fun k' a b c => ?_⟩
  · by_cases e : x = j
    · subst e; funext y; simp only [s2, tf_u, if_pos, upd]; rw [h.1 x hx]
    · rw [s2_ne e, s2_ne e]; exact h.1 x hx
  · rw [s2_ne (Ne.symm hj), s2_ne (Ne.symm hj)]; exact h.2 k' a b c
theorem tk_fact {Z : tf_M} {T : Nat → Int32} {N p e : Nat} (i : Nat) {c : Int64} (hi : i < 9) (hc : c = wcO i) (hT : Z 58 = T) (hp : tkS T N p = tkS T N e) : decide (wordV (Z 58) N p = c) = wrdT T N e i ∧ scx Z (tkWd Z N p c) ∧ tkWd Z N p c 30 31 = nI (if wrdT T N e i = true then tkE T N e else tkS T N e) := by
  subst hc
  have h1 := word_wrd (T := T) (N := N) (e := p) hi
  rw [wrdT_c hp] at h1
  rw [hT]
  refine ⟨?_, ?_, ?_⟩
  · cases h : wrdT T N e i with
    | true => exact decide_eq_true (h1.mpr h)
    | false => exact decide_eq_false fun g => by rw [h1.mp g] at h; cases h
  · unfold tkWd wordS
    split
    · exact (scx.p31.tr scx.p39).tr scx.p31
    · exact scx.p31.tr scx.p39
  · unfold tkWd wordS
    rw [hT, hp]
    by_cases h : wrdT T N e i = true
    · have hk : tkK T N e = 1 := by
        unfold wrdT at h
        rw [Bool.and_eq_true, Bool.and_eq_true, decide_eq_true_eq] at h
        exact h.1.1
      rw [if_pos (h1.mpr h), if_pos h, ((tk_end (Or.inl rfl)).1 hk).1]
      exact s2_eq
    · rw [if_neg (fun g => h (h1.mp g)), if_neg h, s2_nk (by decide)]
      exact s2_eq
theorem nm_fact {Z : tf_M} {T : Nat → Int32} {N p e : Nat} (hT : Z 58 = T) (hp : tkS T N p = tkS T N e) : nmOk (Z 58) N p = !decide (numR T N e = -1) ∧ scx Z (nmU Z N p) ∧ nmU Z N p 30 31 = nI (if numR T N e = -1 then tkS T N e else tkE T N e) ∧ (¬ numR T N e = -1 → nmU Z N p 30 40 = numR T N e) := by
  have h1 := num_nm (T := T) (N := N) (e := p)
  rw [numR_c hp, hp, tkE_c hp] at h1
  rw [hT]
  refine ⟨h1.1, ?_, ?_, ?_⟩
  · unfold nmU nmS
    split
    · exact (scx.p31.tr scx.p40).tr scx.p31
    · exact scx.p31.tr scx.p40
  · unfold nmU nmS
    rw [hT, hp]
    by_cases h : numR T N e = -1
    · rw [if_neg (by rw [h1.1, decide_eq_true h]; decide), if_pos h, s2_nk (by decide)]
      exact s2_eq
    · have ho : nmOk T N p = true := by rw [h1.1, decide_eq_false h]; rfl
      rw [if_pos ho, if_neg h, (h1.2 ho).1]
      exact s2_eq
  · intro h
    have ho : nmOk T N p = true := by rw [h1.1, decide_eq_false h]; rfl
    unfold nmU nmS
    rw [hT, hp, if_pos ho, s2_nk (by decide), s2_eq]
    exact (h1.2 ho).2.1
