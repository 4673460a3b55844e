/-! what the two sides have in common -/
def IvX (nR n t nk k d : Nat) (S : tf_M) : Prop := (S 1 0 = nI nR) ∧ (S 30 0 = nI nR) ∧ (S 2 = S 31) ∧ (∀ l, l < 11 → S 3 l = S 32 l) ∧ (∀ l, l < 11 → ∃ b : Nat, 1 ≤ b ∧ b ≤ 60 ∧ S 32 l = nI b) ∧ (S 1 6 = nI nk) ∧ (S 30 4 = nI nk) ∧ (S 4 = S 39) ∧ (S 5 = S 40) ∧ (S 6 = S 41) ∧ (∀ i, i < nk → isP (S 39 i) (nI nR) = true) ∧ (∀ e : Nat, e ≤ 400 → (S 1 7 ≤ nI e ↔ S 30 6 ≤ nI e)) ∧ (S 1 8 = S 30 7) ∧ (S 0 7 = nI d) ∧ (S 30 3 = nI d) ∧ (S 7 2 = nI n) ∧ (S 30 5 = nI n) ∧ (S 10 1 = nI k) ∧ (S 30 29 = nI k) ∧ (S 11 = S 57) ∧ (∀ j, vp_nar .byte (S 57 j) = S 57 j) ∧ (S 18 = S 54) ∧ (S 19 = S 55) ∧ (S 20 = S 56) ∧ (S 17 3 = S 30 8) ∧ (S 13 2 = nI t) ∧ (S 30 33 = nI t) ∧ (S 0 8 = S 30 32) ∧ (∀ i, i < n → ¬ S 8 i = 0) ∧ (∀ i, n ≤ i → S 8 i = 0) ∧ (∀ i, i < t → ¬ S 14 i = 0) ∧ (∀ i, t ≤ i → S 14 i = 0) ∧ (S 15 0 = -1 ∧ S 15 3 = 2 ∧ S 15 4 = 20 ∧ S 15 5 = 2 ∧ S 15 6 = 1) ∧ (∀ r, r < nR → S 16 r = 3)
theorem IvX.i1 {nR n t nk k d : Nat} {S : tf_M} (h : IvX nR n t nk k d S) : S 1 0 = nI nR := h.1
theorem IvX.i2 {nR n t nk k d : Nat} {S : tf_M} (h : IvX nR n t nk k d S) : S 30 0 = nI nR := h.2.1
theorem IvX.i3 {nR n t nk k d : Nat} {S : tf_M} (h : IvX nR n t nk k d S) : S 2 = S 31 := h.2.2.1
theorem IvX.i4 {nR n t nk k d : Nat} {S : tf_M} (h : IvX nR n t nk k d S) : ∀ l, l < 11 → S 3 l = S 32 l := h.2.2.2.1
theorem IvX.i5 {nR n t nk k d : Nat} {S : tf_M} (h : IvX nR n t nk k d S) : ∀ l, l < 11 → ∃ b : Nat, 1 ≤ b ∧ b ≤ 60 ∧ S 32 l = nI b := h.2.2.2.2.1
theorem IvX.i6 {nR n t nk k d : Nat} {S : tf_M} (h : IvX nR n t nk k d S) : S 1 6 = nI nk := h.2.2.2.2.2.1
theorem IvX.i7 {nR n t nk k d : Nat} {S : tf_M} (h : IvX nR n t nk k d S) : S 30 4 = nI nk := h.2.2.2.2.2.2.1
theorem IvX.i8 {nR n t nk k d : Nat} {S : tf_M} (h : IvX nR n t nk k d S) : S 4 = S 39 := h.2.2.2.2.2.2.2.1
theorem IvX.i9 {nR n t nk k d : Nat} {S : tf_M} (h : IvX nR n t nk k d S) : S 5 = S 40 := h.2.2.2.2.2.2.2.2.1
theorem IvX.i10 {nR n t nk k d : Nat} {S : tf_M} (h : IvX nR n t nk k d S) : S 6 = S 41 := h.2.2.2.2.2.2.2.2.2.1
theorem IvX.i11 {nR n t nk k d : Nat} {S : tf_M} (h : IvX nR n t nk k d S) : ∀ i, i < nk → isP (S 39 i) (nI nR) = true := h.2.2.2.2.2.2.2.2.2.2.1
theorem IvX.i12 {nR n t nk k d : Nat} {S : tf_M} (h : IvX nR n t nk k d S) : ∀ e : Nat, e ≤ 400 → (S 1 7 ≤ nI e ↔ S 30 6 ≤ nI e) := h.2.2.2.2.2.2.2.2.2.2.2.1
theorem IvX.i13 {nR n t nk k d : Nat} {S : tf_M} (h : IvX nR n t nk k d S) : S 1 8 = S 30 7 := h.2.2.2.2.2.2.2.2.2.2.2.2.1
theorem IvX.i14 {nR n t nk k d : Nat} {S : tf_M} (h : IvX nR n t nk k d S) : S 0 7 = nI d := h.2.2.2.2.2.2.2.2.2.2.2.2.2.1
theorem IvX.i15 {nR n t nk k d : Nat} {S : tf_M} (h : IvX nR n t nk k d S) : S 30 3 = nI d := h.2.2.2.2.2.2.2.2.2.2.2.2.2.2.1
theorem IvX.i16 {nR n t nk k d : Nat} {S : tf_M} (h : IvX nR n t nk k d S) : S 7 2 = nI n := h.2.2.2.2.2.2.2.2.2.2.2.2.2.2.2.1
theorem IvX.i17 {nR n t nk k d : Nat} {S : tf_M} (h : IvX nR n t nk k d S) : S 30 5 = nI n := h.2.2.2.2.2.2.2.2.2.2.2.2.2.2.2.2.1
theorem IvX.i18 {nR n t nk k d : Nat} {S : tf_M} (h : IvX nR n t nk k d S) : S 10 1 = nI k := h.2.2.2.2.2.2.2.2.2.2.2.2.2.2.2.2.2.1
theorem IvX.i19 {nR n t nk k d : Nat} {S : tf_M} (h : IvX nR n t nk k d S) : S 30 29 = nI k := h.2.2.2.2.2.2.2.2.2.2.2.2.2.2.2.2.2.2.1
theorem IvX.i20 {nR n t nk k d : Nat} {S : tf_M} (h : IvX nR n t nk k d S) : S 11 = S 57 := h.2.2.2.2.2.2.2.2.2.2.2.2.2.2.2.2.2.2.2.1
theorem IvX.i21 {nR n t nk k d : Nat} {S : tf_M} (h : IvX nR n t nk k d S) : ∀ j, vp_nar .byte (S 57 j) = S 57 j := h.2.2.2.2.2.2.2.2.2.2.2.2.2.2.2.2.2.2.2.2.1
theorem IvX.i22 {nR n t nk k d : Nat} {S : tf_M} (h : IvX nR n t nk k d S) : S 18 = S 54 := h.2.2.2.2.2.2.2.2.2.2.2.2.2.2.2.2.2.2.2.2.2.1
theorem IvX.i23 {nR n t nk k d : Nat} {S : tf_M} (h : IvX nR n t nk k d S) : S 19 = S 55 := h.2.2.2.2.2.2.2.2.2.2.2.2.2.2.2.2.2.2.2.2.2.2.1
theorem IvX.i24 {nR n t nk k d : Nat} {S : tf_M} (h : IvX nR n t nk k d S) : S 20 = S 56 := h.2.2.2.2.2.2.2.2.2.2.2.2.2.2.2.2.2.2.2.2.2.2.2.1
theorem IvX.i25 {nR n t nk k d : Nat} {S : tf_M} (h : IvX nR n t nk k d S) : S 17 3 = S 30 8 := h.2.2.2.2.2.2.2.2.2.2.2.2.2.2.2.2.2.2.2.2.2.2.2.2.1
theorem IvX.i26 {nR n t nk k d : Nat} {S : tf_M} (h : IvX nR n t nk k d S) : S 13 2 = nI t := h.2.2.2.2.2.2.2.2.2.2.2.2.2.2.2.2.2.2.2.2.2.2.2.2.2.1
theorem IvX.i27 {nR n t nk k d : Nat} {S : tf_M} (h : IvX nR n t nk k d S) : S 30 33 = nI t := h.2.2.2.2.2.2.2.2.2.2.2.2.2.2.2.2.2.2.2.2.2.2.2.2.2.2.1
theorem IvX.i28 {nR n t nk k d : Nat} {S : tf_M} (h : IvX nR n t nk k d S) : S 0 8 = S 30 32 := h.2.2.2.2.2.2.2.2.2.2.2.2.2.2.2.2.2.2.2.2.2.2.2.2.2.2.2.1
theorem IvX.i29 {nR n t nk k d : Nat} {S : tf_M} (h : IvX nR n t nk k d S) : ∀ i, i < n → ¬ S 8 i = 0 := h.2.2.2.2.2.2.2.2.2.2.2.2.2.2.2.2.2.2.2.2.2.2.2.2.2.2.2.2.1
theorem IvX.i30 {nR n t nk k d : Nat} {S : tf_M} (h : IvX nR n t nk k d S) : ∀ i, n ≤ i → S 8 i = 0 := h.2.2.2.2.2.2.2.2.2.2.2.2.2.2.2.2.2.2.2.2.2.2.2.2.2.2.2.2.2.1
theorem IvX.i31 {nR n t nk k d : Nat} {S : tf_M} (h : IvX nR n t nk k d S) : ∀ i, i < t → ¬ S 14 i = 0 := h.2.2.2.2.2.2.2.2.2.2.2.2.2.2.2.2.2.2.2.2.2.2.2.2.2.2.2.2.2.2.1
theorem IvX.i32 {nR n t nk k d : Nat} {S : tf_M} (h : IvX nR n t nk k d S) : ∀ i, t ≤ i → S 14 i = 0 := h.2.2.2.2.2.2.2.2.2.2.2.2.2.2.2.2.2.2.2.2.2.2.2.2.2.2.2.2.2.2.2.1
theorem IvX.i33 {nR n t nk k d : Nat} {S : tf_M} (h : IvX nR n t nk k d S) : S 15 0 = -1 ∧ S 15 3 = 2 ∧ S 15 4 = 20 ∧ S 15 5 = 2 ∧ S 15 6 = 1 := h.2.2.2.2.2.2.2.2.2.2.2.2.2.2.2.2.2.2.2.2.2.2.2.2.2.2.2.2.2.2.2.2.1
theorem IvX.i34 {nR n t nk k d : Nat} {S : tf_M} (h : IvX nR n t nk k d S) : ∀ r, r < nR → S 16 r = 3 := h.2.2.2.2.2.2.2.2.2.2.2.2.2.2.2.2.2.2.2.2.2.2.2.2.2.2.2.2.2.2.2.2.2
def QOk (nR i : Nat) (S : tf_M) : Prop := (S (100 + i) 0 = S 42 i) ∧ (S (100 + i) 1 = S 43 i) ∧ (S (100 + i) 2 = S 44 i) ∧ (S (100 + i) 3 = S 46 i) ∧ (S (100 + i) 6 = S 47 i) ∧ (S (100 + i) 7 = S 48 i) ∧ (S (100 + i) 8 = S 45 i) ∧ (S (100 + i) 9 = S 49 i) ∧ (S (100 + i) 10 = S 50 i) ∧ (S (100 + i) 11 = S 51 i) ∧ (∀ r, r < nR → S (200 + i) r = S 52 (12 * i + r)) ∧ (∀ c, c < 4 → S (300 + i) c = S 53 (5 * i + c + 1)) ∧ (∃ r, r < nR ∧ S 47 i = nI r ∧ (S 48 i = -1 ↔ r < nR - 1)) ∧ (∃ b : Nat, 1 ≤ b ∧ b ≤ 50 ∧ S 43 i = nI b) ∧ (∃ e : Nat, e ≤ 400 ∧ S 50 i = nI e) ∧ (S 48 i = -1 ∨ ∃ e : Nat, e ≤ 400 ∧ S 48 i = nI e) ∧ (∃ c : Nat, c ≤ 5 ∧ S 42 i = nI c)
theorem QOk.q0 {nR i : Nat} {S : tf_M} (h : QOk nR i S) : S (100 + i) 0 = S 42 i := h.1
theorem QOk.q1 {nR i : Nat} {S : tf_M} (h : QOk nR i S) : S (100 + i) 1 = S 43 i := h.2.1
theorem QOk.q2 {nR i : Nat} {S : tf_M} (h : QOk nR i S) : S (100 + i) 2 = S 44 i := h.2.2.1
theorem QOk.q3 {nR i : Nat} {S : tf_M} (h : QOk nR i S) : S (100 + i) 3 = S 46 i := h.2.2.2.1
theorem QOk.q6 {nR i : Nat} {S : tf_M} (h : QOk nR i S) : S (100 + i) 6 = S 47 i := h.2.2.2.2.1
theorem QOk.q7 {nR i : Nat} {S : tf_M} (h : QOk nR i S) : S (100 + i) 7 = S 48 i := h.2.2.2.2.2.1
theorem QOk.q8 {nR i : Nat} {S : tf_M} (h : QOk nR i S) : S (100 + i) 8 = S 45 i := h.2.2.2.2.2.2.1
theorem QOk.q9 {nR i : Nat} {S : tf_M} (h : QOk nR i S) : S (100 + i) 9 = S 49 i := h.2.2.2.2.2.2.2.1
theorem QOk.q10 {nR i : Nat} {S : tf_M} (h : QOk nR i S) : S (100 + i) 10 = S 50 i := h.2.2.2.2.2.2.2.2.1
theorem QOk.q11 {nR i : Nat} {S : tf_M} (h : QOk nR i S) : S (100 + i) 11 = S 51 i := h.2.2.2.2.2.2.2.2.2.1
theorem QOk.qd {nR i : Nat} {S : tf_M} (h : QOk nR i S) : ∀ r, r < nR → S (200 + i) r = S 52 (12 * i + r) := h.2.2.2.2.2.2.2.2.2.2.1
theorem QOk.qb {nR i : Nat} {S : tf_M} (h : QOk nR i S) : ∀ c, c < 4 → S (300 + i) c = S 53 (5 * i + c + 1) := h.2.2.2.2.2.2.2.2.2.2.2.1
theorem QOk.qat {nR i : Nat} {S : tf_M} (h : QOk nR i S) : ∃ r, r < nR ∧ S 47 i = nI r ∧ (S 48 i = -1 ↔ r < nR - 1) := h.2.2.2.2.2.2.2.2.2.2.2.2.1
theorem QOk.qbo {nR i : Nat} {S : tf_M} (h : QOk nR i S) : ∃ b : Nat, 1 ≤ b ∧ b ≤ 50 ∧ S 43 i = nI b := h.2.2.2.2.2.2.2.2.2.2.2.2.2.1
theorem QOk.qdu {nR i : Nat} {S : tf_M} (h : QOk nR i S) : ∃ e : Nat, e ≤ 400 ∧ S 50 i = nI e := h.2.2.2.2.2.2.2.2.2.2.2.2.2.2.1
theorem QOk.qc {nR i : Nat} {S : tf_M} (h : QOk nR i S) : S 48 i = -1 ∨ ∃ e : Nat, e ≤ 400 ∧ S 48 i = nI e := h.2.2.2.2.2.2.2.2.2.2.2.2.2.2.2.1
theorem QOk.qco {nR i : Nat} {S : tf_M} (h : QOk nR i S) : ∃ c : Nat, c ≤ 5 ∧ S 42 i = nI c := h.2.2.2.2.2.2.2.2.2.2.2.2.2.2.2.2
def QFr (i : Nat) (S : tf_M) : Prop := (S 45 i = 0) ∧ (S 47 i = 0) ∧ (S 49 i = 0) ∧ (S 51 i = 0) ∧ (∀ r, r < 12 → S 52 (12 * i + r) = 0) ∧ (∀ c, c < 5 → S 53 (5 * i + c) = 0)
theorem QFr.f45 {i : Nat} {S : tf_M} (h : QFr i S) : S 45 i = 0 := h.1
theorem QFr.f47 {i : Nat} {S : tf_M} (h : QFr i S) : S 47 i = 0 := h.2.1
theorem QFr.f49 {i : Nat} {S : tf_M} (h : QFr i S) : S 49 i = 0 := h.2.2.1
theorem QFr.f51 {i : Nat} {S : tf_M} (h : QFr i S) : S 51 i = 0 := h.2.2.2.1
theorem QFr.f52 {i : Nat} {S : tf_M} (h : QFr i S) : ∀ r, r < 12 → S 52 (12 * i + r) = 0 := h.2.2.2.2.1
theorem QFr.f53 {i : Nat} {S : tf_M} (h : QFr i S) : ∀ c, c < 5 → S 53 (5 * i + c) = 0 := h.2.2.2.2.2
def IvQ (nR n : Nat) (S : tf_M) : Prop := (∀ i, i < n → QOk nR i S) ∧ ∀ i, n ≤ i → QFr i S
def TOk (nR i : Nat) (S : tf_M) : Prop := (S (400 + i) 0 = nI i) ∧ (S (400 + i) 1 = S 65 i) ∧ (∃ c : Nat, c ≤ 16 ∧ S 64 i = nI c ∧ S (400 + i) 3 = tellV S 0 0 2 (16 * i) c ∧ S (400 + i) 4 = tellV S 2 0 20 (16 * i) c ∧ S (400 + i) 5 = tellV S 3 0 2 (16 * i) c ∧ S (400 + i) 6 = tellV S 4 0 1 (16 * i) c ∧ ∀ r, r < nR → S (500 + i) r = tellV S 1 (nI r) 3 (16 * i) c)
theorem TOk.t0 {nR i : Nat} {S : tf_M} (h : TOk nR i S) : S (400 + i) 0 = nI i := h.1
theorem TOk.t1 {nR i : Nat} {S : tf_M} (h : TOk nR i S) : S (400 + i) 1 = S 65 i := h.2.1
theorem TOk.tc {nR i : Nat} {S : tf_M} (h : TOk nR i S) : ∃ c : Nat, c ≤ 16 ∧ S 64 i = nI c ∧ S (400 + i) 3 = tellV S 0 0 2 (16 * i) c ∧ S (400 + i) 4 = tellV S 2 0 20 (16 * i) c ∧ S (400 + i) 5 = tellV S 3 0 2 (16 * i) c ∧ S (400 + i) 6 = tellV S 4 0 1 (16 * i) c ∧ ∀ r, r < nR → S (500 + i) r = tellV S 1 (nI r) 3 (16 * i) c := h.2.2
def IvT (nR t : Nat) (S : tf_M) : Prop := ∀ i, i < t → TOk nR i S
def Bd (nR n t nk k d : Nat) : Prop := 3 ≤ nR ∧ nR ≤ 12 ∧ n ≤ 12 ∧ t ≤ 10 ∧ nk ≤ 4 ∧ k ≤ 400 ∧ d ≤ 400
def Iv (nR n t nk k d : Nat) (S : tf_M) : Prop := Bd nR n t nk k d ∧ IvX nR n t nk k d S ∧ IvQ nR n S ∧ IvT nR t S
theorem tellV_keep {S S1 : tf_M} {a r wo : Int32} {base : Nat} : ∀ c, (∀ j, j < c → S1 66 (base + j) = S 66 (base + j) ∧ S1 67 (base + j) = S 67 (base + j) ∧ S1 68 (base + j) = S 68 (base + j)) → tellV S1 a r wo base c = tellV S a r wo base c := by
  intro c
  induction c with
  | zero => intro _; rfl
  | succ c ih =>
    intro h
    obtain ⟨h1, h2, h3⟩ := h c (by omega)
    unfold tellV
    rw [h1, h2, h3, ih fun j hj => h j (by omega)]
theorem QOk.keep {nR i : Nat} {S S1 : tf_M} (hi : i < 100) (h : ∀ x, (42 ≤ x ∧ x ≤ 53) ∨ (100 ≤ x ∧ x < 400) → S1 x = S x) (I : QOk nR i S) : QOk nR i S1 := by
  unfold QOk at I ⊢
  rw [h (100 + i) (by omega), h (200 + i) (by omega), h (300 + i) (by omega), h 42 (by omega), h 43 (by omega), h 44 (by omega), h 45 (by omega), h 46 (by omega), h 47 (by omega), h 48 (by omega), h 49 (by omega), h 50 (by omega), h 51 (by omega), h 52 (by omega), h 53 (by omega)]
  exact I
theorem QFr.keep {i : Nat} {S S1 : tf_M} (h : ∀ x, 45 ≤ x ∧ x ≤ 53 → S1 x = S x) (I : QFr i S) : QFr i S1 := by
  unfold QFr at I ⊢
  rw [h 45 (by omega), h 47 (by omega), h 49 (by omega), h 51 (by omega), h 52 (by omega), h 53 (by omega)]
  exact I
theorem IvQ.keep {nR n : Nat} {S S1 : tf_M} (hn : n ≤ 12) (h : ∀ x, (42 ≤ x ∧ x ≤ 53) ∨ (100 ≤ x ∧ x < 400) → S1 x = S x) (I : IvQ nR n S) : IvQ nR n S1 := ⟨fun i hi => (I.1 i hi).keep (by omega) h, fun i hi => (I.2 i hi).keep fun x hx => h x (by omega)⟩
theorem TOk.keep {nR i : Nat} {S S1 : tf_M} (h : ∀ x, (64 ≤ x ∧ x ≤ 68) ∨ 400 ≤ x → S1 x = S x) (I : TOk nR i S) : TOk nR i S1 := by
  have e : ∀ a r wo c, tellV S1 a r wo (16 * i) c = tellV S a r wo (16 * i) c := fun a r wo c => tellV_keep c fun j _ => by rw [h 66 (by omega), h 67 (by omega), h 68 (by omega)]; exact ⟨rfl, rfl, rfl⟩
  unfold TOk at I ⊢
  simp only [e]
  rw [h (400 + i) (by omega), h (500 + i) (by omega), h 64 (by omega), h 65 (by omega)]
  exact I
theorem IvT.keep {nR t : Nat} {S S1 : tf_M} (h : ∀ x, (64 ≤ x ∧ x ≤ 68) ∨ 400 ≤ x → S1 x = S x) (I : IvT nR t S) : IvT nR t S1 := fun i hi => (I i hi).keep h
theorem IvX.keep {nR n t nk k d : Nat} {S S1 : tf_M} (h : ∀ x, x < 21 ∨ (30 ≤ x ∧ x ≤ 41) ∨ (54 ≤ x ∧ x ≤ 57) → S1 x = S x) (I : IvX nR n t nk k d S) : IvX nR n t nk k d S1 := by
  unfold IvX at I ⊢
  rw [h 0 (by omega), h 1 (by omega), h 2 (by omega), h 3 (by omega), h 4 (by omega), h 5 (by omega), h 6 (by omega), h 7 (by omega), h 8 (by omega), h 10 (by omega), h 11 (by omega), h 13 (by omega), h 14 (by omega), h 15 (by omega), h 16 (by omega), h 17 (by omega), h 18 (by omega), h 19 (by omega), h 20 (by omega), h 30 (by omega), h 31 (by omega), h 32 (by omega), h 39 (by omega), h 40 (by omega), h 41 (by omega), h 54 (by omega), h 55 (by omega), h 56 (by omega), h 57 (by omega)]
  exact I
/-- nothing that both sides hold has changed -/
theorem Iv.keep {nR n t nk k d : Nat} {S S1 : tf_M} (h : ∀ x, x < 12 ∨ (13 ≤ x ∧ x < 21) ∨ (30 ≤ x ∧ x < 58) ∨ (64 ≤ x ∧ x < 72) ∨ 100 ≤ x → S1 x = S x) (I : Iv nR n t nk k d S) : Iv nR n t nk k d S1 := by
  refine ⟨I.1, ?_, I.2.2.1.keep I.1.2.2.1 fun x hx => h x (by omega), I.2.2.2.keep fun x hx => h x (by omega)⟩
  have I2 := I.2.1
  unfold IvX at I2 ⊢
  rw [h 0 (by omega), h 1 (by omega), h 2 (by omega), h 3 (by omega), h 4 (by omega), h 5 (by omega), h 6 (by omega), h 7 (by omega), h 8 (by omega), h 10 (by omega), h 11 (by omega), h 13 (by omega), h 14 (by omega), h 15 (by omega), h 16 (by omega), h 17 (by omega), h 18 (by omega), h 19 (by omega), h 20 (by omega), h 30 (by omega), h 31 (by omega), h 32 (by omega), h 39 (by omega), h 40 (by omega), h 41 (by omega), h 54 (by omega), h 55 (by omega), h 56 (by omega), h 57 (by omega)]
  exact I2
theorem isW_n {v : Int32} {a b : Nat} (hb : b < 2 ^ 31) (h : isW v (nI a) (nI b) = true) (ha : a < 2 ^ 31) : ∃ j : Nat, a ≤ j ∧ j ≤ b ∧ v = nI j := by
  obtain ⟨h1, h2⟩ := isW_t h
  have e1 := Int32.le_iff_toInt_le.mp h1
  have e2 := Int32.le_iff_toInt_le.mp h2
  rw [nI_toInt ha] at e1
  rw [nI_toInt hb] at e2
  obtain ⟨j, hj, rfl⟩ := nI_of (x := v) (by rw [Int32.lt_iff_toInt_lt]; have e0 : (0 : Int32).toInt = 0 := rfl; omega)
  rw [nI_toInt hj] at e1 e2
  exact ⟨j, by omega, by omega, rfl⟩
theorem mid_water {nR n t nk k d : Nat} {S u : tf_M} (I : Iv nR n t nk k d S) (a b : Int32) (hu : u = if (isP a (S 1 0) && isW b 0 1000) = true then s2 S 2 a.toNatClampNeg b else S) : ∀ x, 30 ≤ x → x < 100 → u x = S x := by
  intro x h1 h2
  rw [hu]
  split
  · rw [s2_ne (by omega)]
  · rfl
theorem sx_water {nR n t nk k d : Nat} {S : tf_M} (B : Bd nR n t nk k d) (I : IvX nR n t nk k d S) (a b : Int32) (hg : (isP a (S 1 0) && isW b 0 1000) = true) : IvX nR n t nk k d (s2 (s2 S 2 a.toNatClampNeg b) 31 a.toNatClampNeg b) := by
  refine ⟨I.i1, I.i2, ?_, I.i4, I.i5, I.i6, I.i7, I.i8, I.i9, I.i10, I.i11, I.i12, I.i13, I.i14, I.i15, I.i16, I.i17, I.i18, I.i19, I.i20, I.i21, I.i22, I.i23, I.i24, I.i25, I.i26, I.i27, I.i28, I.i29, I.i30, I.i31, I.i32, I.i33, I.i34⟩
  · show upd (S 2) _ _ = upd (S 31) _ _
    rw [I.i3]

theorem sw_water {nR n t nk k d : Nat} {S : tf_M} (I : Iv nR n t nk k d S) (a b : Int32) {x y : Int32} {u w : tf_M} (hx : x = bI (isP a (S 1 0) && isW b 0 1000) ∧ u = if (isP a (S 1 0) && isW b 0 1000) = true then s2 S 2 a.toNatClampNeg b else S) (hy : y = bI (isP a (nI nR) && isW b 0 1000) ∧ w = if (isP a (nI nR) && isW b 0 1000) = true then s2 u 31 a.toNatClampNeg b else u) : x = y ∧ ∃ nk1 k1 d1, Iv nR n t nk1 k1 d1 w := by
  obtain ⟨rfl, rfl⟩ := hx
  obtain ⟨rfl, rfl⟩ := hy
  have B := I.1
  have e : ((isP a (S 1 0) && isW b 0 1000) = true) = ((isP a (nI nR) && isW b 0 1000) = true) := by
    rw [I.2.1.i1]
  by_cases hg : (isP a (S 1 0) && isW b 0 1000) = true
  · have hg2 : (isP a (nI nR) && isW b 0 1000) = true := e ▸ hg
    simp only [if_pos hg, if_pos hg2]
    exact ⟨by rw [I.2.1.i1], nk, k, d, I.1, sx_water I.1 I.2.1 a b  hg, I.2.2.1.keep I.1.2.2.1 (fun x hx => by rw [s2_ne (by omega), s2_ne (by omega)]), I.2.2.2.keep (fun x hx => by rw [s2_ne (by omega), s2_ne (by omega)])⟩
  · have hg2 : ¬ ((isP a (nI nR) && isW b 0 1000) = true) := e ▸ hg
    simp only [if_neg hg, if_neg hg2]
    exact ⟨by rw [I.2.1.i1], nk, k, d, I⟩
theorem mid_give {nR n t nk k d : Nat} {S u : tf_M} (I : Iv nR n t nk k d S) (a b : Int32) (hu : u = if (isP a (S 1 6) && isW b 0 100) = true then s2 S 6 a.toNatClampNeg b else S) : ∀ x, 30 ≤ x → x < 100 → u x = S x := by
  intro x h1 h2
  rw [hu]
  split
  · rw [s2_ne (by omega)]
  · rfl
theorem sx_give {nR n t nk k d : Nat} {S : tf_M} (B : Bd nR n t nk k d) (I : IvX nR n t nk k d S) (a b : Int32) (hg : (isP a (S 1 6) && isW b 0 100) = true) : IvX nR n t nk k d (s2 (s2 S 6 a.toNatClampNeg b) 41 a.toNatClampNeg b) := by
  refine ⟨I.i1, I.i2, I.i3, I.i4, I.i5, I.i6, I.i7, I.i8, I.i9, ?_, I.i11, I.i12, I.i13, I.i14, I.i15, I.i16, I.i17, I.i18, I.i19, I.i20, I.i21, I.i22, I.i23, I.i24, I.i25, I.i26, I.i27, I.i28, I.i29, I.i30, I.i31, I.i32, I.i33, I.i34⟩
  · show upd (S 6) _ _ = upd (S 41) _ _
    rw [I.i10]

theorem sw_give {nR n t nk k d : Nat} {S : tf_M} (I : Iv nR n t nk k d S) (a b : Int32) {x y : Int32} {u w : tf_M} (hx : x = bI (isP a (S 1 6) && isW b 0 100) ∧ u = if (isP a (S 1 6) && isW b 0 100) = true then s2 S 6 a.toNatClampNeg b else S) (hy : y = bI (isP a (nI nk) && isW b 0 100) ∧ w = if (isP a (nI nk) && isW b 0 100) = true then s2 u 41 a.toNatClampNeg b else u) : x = y ∧ ∃ nk1 k1 d1, Iv nR n t nk1 k1 d1 w := by
  obtain ⟨rfl, rfl⟩ := hx
  obtain ⟨rfl, rfl⟩ := hy
  have B := I.1
  have e : ((isP a (S 1 6) && isW b 0 100) = true) = ((isP a (nI nk) && isW b 0 100) = true) := by
    rw [I.2.1.i6]
  by_cases hg : (isP a (S 1 6) && isW b 0 100) = true
  · have hg2 : (isP a (nI nk) && isW b 0 100) = true := e ▸ hg
    simp only [if_pos hg, if_pos hg2]
    exact ⟨by rw [I.2.1.i6], nk, k, d, I.1, sx_give I.1 I.2.1 a b  hg, I.2.2.1.keep I.1.2.2.1 (fun x hx => by rw [s2_ne (by omega), s2_ne (by omega)]), I.2.2.2.keep (fun x hx => by rw [s2_ne (by omega), s2_ne (by omega)])⟩
  · have hg2 : ¬ ((isP a (nI nk) && isW b 0 100) = true) := e ▸ hg
    simp only [if_neg hg, if_neg hg2]
    exact ⟨by rw [I.2.1.i6], nk, k, d, I⟩
theorem mid_allot {nR n t nk k d : Nat} {S u : tf_M} (I : Iv nR n t nk k d S) (a b : Int32) (hu : u = if (isW a 0 5 && isW b 0 10000) = true then s2 S 18 a.toNatClampNeg b else S) : ∀ x, 30 ≤ x → x < 100 → u x = S x := by
  intro x h1 h2
  rw [hu]
  split
  · rw [s2_ne (by omega)]
  · rfl
theorem sx_allot {nR n t nk k d : Nat} {S : tf_M} (B : Bd nR n t nk k d) (I : IvX nR n t nk k d S) (a b : Int32) (hg : (isW a 0 5 && isW b 0 10000) = true) : IvX nR n t nk k d (s2 (s2 S 18 a.toNatClampNeg b) 54 a.toNatClampNeg b) := by
  refine ⟨I.i1, I.i2, I.i3, I.i4, I.i5, I.i6, I.i7, I.i8, I.i9, I.i10, I.i11, I.i12, I.i13, I.i14, I.i15, I.i16, I.i17, I.i18, I.i19, I.i20, I.i21, ?_, I.i23, I.i24, I.i25, I.i26, I.i27, I.i28, I.i29, I.i30, I.i31, I.i32, I.i33, I.i34⟩
  · show upd (S 18) _ _ = upd (S 54) _ _
    rw [I.i22]

theorem sw_allot {nR n t nk k d : Nat} {S : tf_M} (I : Iv nR n t nk k d S) (a b : Int32) {x y : Int32} {u w : tf_M} (hx : x = bI (isW a 0 5 && isW b 0 10000) ∧ u = if (isW a 0 5 && isW b 0 10000) = true then s2 S 18 a.toNatClampNeg b else S) (hy : y = bI (isW a 0 5 && isW b 0 10000) ∧ w = if (isW a 0 5 && isW b 0 10000) = true then s2 u 54 a.toNatClampNeg b else u) : x = y ∧ ∃ nk1 k1 d1, Iv nR n t nk1 k1 d1 w := by
  obtain ⟨rfl, rfl⟩ := hx
  obtain ⟨rfl, rfl⟩ := hy
  have B := I.1
  have e : ((isW a 0 5 && isW b 0 10000) = true) = ((isW a 0 5 && isW b 0 10000) = true) := by
    rfl
  by_cases hg : (isW a 0 5 && isW b 0 10000) = true
  · have hg2 : (isW a 0 5 && isW b 0 10000) = true := e ▸ hg
    simp only [if_pos hg, if_pos hg2]
    exact ⟨by first | trivial | rfl, nk, k, d, I.1, sx_allot I.1 I.2.1 a b  hg, I.2.2.1.keep I.1.2.2.1 (fun x hx => by rw [s2_ne (by omega), s2_ne (by omega)]), I.2.2.2.keep (fun x hx => by rw [s2_ne (by omega), s2_ne (by omega)])⟩
  · have hg2 : ¬ ((isW a 0 5 && isW b 0 10000) = true) := e ▸ hg
    simp only [if_neg hg, if_neg hg2]
    exact ⟨by first | trivial | rfl, nk, k, d, I⟩
theorem mid_rate {nR n t nk k d : Nat} {S u : tf_M} (I : Iv nR n t nk k d S) (a : Int32) (hu : u = if (isW a 0 100) = true then s2 S 17 3 a else S) : ∀ x, 30 ≤ x → x < 100 → u x = S x := by
  intro x h1 h2
  rw [hu]
  split
  · rw [s2_ne (by omega)]
  · rfl
theorem sx_rate {nR n t nk k d : Nat} {S : tf_M} (B : Bd nR n t nk k d) (I : IvX nR n t nk k d S) (a : Int32) (hg : (isW a 0 100) = true) : IvX nR n t nk k d (s2 (s2 S 17 3 a) 30 8 a) := by
  refine ⟨I.i1, I.i2, I.i3, I.i4, I.i5, I.i6, I.i7, I.i8, I.i9, I.i10, I.i11, I.i12, I.i13, I.i14, I.i15, I.i16, I.i17, I.i18, I.i19, I.i20, I.i21, I.i22, I.i23, I.i24, ?_, I.i26, I.i27, I.i28, I.i29, I.i30, I.i31, I.i32, I.i33, I.i34⟩
  · rfl

theorem sw_rate {nR n t nk k d : Nat} {S : tf_M} (I : Iv nR n t nk k d S) (a : Int32) {x y : Int32} {u w : tf_M} (hx : x = bI (isW a 0 100) ∧ u = if (isW a 0 100) = true then s2 S 17 3 a else S) (hy : y = bI (isW a 0 100) ∧ w = if (isW a 0 100) = true then s2 u 30 8 a else u) : x = y ∧ ∃ nk1 k1 d1, Iv nR n t nk1 k1 d1 w := by
  obtain ⟨rfl, rfl⟩ := hx
  obtain ⟨rfl, rfl⟩ := hy
  have B := I.1
  have e : ((isW a 0 100) = true) = ((isW a 0 100) = true) := by
    rfl
  by_cases hg : (isW a 0 100) = true
  · have hg2 : (isW a 0 100) = true := e ▸ hg
    simp only [if_pos hg, if_pos hg2]
    exact ⟨by first | trivial | rfl, nk, k, d, I.1, sx_rate I.1 I.2.1 a  hg, I.2.2.1.keep I.1.2.2.1 (fun x hx => by rw [s2_ne (by omega), s2_ne (by omega)]), I.2.2.2.keep (fun x hx => by rw [s2_ne (by omega), s2_ne (by omega)])⟩
  · have hg2 : ¬ ((isW a 0 100) = true) := e ▸ hg
    simp only [if_neg hg, if_neg hg2]
    exact ⟨by first | trivial | rfl, nk, k, d, I⟩
theorem mid_ice {nR n t nk k d : Nat} {S u : tf_M} (I : Iv nR n t nk k d S) (a b : Int32) (hu : u = if (isW a 0 400 && isP b (S 1 0)) = true then s2 (s2 S 1 7 a) 1 8 b else S) : ∀ x, 30 ≤ x → x < 100 → u x = S x := by
  intro x h1 h2
  rw [hu]
  split
  · rw [s2_ne (by omega), s2_ne (by omega)]
  · rfl
theorem sx_ice {nR n t nk k d : Nat} {S : tf_M} (B : Bd nR n t nk k d) (I : IvX nR n t nk k d S) (a b : Int32) (hg : (isW a 0 400 && isP b (S 1 0)) = true) : IvX nR n t nk k d (s2 (s2 (s2 (s2 S 1 7 a) 1 8 b) 30 6 a) 30 7 b) := by
  refine ⟨I.i1, I.i2, I.i3, I.i4, I.i5, I.i6, I.i7, I.i8, I.i9, I.i10, I.i11, ?_, ?_, I.i14, I.i15, I.i16, I.i17, I.i18, I.i19, I.i20, I.i21, I.i22, I.i23, I.i24, I.i25, I.i26, I.i27, I.i28, I.i29, I.i30, I.i31, I.i32, I.i33, I.i34⟩
  · intro e he
    exact Iff.rfl
  · rfl

theorem sw_ice {nR n t nk k d : Nat} {S : tf_M} (I : Iv nR n t nk k d S) (a b : Int32) {x y : Int32} {u w : tf_M} (hx : x = bI (isW a 0 400 && isP b (S 1 0)) ∧ u = if (isW a 0 400 && isP b (S 1 0)) = true then s2 (s2 S 1 7 a) 1 8 b else S) (hy : y = bI (isW a 0 400 && isP b (nI nR)) ∧ w = if (isW a 0 400 && isP b (nI nR)) = true then s2 (s2 u 30 6 a) 30 7 b else u) : x = y ∧ ∃ nk1 k1 d1, Iv nR n t nk1 k1 d1 w := by
  obtain ⟨rfl, rfl⟩ := hx
  obtain ⟨rfl, rfl⟩ := hy
  have B := I.1
  have e : ((isW a 0 400 && isP b (S 1 0)) = true) = ((isW a 0 400 && isP b (nI nR)) = true) := by
    rw [I.2.1.i1]
  by_cases hg : (isW a 0 400 && isP b (S 1 0)) = true
  · have hg2 : (isW a 0 400 && isP b (nI nR)) = true := e ▸ hg
    simp only [if_pos hg, if_pos hg2]
    exact ⟨by rw [I.2.1.i1], nk, k, d, I.1, sx_ice I.1 I.2.1 a b  hg, I.2.2.1.keep I.1.2.2.1 (fun x hx => by rw [s2_ne (by omega), s2_ne (by omega), s2_ne (by omega), s2_ne (by omega)]), I.2.2.2.keep (fun x hx => by rw [s2_ne (by omega), s2_ne (by omega), s2_ne (by omega), s2_ne (by omega)])⟩
  · have hg2 : ¬ ((isW a 0 400 && isP b (nI nR)) = true) := e ▸ hg
    simp only [if_neg hg, if_neg hg2]
    exact ⟨by rw [I.2.1.i1], nk, k, d, I⟩
theorem mid_lock {nR n t nk k d : Nat} {S u : tf_M} (I : Iv nR n t nk k d S) (a b : Int32) (hu : u = if (isP a (S 1 0 - 1) && isW b 1 60) = true then s2 S 3 a.toNatClampNeg b else S) : ∀ x, 30 ≤ x → x < 100 → u x = S x := by
  intro x h1 h2
  rw [hu]
  split
  · rw [s2_ne (by omega)]
  · rfl
theorem sx_lock {nR n t nk k d : Nat} {S : tf_M} (B : Bd nR n t nk k d) (I : IvX nR n t nk k d S) (a b : Int32) (hg : (isP a (S 1 0 - 1) && isW b 1 60) = true) : IvX nR n t nk k d (s2 (s2 S 3 a.toNatClampNeg b) 32 a.toNatClampNeg b) := by
  refine ⟨I.i1, I.i2, I.i3, ?_, ?_, I.i6, I.i7, I.i8, I.i9, I.i10, I.i11, I.i12, I.i13, I.i14, I.i15, I.i16, I.i17, I.i18, I.i19, I.i20, I.i21, I.i22, I.i23, I.i24, I.i25, I.i26, I.i27, I.i28, I.i29, I.i30, I.i31, I.i32, I.i33, I.i34⟩
  · intro l hl
    show upd (S 3) _ _ l = upd (S 32) _ _ l
    unfold upd
    by_cases hq : l = a.toNatClampNeg
    · rw [if_pos hq, if_pos hq]
    · rw [if_neg hq, if_neg hq]; exact I.i4 l hl
  · intro l hl
    show ∃ b' : Nat, 1 ≤ b' ∧ b' ≤ 60 ∧ upd (S 32) _ _ l = nI b'
    unfold upd
    by_cases hq : l = a.toNatClampNeg
    · rw [if_pos hq]
      rw [Bool.and_eq_true] at hg
      exact isW_n (a := 1) (b := 60) (by decide) hg.2 (by decide)
    · rw [if_neg hq]; exact I.i5 l hl

theorem sw_lock {nR n t nk k d : Nat} {S : tf_M} (I : Iv nR n t nk k d S) (a b : Int32) {x y : Int32} {u w : tf_M} (hx : x = bI (isP a (S 1 0 - 1) && isW b 1 60) ∧ u = if (isP a (S 1 0 - 1) && isW b 1 60) = true then s2 S 3 a.toNatClampNeg b else S) (hy : y = bI (isP a (nI (nR - 1)) && isW b 1 60) ∧ w = if (isP a (nI (nR - 1)) && isW b 1 60) = true then s2 u 32 a.toNatClampNeg b else u) : x = y ∧ ∃ nk1 k1 d1, Iv nR n t nk1 k1 d1 w := by
  obtain ⟨rfl, rfl⟩ := hx
  obtain ⟨rfl, rfl⟩ := hy
  have B := I.1
  have e : ((isP a (S 1 0 - 1) && isW b 1 60) = true) = ((isP a (nI (nR - 1)) && isW b 1 60) = true) := by
    rw [I.2.1.i1, nI_sub1 (by have := B.1; omega)]
  by_cases hg : (isP a (S 1 0 - 1) && isW b 1 60) = true
  · have hg2 : (isP a (nI (nR - 1)) && isW b 1 60) = true := e ▸ hg
    simp only [if_pos hg, if_pos hg2]
    exact ⟨by rw [I.2.1.i1, nI_sub1 (by have := B.1; omega)], nk, k, d, I.1, sx_lock I.1 I.2.1 a b  hg, I.2.2.1.keep I.1.2.2.1 (fun x hx => by rw [s2_ne (by omega), s2_ne (by omega)]), I.2.2.2.keep (fun x hx => by rw [s2_ne (by omega), s2_ne (by omega)])⟩
  · have hg2 : ¬ ((isP a (nI (nR - 1)) && isW b 1 60) = true) := e ▸ hg
    simp only [if_neg hg, if_neg hg2]
    exact ⟨by rw [I.2.1.i1, nI_sub1 (by have := B.1; omega)], nk, k, d, I⟩
theorem mid_lake {nR n t nk k d : Nat} {S u : tf_M} (I : Iv nR n t nk k d S) (a b : Int32) (hu : u = if (isP a (S 1 0) && isW b 0 5000) = true ∧ nk < 4 then s2 (s2 (s2 S 4 nk a) 5 nk b) 1 6 (nI (nk + 1)) else S) : ∀ x, 30 ≤ x → x < 100 → u x = S x := by
  intro x h1 h2
  rw [hu]
  split
  · rw [s2_ne (by omega), s2_ne (by omega), s2_ne (by omega)]
  · rfl
theorem sx_lake {nR n t nk k d : Nat} {S : tf_M} (B : Bd nR n t nk k d) (I : IvX nR n t nk k d S) (a b : Int32) (hg : (isP a (S 1 0) && isW b 0 5000) = true ∧ nk < 4) : IvX nR n t (nk + 1) k d (s2 (s2 (s2 (s2 (s2 (s2 S 4 nk a) 5 nk b) 1 6 (nI (nk + 1))) 39 nk a) 40 nk b) 30 4 (nI (nk + 1))) := by
  refine ⟨I.i1, I.i2, I.i3, I.i4, I.i5, ?_, ?_, ?_, ?_, I.i10, ?_, I.i12, I.i13, I.i14, I.i15, I.i16, I.i17, I.i18, I.i19, I.i20, I.i21, I.i22, I.i23, I.i24, I.i25, I.i26, I.i27, I.i28, I.i29, I.i30, I.i31, I.i32, I.i33, I.i34⟩
  · rfl
  · rfl
  · show upd (S 4) _ _ = upd (S 39) _ _
    rw [I.i8]
  · show upd (S 5) _ _ = upd (S 40) _ _
    rw [I.i9]
  · intro i hi
    show isP (upd (S 39) nk a i) (nI nR) = true
    unfold upd
    by_cases hq : i = nk
    · rw [if_pos hq]
      have h9 := hg.1
      rw [Bool.and_eq_true, I.i1] at h9
      exact h9.1
    · rw [if_neg hq]; exact I.i11 i (by omega)

theorem sw_lake {nR n t nk k d : Nat} {S : tf_M} (I : Iv nR n t nk k d S) (a b : Int32) {x y : Int32} {u w : tf_M} (hx : x = (if (isP a (S 1 0) && isW b 0 5000) = true ∧ nk < 4 then nI nk else -1) ∧ u = if (isP a (S 1 0) && isW b 0 5000) = true ∧ nk < 4 then s2 (s2 (s2 S 4 nk a) 5 nk b) 1 6 (nI (nk + 1)) else S) (hy : y = (if (isP a (nI nR) && isW b 0 5000) = true ∧ nk < 4 then nI nk else -1) ∧ w = if (isP a (nI nR) && isW b 0 5000) = true ∧ nk < 4 then s2 (s2 (s2 u 39 nk a) 40 nk b) 30 4 (nI (nk + 1)) else u) : x = y ∧ ∃ nk1 k1 d1, Iv nR n t nk1 k1 d1 w := by
  obtain ⟨rfl, rfl⟩ := hx
  obtain ⟨rfl, rfl⟩ := hy
  have B := I.1
  have e : ((isP a (S 1 0) && isW b 0 5000) = true ∧ nk < 4) = ((isP a (nI nR) && isW b 0 5000) = true ∧ nk < 4) := by
    rw [I.2.1.i1]
  by_cases hg : (isP a (S 1 0) && isW b 0 5000) = true ∧ nk < 4
  · have hg2 : (isP a (nI nR) && isW b 0 5000) = true ∧ nk < 4 := e ▸ hg
    simp only [if_pos hg, if_pos hg2]
    exact ⟨by first | trivial | rfl, nk + 1, k, d, ⟨B.1, B.2.1, B.2.2.1, B.2.2.2.1, by have := hg.2; omega, B.2.2.2.2.2.1, B.2.2.2.2.2.2⟩, sx_lake I.1 I.2.1 a b  hg, I.2.2.1.keep I.1.2.2.1 (fun x hx => by rw [s2_ne (by omega), s2_ne (by omega), s2_ne (by omega), s2_ne (by omega), s2_ne (by omega), s2_ne (by omega)]), I.2.2.2.keep (fun x hx => by rw [s2_ne (by omega), s2_ne (by omega), s2_ne (by omega), s2_ne (by omega), s2_ne (by omega), s2_ne (by omega)])⟩
  · have hg2 : ¬ ((isP a (nI nR) && isW b 0 5000) = true ∧ nk < 4) := e ▸ hg
    simp only [if_neg hg, if_neg hg2]
    exact ⟨by first | trivial | rfl, nk, k, d, I⟩
