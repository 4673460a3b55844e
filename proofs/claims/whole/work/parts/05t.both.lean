/-! both sides: statute -/
section TG
variable {T T' : Nat → Int32} {N : Nat} (hT : ∀ j, j < N → T j = T' j)
theorem skB_g (hT : ∀ j, j < N → T j = T' j) : ∀ (r x : Nat), x + r ≤ N → skB T x r = skB T' x r := by
  intro r
  induction r with
  | zero => intro x _; rfl
  | succ r ih => intro x h; unfold skB; rw [hT x (by omega), ih (x + 1) (by omega)]
theorem skK_g (hT : ∀ j, j < N → T j = T' j) {kd : Int32} : ∀ (r x : Nat), x + r ≤ N → skK T kd x r = skK T' kd x r := by
  intro r
  induction r with
  | zero => intro x _; rfl
  | succ r ih => intro x h; unfold skK; rw [hT x (by omega), ih (x + 1) (by omega)]
theorem tkS_g (hT : ∀ j, j < N → T j = T' j) {e : Nat} (he : e ≤ N) : tkS T N e = tkS T' N e := skB_g hT _ _ (by omega)
theorem tkK_g (hT : ∀ j, j < N → T j = T' j) {e : Nat} (he : e ≤ N) : tkK T N e = tkK T' N e := by
  unfold tkK
  rw [tkS_g hT he]
  by_cases h : N ≤ tkS T' N e
  · rw [if_pos h, if_pos h]
  · rw [if_neg h, if_neg h, hT _ (by omega)]
theorem tkE_g (hT : ∀ j, j < N → T j = T' j) {e : Nat} (he : e ≤ N) : tkE T N e = tkE T' N e := by
  unfold tkE
  rw [tkK_g hT he, tkS_g hT he]
  by_cases h : N ≤ tkS T' N e
  · rw [if_pos h, if_pos h]
  · rw [if_neg h, if_neg h, skK_g hT _ _ (by omega)]
theorem allM_g (hT : ∀ j, j < N → T j = T' j) {a i : Nat} : ∀ n, a + n ≤ N → allM T a i n = allM T' a i n := by
  intro n
  induction n with
  | zero => intro _; rfl
  | succ n ih => intro h; unfold allM; rw [hT (a + n) (by omega), ih (by omega)]
theorem numV_g (hT : ∀ j, j < N → T j = T' j) {a : Nat} : ∀ n, a + n ≤ N → numV T a n = numV T' a n := by
  intro n
  induction n with
  | zero => intro _; rfl
  | succ n ih => intro h; unfold numV; rw [hT (a + n) (by omega), ih (by omega)]
theorem wrdT_g (hT : ∀ j, j < N → T j = T' j) {e i : Nat} (he : e ≤ N) : wrdT T N e i = wrdT T' N e i := by
  unfold wrdT
  rw [tkK_g hT he, tkE_g hT he, tkS_g hT he]
  obtain ⟨h1, h2, h3⟩ := tk_le (T := T') he
  by_cases h : tkE T' N e - tkS T' N e = sLen i
  · rw [allM_g hT _ (by omega)]
  · rw [decide_eq_false h]; simp
theorem numR_g (hT : ∀ j, j < N → T j = T' j) {e : Nat} (he : e ≤ N) : numR T N e = numR T' N e := by
  unfold numR
  rw [tkK_g hT he, tkE_g hT he, tkS_g hT he]
  obtain ⟨h1, h2, h3⟩ := tk_le (T := T') he
  rw [numV_g hT _ (by omega)]
theorem ordC_g (hT : ∀ j, j < N → T j = T' j) {e : Nat} (he : e ≤ N) : ordC T N e = ordC T' N e := by
  unfold ordC
  rw [wrdT_g hT he, wrdT_g hT he, wrdT_g hT he]
theorem dysR_g (hT : ∀ j, j < N → T j = T' j) {nR w e : Nat} (he : e ≤ N) : dysR nR w T N e = dysR nR w T' N e := by
  have h1 := (tk_le (T := T') he).2.2
  have h2 := (tk_le (T := T') h1).2.2
  unfold dysR
  rw [tkE_g hT he, tkE_g hT h1, numR_g hT he, numR_g hT h2, wrdT_g hT h1]
theorem stm_g (hT : ∀ j, j < N → T j = T' j) {nR o w e : Nat} (he : e ≤ N) : stm nR o w T N e = stm nR o w T' N e := by
  have h1 := (tk_le (T := T') he).2.2
  have h2 := (tk_le (T := T') h1).2.2
  have h3 := dysR_le (nR := nR) (w := w) (T := T') h1
  unfold stm ordR dayR nmbR
  rw [wrdT_g hT he, wrdT_g hT he, wrdT_g hT he, wrdT_g hT he, wrdT_g hT he, tkE_g hT he, ordC_g hT h1, tkE_g hT h1, tkK_g hT h2, numR_g hT h1, dysR_g hT h1, tkE_g hT h3, tkK_g hT (tk_le (T := T') h3).2.2]
theorem mVal_g (hT : ∀ j, j < N → T j = T' j) {e : Nat} (he : e ≤ N) : mVal T N e = mVal T' N e := by
  have h1 := (tk_le (T := T') he).2.2
  have h2 := (tk_le (T := T') h1).2.2
  have h3 := (tk_le (T := T') h2).2.2
  unfold mVal
  rw [wrdT_g hT he, wrdT_g hT he, wrdT_g hT he, wrdT_g hT he, tkE_g hT he, ordC_g hT h1, tkE_g hT h1, tkE_g hT h2, numR_g hT h1, numR_g hT h3]
theorem prs_g (hT : ∀ j, j < N → T j = T' j) {nR : Nat} : ∀ (j e : Nat), e ≤ N → prs nR T N j e = prs nR T' N j e := by
  intro j
  induction j with
  | zero => intro e he; unfold prs; rw [tkK_g hT he, tkS_g hT he]
  | succ j ih =>
    intro e he
    have h1 := (stm_ok (nR := nR) (o := 13) (w := 13) (T := T') (N := N) (e := e) (by decide) (by decide) he).2
    have h2 := (tk_le (T := T') h1).2.2
    unfold prs
    rw [tkK_g hT he, stm_g hT he, mVal_g hT he, tkE_g hT h1, tkS_g hT h1, ih _ h2]
end TG
def tv (a r acc : Int32) (v : Int32 × Int32 × Int32) : Int32 := if v.1 = a ∧ v.2.1 = r then v.2.2 else acc
/-- what one right statement does to a draft -/
theorem stm_eff {nR o w : Nat} {T : Nat → Int32} {N e : Nat} (hR : nR ≤ 12) (how : o ≠ w) (h : (stm nR o w T N e).1 = true) (Z : tf_M) : (stm nR o w T N e).2.2 Z o 3 = tv 0 0 (Z o 3) (mVal T N e) ∧ (stm nR o w T N e).2.2 Z o 4 = tv 2 0 (Z o 4) (mVal T N e) ∧ (stm nR o w T N e).2.2 Z o 5 = tv 3 0 (Z o 5) (mVal T N e) ∧ (stm nR o w T N e).2.2 Z o 6 = tv 4 0 (Z o 6) (mVal T N e) ∧ (∀ r, r < nR → (stm nR o w T N e).2.2 Z w r = tv 1 (nI r) (Z w r) (mVal T N e)) ∧ (stm nR o w T N e).2.2 Z o 0 = Z o 0 ∧ (stm nR o w T N e).2.2 Z o 1 = Z o 1 := by
  unfold stm at h ⊢
  unfold mVal tv
  by_cases c0 : wrdT T N e 0 = true
  · rw [if_pos c0] at h ⊢
    rw [if_pos c0]
    unfold ordR at h ⊢
    by_cases c1 : ordC T N (tkE T N e) = -1
    · rw [if_pos c1] at h; cases h
    · rw [if_neg c1]
      exact ⟨by rw [if_pos ⟨rfl, rfl⟩]; exact s2_eq, by rw [if_neg (by simp)]; exact s2_nk (by decide), by rw [if_neg (by simp)]; exact s2_nk (by decide), by rw [if_neg (by simp)]; exact s2_nk (by decide), fun r hr => by rw [if_neg (by simp)]; show s2 Z o 3 _ w r = _; rw [s2_ne (Ne.symm how)], s2_nk (by decide), s2_nk (by decide)⟩
  · rw [if_neg c0] at h ⊢
    rw [if_neg c0]
    by_cases c1 : wrdT T N e 1 = true
    · rw [if_pos c1] at h ⊢
      rw [if_pos c1]
      have hd : (dysR nR w T N (tkE T N e)).1 = true := by
        unfold dayR at h
        simp only [Bool.and_eq_true] at h
        exact h.1
      have hf : (dayR nR w T N (tkE T N e)).2.2 = fun S => alwS nR S w (numR T N (tkE T N e)) (numR T N (tkE T N (tkE T N (tkE T N e)))) := by
        unfold dayR
        show (dysR nR w T N (tkE T N e)).2.2 = _
        unfold dysR at hd ⊢
        split at hd
        · cases hd
        · split at hd
          · cases hd
          · split at hd
            · cases hd
            · rename_i g1 g2 g3
              rw [if_neg g1, if_neg g2, if_neg g3]
      rw [hf]
      have ho : ∀ x, alwS nR Z w (numR T N (tkE T N e)) (numR T N (tkE T N (tkE T N (tkE T N e)))) o x = Z o x := fun x => by
        unfold alwS
        split
        · rw [s2_ne how]
        · rfl
      refine ⟨by rw [if_neg (by simp)]; exact ho 3, by rw [if_neg (by simp)]; exact ho 4, by rw [if_neg (by simp)]; exact ho 5, by rw [if_neg (by simp)]; exact ho 6, fun r hr => ?_, ho 0, ho 1⟩
      show alwS nR Z w (numR T N (tkE T N e)) (numR T N (tkE T N (tkE T N (tkE T N e)))) w r = if (1 : Int32) = 1 ∧ numR T N (tkE T N e) = nI r then numR T N (tkE T N (tkE T N (tkE T N e))) else Z w r
      unfold alwS
      by_cases hp : isP (numR T N (tkE T N e)) (nI nR) = true
      · obtain ⟨g1, g2⟩ := isP_nat hp (by omega)
        rw [if_pos hp, s2_at]
        by_cases hq : r = (numR T N (tkE T N e)).toNatClampNeg
        · rw [if_pos hq, if_pos ⟨rfl, by rw [hq]; exact g2⟩]
        · rw [if_neg hq, if_neg (fun g => hq (by rw [g.2]; exact (nI_clamp (by omega)).symm))]
      · rw [if_neg hp, if_neg (fun g => hp (by rw [g.2]; exact isP_k hr (by omega)))]
    · rw [if_neg c1] at h ⊢
      rw [if_neg c1]
      have key : ∀ f, (f = 4 ∨ f = 5 ∨ f = 6) → ∀ r, s2 Z o f (numR T N (tkE T N e)) w r = Z w r := fun f _ r => by rw [s2_ne (Ne.symm how)]
      by_cases c2 : wrdT T N e 2 = true
      · rw [if_pos c2]
        rw [if_pos c2]
        exact ⟨by rw [if_neg (by simp)]; exact s2_nk (by decide), by rw [if_pos ⟨rfl, rfl⟩]; exact s2_eq, by rw [if_neg (by simp)]; exact s2_nk (by decide), by rw [if_neg (by simp)]; exact s2_nk (by decide), fun r hr => by rw [if_neg (by simp)]; exact key 4 (by decide) r, s2_nk (by decide), s2_nk (by decide)⟩
      · rw [if_neg c2] at h ⊢
        rw [if_neg c2]
        by_cases c3 : wrdT T N e 3 = true
        · rw [if_pos c3]
          rw [if_pos c3]
          exact ⟨by rw [if_neg (by simp)]; exact s2_nk (by decide), by rw [if_neg (by simp)]; exact s2_nk (by decide), by rw [if_pos ⟨rfl, rfl⟩]; exact s2_eq, by rw [if_neg (by simp)]; exact s2_nk (by decide), fun r hr => by rw [if_neg (by simp)]; exact key 5 (by decide) r, s2_nk (by decide), s2_nk (by decide)⟩
        · rw [if_neg c3] at h ⊢
          rw [if_neg c3]
          by_cases c4 : wrdT T N e 4 = true
          · rw [if_pos c4]
            exact ⟨by rw [if_neg (by simp)]; exact s2_nk (by decide), by rw [if_neg (by simp)]; exact s2_nk (by decide), by rw [if_neg (by simp)]; exact s2_nk (by decide), by rw [if_pos ⟨rfl, rfl⟩]; exact s2_eq, fun r hr => by rw [if_neg (by simp)]; exact key 6 (by decide) r, s2_nk (by decide), s2_nk (by decide)⟩
          · rw [if_neg c4] at h; cases h
theorem rd_prs {nR o w : Nat} {T : Nat → Int32} {N : Nat} (hR : nR ≤ 12) (how : o ≠ w) (ho : o ≠ 12) (hw : w ≠ 12) (hN4 : N ≤ 400) : ∀ (j e : Nat) (Z : tf_M), e ≤ N → (rdS nR o w T N j e Z).1 = (prs nR T N j e).1 ∧ ((prs nR T N j e).1 = -1 → (rdS nR o w T N j e Z).2 o 3 = (prs nR T N j e).2.foldl (tv 0 0) (Z o 3) ∧ (rdS nR o w T N j e Z).2 o 4 = (prs nR T N j e).2.foldl (tv 2 0) (Z o 4) ∧ (rdS nR o w T N j e Z).2 o 5 = (prs nR T N j e).2.foldl (tv 3 0) (Z o 5) ∧ (rdS nR o w T N j e Z).2 o 6 = (prs nR T N j e).2.foldl (tv 4 0) (Z o 6) ∧ (∀ r, r < nR → (rdS nR o w T N j e Z).2 w r = (prs nR T N j e).2.foldl (tv 1 (nI r)) (Z w r)) ∧ (rdS nR o w T N j e Z).2 o 0 = Z o 0 ∧ (rdS nR o w T N j e Z).2 o 1 = Z o 1) := by
  intro j
  induction j with
  | zero =>
    intro e Z he
    unfold rdS prs
    refine ⟨rfl, fun _ => ?_⟩
    have eo : stepS Z N e o = Z o := stepS_ne ho
    have ew : stepS Z N e w = Z w := stepS_ne hw
    exact ⟨congrFun eo 3, congrFun eo 4, congrFun eo 5, congrFun eo 6, fun r _ => congrFun ew r, congrFun eo 0, congrFun eo 1⟩
  | succ j ih =>
    intro e Z he
    have hs9 := (stm_ok (nR := nR) (o := 13) (w := 13) (T := T) (N := N) (e := e) (by decide) (by decide) he).2
    obtain ⟨h1, h2⟩ := stm_ow (nR := nR) (o := o) (w := w) (o' := 13) (w' := 13) (T := T) (N := N) (e := e)
    unfold rdS prs
    by_cases hk : tkK T N e = 0
    · rw [if_pos hk, if_pos hk]
      refine ⟨rfl, fun _ => ?_⟩
      have eo : stepS Z N e o = Z o := stepS_ne ho
      have ew : stepS Z N e w = Z w := stepS_ne hw
      exact ⟨congrFun eo 3, congrFun eo 4, congrFun eo 5, congrFun eo 6, fun r _ => congrFun ew r, congrFun eo 0, congrFun eo 1⟩
    · rw [if_neg hk, if_neg hk, h1, h2]
      by_cases hs : (stm nR 13 13 T N e).1 = true
      · rw [if_pos hs, if_pos hs]
        obtain ⟨g1, g2⟩ := ih (tkE T N (stm nR 13 13 T N e).2.1) ((stm nR o w T N e).2.2 (stepS Z N (stm nR 13 13 T N e).2.1)) (tk_le (T := T) hs9).2.2
        refine ⟨g1, fun g => ?_⟩
        obtain ⟨f3, f4, f5, f6, fw, f0, f1⟩ := g2 g
        obtain ⟨e3, e4, e5, e6, ew, e0, e1⟩ := stm_eff (N := N) (e := e) hR how (h1.trans hs) (stepS Z N (stm nR 13 13 T N e).2.1)
        refine ⟨?_, ?_, ?_, ?_, fun r hr => ?_, ?_, ?_⟩
        · rw [f3, e3, stepS_ne ho]; rfl
        · rw [f4, e4, stepS_ne ho]; rfl
        · rw [f5, e5, stepS_ne ho]; rfl
        · rw [f6, e6, stepS_ne ho]; rfl
        · rw [fw r hr, ew r hr, stepS_ne hw]; rfl
        · rw [f0, e0, stepS_ne ho]
        · rw [f1, e1, stepS_ne ho]
      · rw [if_neg hs, if_neg hs]
        refine ⟨rfl, fun g => absurd g ?_⟩
        show ¬ nI (tkS T N (stm nR 13 13 T N e).2.1) = -1
        exact nI_nm (by have := tk_le (T := T) (N := N) (e := (stm nR 13 13 T N e).2.1) hs9; omega)
theorem tellV_list {W : tf_M} {a r wo : Int32} {base : Nat} {L : List (Int32 × Int32 × Int32)} (h : ∀ i v, L[i]? = some v → (W 66 (base + i), W 67 (base + i), W 68 (base + i)) = v) : tellV W a r wo base L.length = L.foldl (tv a r) wo := by
  have key : ∀ c, c ≤ L.length → tellV W a r wo base c = (L.take c).foldl (tv a r) wo := by
    intro c
    induction c with
    | zero => intro _; rfl
    | succ c ih =>
      intro hc
      have hv : L[c]? = some (L[c]'(by omega)) := List.getElem?_eq_getElem (by omega)
      have h9 := h c _ hv
      rw [List.take_add_one, hv, List.foldl_append]
      unfold tellV
      rw [ih (by omega)]
      show _ = tv a r _ (L[c]'(by omega))
      rw [← h9]
      rfl
  have := key L.length (Nat.le_refl _)
  rwa [List.take_length] at this
theorem TOk.same {nR i : Nat} {S S1 : tf_M} (h4 : S1 (400 + i) = S (400 + i)) (h5 : S1 (500 + i) = S (500 + i)) (h64 : S1 64 i = S 64 i) (h65 : S1 65 i = S 65 i) (h66 : ∀ j, j < 16 → S1 66 (16 * i + j) = S 66 (16 * i + j) ∧ S1 67 (16 * i + j) = S 67 (16 * i + j) ∧ S1 68 (16 * i + j) = S 68 (16 * i + j)) (I : TOk nR i S) : TOk nR i S1 := by
  obtain ⟨c, hc, h⟩ := I.tc
  have e : ∀ a r wo, tellV S1 a r wo (16 * i) c = tellV S a r wo (16 * i) c := fun a r wo => tellV_keep c fun j hj => h66 j (by omega)
  refine ⟨by rw [h4]; exact I.t0, by rw [h4, h65]; exact I.t1, c, hc, ?_⟩
  simp only [e]
  rw [h4, h5, h64]
  exact h
/-- how a class's statute() leaves the state u: z the answer -/
def ctP (nR : Nat) (S : tf_M) (N t : Nat) (z : Int32) (u : tf_M) : Prop := (¬ (stRd S nR t N).1 = -1 → z = -1 ∧ u = stGo S nR t N) ∧ ((stRd S nR t N).1 = -1 → z = nI t ∧ u = s2 (s2 (stGo S nR t N) 14 t 1) 13 2 (nI (t + 1)))
theorem stGo_ne {S : tf_M} {nR t N x : Nat} (h0 : x ≠ 0) (h10 : x ≠ 10) (h12 : x ≠ 12) (h4 : x ≠ 400 + t) (h5 : x ≠ 500 + t) : stGo S nR t N x = S x := by
  unfold stGo stRd
  rw [s2_ne h10, s2_ne h0, rdS_ne h12 h4 h5, s2_ne h12, s2_ne h12, stNew_ne h4 h5]
set_option maxHeartbeats 1000000 in
theorem sw_statute0 {nR n t nk k d N : Nat} {S u w : tf_M} {x y : Int32} (I : Iv nR n t nk k d S) (hN : N ≤ k) (ht : t < 10) (hx : ctP nR S N t x u) (hy : stP nR u N t y w) : x = y ∧ ∃ n1 nk1 k1 d1, Iv nR n1 (if (stRd S nR t N).1 = -1 then t + 1 else t) nk1 k1 d1 w ∧ n1 = n := by
  have I0 := I
  obtain ⟨B, I, Q, TT⟩ := I
  have hN4 : N ≤ 400 := Nat.le_trans hN B.2.2.2.2.2.1
  obtain ⟨T, hT, hz, y32, y29, y33, y30, yx, y64, y65, y66, yok⟩ := hy
  have u57 : u 57 = S 11 := by
    rw [I.i20]
    by_cases h : (stRd S nR t N).1 = -1
    · rw [(hx.2 h).2, s2_ne (by decide), s2_ne (by decide), stGo_ne (by decide) (by decide) (by decide) (by omega) (by omega)]
    · rw [(hx.1 h).2, stGo_ne (by decide) (by decide) (by decide) (by omega) (by omega)]
  have hT2 : ∀ j, j < N → T j = S 11 j := fun j hj => by rw [hT j hj, u57, I.i20]; exact I.i21 j
  rw [prs_g hT2 16 0 (Nat.zero_le N)] at hz y32 y33 yok
  obtain ⟨r1, r2⟩ := rd_prs (nR := nR) (o := 400 + t) (w := 500 + t) (T := S 11) (N := N) B.2.1 (by omega) (by omega) (by omega) hN4 16 0 (s2 (s2 (stNew S nR t) 12 1 (nI N)) 12 3 0) (Nat.zero_le N)
  have r1' : (stRd S nR t N).1 = (prs nR (S 11) N 16 0).1 := r1
  have hum : ∀ x, x ≠ 0 → x ≠ 10 → x ≠ 12 → x ≠ 13 → x ≠ 14 → x ≠ 400 + t → x ≠ 500 + t → u x = S x := fun x h0 h10 h12 h13 h14 h4 h5 => by
    by_cases h : (stRd S nR t N).1 = -1
    · rw [(hx.2 h).2, s2_ne h13, s2_ne h14, stGo_ne h0 h10 h12 h4 h5]
    · rw [(hx.1 h).2, stGo_ne h0 h10 h12 h4 h5]
  have hx2 : ∀ x, x ≠ 0 → x ≠ 10 → x ≠ 13 → x ≠ 14 → x ≠ 30 → (x < 12 ∨ (12 < x ∧ x < 58) ∨ (68 < x ∧ x < 400)) → w x = S x := fun x h0 h10 h13 h14 h30 h => by
    rw [yx x h30 (by omega) (by omega) (by omega) (by omega) (by omega) (by omega), hum x h0 h10 (by omega) h13 h14 (by omega) (by omega)]
  have h30 : ∀ j, j ≠ 29 → j ≠ 32 → j ≠ 33 → j ≠ 30 → j ≠ 31 → j ≠ 39 → j ≠ 40 → w 30 j = S 30 j := fun j a b c e f g h => by rw [y30 j a e f b c g h, hum 30 (by decide) (by decide) (by decide) (by decide) (by decide) (by omega) (by omega)]
  have hu30 : u 30 = S 30 := hum 30 (by decide) (by decide) (by decide) (by decide) (by decide) (by omega) (by omega)
  have w0 : ∀ j, w 0 j = if j = 8 then (prs nR (S 11) N 16 0).1 else S 0 j := fun j => by
    rw [yx 0 (by decide) (by decide) (by decide) (by decide) (by decide) (by decide) (by decide), ← r1']
    have hg : stGo S nR t N 0 j = if j = 8 then (stRd S nR t N).1 else S 0 j := by
      unfold stGo
      rw [s2_ne (by decide), s2_at]
      have : (stRd S nR t N).2 0 = S 0 := by unfold stRd; rw [rdS_ne (by decide) (by omega) (by omega), s2_ne (by decide), s2_ne (by decide), stNew_ne (by omega) (by omega)]
      rw [this]
    by_cases h : (stRd S nR t N).1 = -1
    · rw [(hx.2 h).2, s2_ne (by decide), s2_ne (by decide), hg]
    · rw [(hx.1 h).2, hg]
  have w10 : w 10 1 = nI 0 := by
    rw [yx 10 (by decide) (by decide) (by decide) (by decide) (by decide) (by decide) (by decide)]
    by_cases h : (stRd S nR t N).1 = -1
    · rw [(hx.2 h).2, s2_ne (by decide), s2_ne (by decide)]; exact s2_eq
    · rw [(hx.1 h).2]; exact s2_eq
  have B' : ∀ t1, t1 ≤ 10 → Bd nR n t1 nk 0 d := fun t1 h1 => ⟨B.1, B.2.1, B.2.2.1, h1, B.2.2.2.2.1, by omega, B.2.2.2.2.2.2⟩
  have QQ : IvQ nR n w := Q.keep B.2.2.1 fun x h => hx2 x (by omega) (by omega) (by omega) (by omega) (by omega) (by omega)
  have told : ∀ i, i < t → TOk nR i w := fun i hi => (TT i hi).same
    (by rw [yx _ (by omega) (by omega) (by omega) (by omega) (by omega) (by omega) (by omega), hum _ (by omega) (by omega) (by omega) (by omega) (by omega) (by omega) (by omega)])
    (by rw [yx _ (by omega) (by omega) (by omega) (by omega) (by omega) (by omega) (by omega), hum _ (by omega) (by omega) (by omega) (by omega) (by omega) (by omega) (by omega)])
    (by rw [y64 i (by omega), hum 64 (by decide) (by decide) (by decide) (by decide) (by decide) (by omega) (by omega)])
    (by rw [y65 i (by omega), hum 65 (by decide) (by decide) (by decide) (by decide) (by decide) (by omega) (by omega)])
    (fun j hj => by
      obtain ⟨a1, a2, a3⟩ := y66 (16 * i + j) (by omega)
      rw [a1, a2, a3, hum 66 (by decide) (by decide) (by decide) (by decide) (by decide) (by omega) (by omega), hum 67 (by decide) (by decide) (by decide) (by decide) (by decide) (by omega) (by omega), hum 68 (by decide) (by decide) (by decide) (by decide) (by decide) (by omega) (by omega)]
      exact ⟨rfl, rfl, rfl⟩)
  have hx6 : ∀ x, x ≠ 0 → x ≠ 10 → x ≠ 13 → x ≠ 14 → x ≠ 30 → x < 58 → x ≠ 12 → w x = S x := fun x h0 h10 h13 h14 h30 h h12 => hx2 x h0 h10 h13 h14 h30 (by omega)
  have a0 : w 0 7 = S 0 7 := by rw [w0, if_neg (by decide)]
  by_cases h : (stRd S nR t N).1 = -1
  · obtain ⟨rfl, hu⟩ := hx.2 h
    have hp : (prs nR (S 11) N 16 0).1 = -1 := r1'.symm.trans h
    rw [if_pos hp] at hz y33
    obtain ⟨o65, o16, o64, orow⟩ := yok hp
    obtain ⟨f3, f4, f5, f6, fw, f0, f1⟩ := r2 hp
    have w13 : w 13 2 = nI (t + 1) := by rw [yx 13 (by decide) (by decide) (by decide) (by decide) (by decide) (by decide) (by decide), hu]; exact s2_eq
    have w14 : ∀ i, w 14 i = if i = t then 1 else S 14 i := fun i => by rw [yx 14 (by decide) (by decide) (by decide) (by decide) (by decide) (by decide) (by decide), hu, s2_ne (by decide), s2_at, stGo_ne (by decide) (by decide) (by decide) (by omega) (by omega)]
    rw [if_pos h]
    have w4 : ∀ j, w (400 + t) j = (stRd S nR t N).2 (400 + t) j := fun j => by
      rw [yx _ (by omega) (by omega) (by omega) (by omega) (by omega) (by omega) (by omega), hu, s2_ne (by omega), s2_ne (by omega)]
      unfold stGo
      rw [s2_ne (by omega), s2_ne (by omega)]
    have w5 : ∀ j, w (500 + t) j = (stRd S nR t N).2 (500 + t) j := fun j => by
      rw [yx _ (by omega) (by omega) (by omega) (by omega) (by omega) (by omega) (by omega), hu, s2_ne (by omega), s2_ne (by omega)]
      unfold stGo
      rw [s2_ne (by omega), s2_ne (by omega)]
    have z4 : s2 (s2 (stNew S nR t) 12 1 (nI N)) 12 3 0 (400 + t) = stF0 t (S 0 7) := by
      rw [s2_ne (by omega), s2_ne (by omega)]
      unfold stNew tf_u; rw [if_neg (by omega), if_pos rfl]
    have z5 : s2 (s2 (stNew S nR t) 12 1 (nI N)) 12 3 0 (500 + t) = al3 nR := by
      rw [s2_ne (by omega), s2_ne (by omega)]
      unfold stNew tf_u; rw [if_pos rfl]
    have rows : ∀ a r wo, tellV w a r wo (16 * t) (prs nR (S 11) N 16 0).2.length = (prs nR (S 11) N 16 0).2.foldl (tv a r) wo := fun a r wo => tellV_list orow
    refine ⟨hz.symm, n, nk, 0, d, ⟨B' (t + 1) (by omega), ⟨by rw [hx6 1 (by decide) (by decide) (by decide) (by decide) (by decide) (by decide) (by decide)]; exact I.i1, by rw [h30 0 (by decide) (by decide) (by decide) (by decide) (by decide) (by decide) (by decide)]; exact I.i2, by rw [hx6 2 (by decide) (by decide) (by decide) (by decide) (by decide) (by decide) (by decide), hx6 31 (by decide) (by decide) (by decide) (by decide) (by decide) (by decide) (by decide)]; exact I.i3, by rw [hx6 3 (by decide) (by decide) (by decide) (by decide) (by decide) (by decide) (by decide), hx6 32 (by decide) (by decide) (by decide) (by decide) (by decide) (by decide) (by decide)]; exact I.i4, by rw [hx6 32 (by decide) (by decide) (by decide) (by decide) (by decide) (by decide) (by decide)]; exact I.i5, by rw [hx6 1 (by decide) (by decide) (by decide) (by decide) (by decide) (by decide) (by decide)]; exact I.i6, by rw [h30 4 (by decide) (by decide) (by decide) (by decide) (by decide) (by decide) (by decide)]; exact I.i7, by rw [hx6 4 (by decide) (by decide) (by decide) (by decide) (by decide) (by decide) (by decide), hx6 39 (by decide) (by decide) (by decide) (by decide) (by decide) (by decide) (by decide)]; exact I.i8, by rw [hx6 5 (by decide) (by decide) (by decide) (by decide) (by decide) (by decide) (by decide), hx6 40 (by decide) (by decide) (by decide) (by decide) (by decide) (by decide) (by decide)]; exact I.i9, by rw [hx6 6 (by decide) (by decide) (by decide) (by decide) (by decide) (by decide) (by decide), hx6 41 (by decide) (by decide) (by decide) (by decide) (by decide) (by decide) (by decide)]; exact I.i10, by rw [hx6 39 (by decide) (by decide) (by decide) (by decide) (by decide) (by decide) (by decide)]; exact I.i11, by rw [hx6 1 (by decide) (by decide) (by decide) (by decide) (by decide) (by decide) (by decide), h30 6 (by decide) (by decide) (by decide) (by decide) (by decide) (by decide) (by decide)]; exact I.i12, by rw [hx6 1 (by decide) (by decide) (by decide) (by decide) (by decide) (by decide) (by decide), h30 7 (by decide) (by decide) (by decide) (by decide) (by decide) (by decide) (by decide)]; exact I.i13, a0.trans I.i14, by rw [h30 3 (by decide) (by decide) (by decide) (by decide) (by decide) (by decide) (by decide)]; exact I.i15, by rw [hx6 7 (by decide) (by decide) (by decide) (by decide) (by decide) (by decide) (by decide)]; exact I.i16, by rw [h30 5 (by decide) (by decide) (by decide) (by decide) (by decide) (by decide) (by decide)]; exact I.i17, w10, y29, by rw [hx6 11 (by decide) (by decide) (by decide) (by decide) (by decide) (by decide) (by decide), hx6 57 (by decide) (by decide) (by decide) (by decide) (by decide) (by decide) (by decide)]; exact I.i20, by rw [hx6 57 (by decide) (by decide) (by decide) (by decide) (by decide) (by decide) (by decide)]; exact I.i21, by rw [hx6 18 (by decide) (by decide) (by decide) (by decide) (by decide) (by decide) (by decide), hx6 54 (by decide) (by decide) (by decide) (by decide) (by decide) (by decide) (by decide)]; exact I.i22, by rw [hx6 19 (by decide) (by decide) (by decide) (by decide) (by decide) (by decide) (by decide), hx6 55 (by decide) (by decide) (by decide) (by decide) (by decide) (by decide) (by decide)]; exact I.i23, by rw [hx6 20 (by decide) (by decide) (by decide) (by decide) (by decide) (by decide) (by decide), hx6 56 (by decide) (by decide) (by decide) (by decide) (by decide) (by decide) (by decide)]; exact I.i24, by rw [hx6 17 (by decide) (by decide) (by decide) (by decide) (by decide) (by decide) (by decide), h30 8 (by decide) (by decide) (by decide) (by decide) (by decide) (by decide) (by decide)]; exact I.i25, w13, y33, by rw [w0, if_pos rfl, y32], by rw [hx6 8 (by decide) (by decide) (by decide) (by decide) (by decide) (by decide) (by decide)]; exact I.i29, by rw [hx6 8 (by decide) (by decide) (by decide) (by decide) (by decide) (by decide) (by decide)]; exact I.i30, ?_, ?_, by rw [hx6 15 (by decide) (by decide) (by decide) (by decide) (by decide) (by decide) (by decide)]; exact I.i33, by rw [hx6 16 (by decide) (by decide) (by decide) (by decide) (by decide) (by decide) (by decide)]; exact I.i34⟩, QQ, fun i hi => ?_⟩, rfl⟩
    · exact fun i hi => by
        rw [w14]
        by_cases e : i = t
        · rw [if_pos e]; decide
        · rw [if_neg e]; exact I.i31 i (by omega)
    · exact fun i hi => by rw [w14, if_neg (by omega)]; exact I.i32 i (by omega)
    · by_cases e : i = t
      · subst e
        refine ⟨?_, ?_, (prs nR (S 11) N 16 0).2.length, o16, o64, ?_, ?_, ?_, ?_, fun r hr => ?_⟩
        · rw [w4]; exact f0.trans (by rw [z4]; rfl)
        · rw [w4, o65, hu30, I.i15]; exact f1.trans (by rw [z4]; exact I.i14)
        · rw [w4, rows]; exact f3.trans (by rw [z4]; rfl)
        · rw [w4, rows]; exact f4.trans (by rw [z4]; rfl)
        · rw [w4, rows]; exact f5.trans (by rw [z4]; rfl)
        · rw [w4, rows]; exact f6.trans (by rw [z4]; rfl)
        · rw [w5, rows]; exact (fw r hr).trans (by rw [z5, al3_3 nR r hr])
      · exact told i (by omega)
  · obtain ⟨rfl, hu⟩ := hx.1 h
    have hp : ¬ (prs nR (S 11) N 16 0).1 = -1 := fun g => h (r1'.trans g)
    rw [if_neg hp] at hz y33
    have w13 : w 13 2 = nI t := by rw [yx 13 (by decide) (by decide) (by decide) (by decide) (by decide) (by decide) (by decide), hu, stGo_ne (by decide) (by decide) (by decide) (by omega) (by omega)]; exact I.i26
    have w14 : w 14 = S 14 := by rw [yx 14 (by decide) (by decide) (by decide) (by decide) (by decide) (by decide) (by decide), hu, stGo_ne (by decide) (by decide) (by decide) (by omega) (by omega)]
    rw [if_neg h]
    exact ⟨hz.symm, n, nk, 0, d, ⟨B' t (by omega), ⟨by rw [hx6 1 (by decide) (by decide) (by decide) (by decide) (by decide) (by decide) (by decide)]; exact I.i1, by rw [h30 0 (by decide) (by decide) (by decide) (by decide) (by decide) (by decide) (by decide)]; exact I.i2, by rw [hx6 2 (by decide) (by decide) (by decide) (by decide) (by decide) (by decide) (by decide), hx6 31 (by decide) (by decide) (by decide) (by decide) (by decide) (by decide) (by decide)]; exact I.i3, by rw [hx6 3 (by decide) (by decide) (by decide) (by decide) (by decide) (by decide) (by decide), hx6 32 (by decide) (by decide) (by decide) (by decide) (by decide) (by decide) (by decide)]; exact I.i4, by rw [hx6 32 (by decide) (by decide) (by decide) (by decide) (by decide) (by decide) (by decide)]; exact I.i5, by rw [hx6 1 (by decide) (by decide) (by decide) (by decide) (by decide) (by decide) (by decide)]; exact I.i6, by rw [h30 4 (by decide) (by decide) (by decide) (by decide) (by decide) (by decide) (by decide)]; exact I.i7, by rw [hx6 4 (by decide) (by decide) (by decide) (by decide) (by decide) (by decide) (by decide), hx6 39 (by decide) (by decide) (by decide) (by decide) (by decide) (by decide) (by decide)]; exact I.i8, by rw [hx6 5 (by decide) (by decide) (by decide) (by decide) (by decide) (by decide) (by decide), hx6 40 (by decide) (by decide) (by decide) (by decide) (by decide) (by decide) (by decide)]; exact I.i9, by rw [hx6 6 (by decide) (by decide) (by decide) (by decide) (by decide) (by decide) (by decide), hx6 41 (by decide) (by decide) (by decide) (by decide) (by decide) (by decide) (by decide)]; exact I.i10, by rw [hx6 39 (by decide) (by decide) (by decide) (by decide) (by decide) (by decide) (by decide)]; exact I.i11, by rw [hx6 1 (by decide) (by decide) (by decide) (by decide) (by decide) (by decide) (by decide), h30 6 (by decide) (by decide) (by decide) (by decide) (by decide) (by decide) (by decide)]; exact I.i12, by rw [hx6 1 (by decide) (by decide) (by decide) (by decide) (by decide) (by decide) (by decide), h30 7 (by decide) (by decide) (by decide) (by decide) (by decide) (by decide) (by decide)]; exact I.i13, a0.trans I.i14, by rw [h30 3 (by decide) (by decide) (by decide) (by decide) (by decide) (by decide) (by decide)]; exact I.i15, by rw [hx6 7 (by decide) (by decide) (by decide) (by decide) (by decide) (by decide) (by decide)]; exact I.i16, by rw [h30 5 (by decide) (by decide) (by decide) (by decide) (by decide) (by decide) (by decide)]; exact I.i17, w10, y29, by rw [hx6 11 (by decide) (by decide) (by decide) (by decide) (by decide) (by decide) (by decide), hx6 57 (by decide) (by decide) (by decide) (by decide) (by decide) (by decide) (by decide)]; exact I.i20, by rw [hx6 57 (by decide) (by decide) (by decide) (by decide) (by decide) (by decide) (by decide)]; exact I.i21, by rw [hx6 18 (by decide) (by decide) (by decide) (by decide) (by decide) (by decide) (by decide), hx6 54 (by decide) (by decide) (by decide) (by decide) (by decide) (by decide) (by decide)]; exact I.i22, by rw [hx6 19 (by decide) (by decide) (by decide) (by decide) (by decide) (by decide) (by decide), hx6 55 (by decide) (by decide) (by decide) (by decide) (by decide) (by decide) (by decide)]; exact I.i23, by rw [hx6 20 (by decide) (by decide) (by decide) (by decide) (by decide) (by decide) (by decide), hx6 56 (by decide) (by decide) (by decide) (by decide) (by decide) (by decide) (by decide)]; exact I.i24, by rw [hx6 17 (by decide) (by decide) (by decide) (by decide) (by decide) (by decide) (by decide), h30 8 (by decide) (by decide) (by decide) (by decide) (by decide) (by decide) (by decide)]; exact I.i25, w13, y33, by rw [w0, if_pos rfl, y32], by rw [hx6 8 (by decide) (by decide) (by decide) (by decide) (by decide) (by decide) (by decide)]; exact I.i29, by rw [hx6 8 (by decide) (by decide) (by decide) (by decide) (by decide) (by decide) (by decide)]; exact I.i30, by rw [w14]; exact I.i31, by rw [w14]; exact I.i32, by rw [hx6 15 (by decide) (by decide) (by decide) (by decide) (by decide) (by decide) (by decide)]; exact I.i33, by rw [hx6 16 (by decide) (by decide) (by decide) (by decide) (by decide) (by decide) (by decide)]; exact I.i34⟩, QQ, told⟩, rfl⟩
