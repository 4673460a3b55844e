/-! the reference's statute -/
theorem stm_ow {nR o w o' w' : Nat} {T : Nat → Int32} {N e : Nat} : (stm nR o w T N e).1 = (stm nR o' w' T N e).1 ∧ (stm nR o w T N e).2.1 = (stm nR o' w' T N e).2.1 := by
  unfold stm ordR dayR nmbR dysR
  repeat' split
  all_goals exact ⟨rfl, rfl⟩
theorem stm_c {nR o w : Nat} {T : Nat → Int32} {N p e : Nat} (hp : tkS T N p = tkS T N e) : (stm nR o w T N p).1 = (stm nR o w T N e).1 ∧ tkS T N (stm nR o w T N p).2.1 = tkS T N (stm nR o w T N e).2.1 ∧ ((stm nR o w T N p).1 = true → (stm nR o w T N p).2.1 = (stm nR o w T N e).2.1) := by
  have hE := tkE_c hp
  unfold stm
  rw [wrdT_c hp, wrdT_c hp, wrdT_c hp, wrdT_c hp, wrdT_c hp, hE]
  split
  · exact ⟨rfl, rfl, fun _ => rfl⟩
  · split
    · exact ⟨rfl, rfl, fun _ => rfl⟩
    · split
      · exact ⟨rfl, rfl, fun _ => rfl⟩
      · split
        · exact ⟨rfl, rfl, fun _ => rfl⟩
        · split
          · exact ⟨rfl, rfl, fun _ => rfl⟩
          · exact ⟨rfl, hp, fun h => Bool.noConfusion h⟩
theorem mVal_c {T : Nat → Int32} {N p e : Nat} (hp : tkS T N p = tkS T N e) : mVal T N p = mVal T N e := by
  unfold mVal
  rw [wrdT_c hp, wrdT_c hp, wrdT_c hp, wrdT_c hp, tkE_c hp]
/-- a text: where its fault is (-1: none), what its statements tell -/
def prs (nR : Nat) (T : Nat → Int32) (N : Nat) : Nat → Nat → Int32 × List (Int32 × Int32 × Int32)
  | 0, e => (if tkK T N e = 0 then -1 else nI (tkS T N e), [])
  | j + 1, e => if tkK T N e = 0 then (-1, []) else if (stm nR 13 13 T N e).1 = true then ((prs nR T N j (tkE T N (stm nR 13 13 T N e).2.1)).1, mVal T N e :: (prs nR T N j (tkE T N (stm nR 13 13 T N e).2.1)).2) else (nI (tkS T N (stm nR 13 13 T N e).2.1), [])
theorem prs_c {nR : Nat} {T : Nat → Int32} {N p e : Nat} (hp : tkS T N p = tkS T N e) : ∀ j, prs nR T N j p = prs nR T N j e := by
  intro j
  obtain ⟨h1, h2, h3⟩ := stm_c (nR := nR) (o := 13) (w := 13) hp
  cases j with
  | zero => unfold prs; rw [tkK_c hp, hp]
  | succ j =>
    unfold prs
    rw [tkK_c hp, h1, h2, mVal_c hp]
    split
    · rfl
    · split
      · rename_i g
        rw [h3 (h1.trans g)]
      · rfl
theorem kOf_n0 {x : Int32} : ¬ kOf x = 0 := by
  unfold kOf
  split
  · decide
  · split
    · decide
    · split <;> decide
theorem tkK_0 {T : Nat → Int32} {N e : Nat} : tkK T N e = 0 ↔ N ≤ tkS T N e := by
  unfold tkK
  split
  · rename_i h; exact ⟨fun _ => h, fun _ => rfl⟩
  · rename_i h; exact ⟨fun g => absurd g kOf_n0, fun g => absurd g h⟩
theorem prs_end {nR : Nat} {T : Nat → Int32} {N e : Nat} (h : tkK T N e = 0) (j : Nat) : prs nR T N j e = (-1, []) := by
  cases j with
  | zero => unfold prs; rw [if_pos h]
  | succ j => unfold prs; rw [if_pos h]
def cpS (S : tf_M) : Nat → tf_M
  | 0 => S
  | k + 1 => s2 (cpS S k) 58 k (vp_nar .byte (S 57 k))
theorem cpS_ne {S : tf_M} {x : Nat} (h : x ≠ 58) : ∀ k, cpS S k x = S x := by
  intro k
  induction k with
  | zero => rfl
  | succ k ih => unfold cpS; rw [s2_ne h, ih]
theorem cpS_58 {S : tf_M} : ∀ k j, j < k → cpS S k 58 j = vp_nar .byte (S 57 j) := by
  intro k
  induction k with
  | zero => intro j hj; exact absurd hj (Nat.not_lt_zero j)
  | succ k ih =>
    intro j hj
    unfold cpS
    by_cases e : j = k
    · subst e; exact s2_eq
    · rw [s2_nk e]; exact ih j (by omega)
/-- what stays of the state while a text is read -/
def stF (S : tf_M) (t : Nat) (Z : tf_M) : Prop := (∀ x, x ≠ 30 → x ≠ 58 → x ≠ 64 → x ≠ 66 → x ≠ 67 → x ≠ 68 → Z x = S x) ∧ (∀ k, k ≠ 29 → k ≠ 30 → k ≠ 31 → k ≠ 39 → k ≠ 40 → Z 30 k = S 30 k) ∧ (∀ k, k ≠ t → Z 64 k = S 64 k) ∧ ∀ i, i < 16 * t → Z 66 i = S 66 i ∧ Z 67 i = S 67 i ∧ Z 68 i = S 68 i
def stI (S : tf_M) (T : Nat → Int32) (N t c e : Nat) (L : List (Int32 × Int32 × Int32)) (Z : tf_M) : Prop := stF S t Z ∧ Z 58 = T ∧ Z 30 29 = 0 ∧ Z 30 30 = nI N ∧ Z 30 31 = nI e ∧ Z 64 t = nI c ∧ L.length = c ∧ ∀ i v, L[i]? = some v → (Z 66 (16 * t + i), Z 67 (16 * t + i), Z 68 (16 * t + i)) = v
theorem stI.scx {S : tf_M} {T : Nat → Int32} {N t c e e' : Nat} {L : List (Int32 × Int32 × Int32)} {Z W : tf_M} (h : stI S T N t c e L Z) (g : scx Z W) (he : W 30 31 = nI e') : stI S T N t c e' L W := by
  obtain ⟨⟨a1, a2, a3, a4⟩, b1, b2, b3, b4, b5, b6, b7⟩ := h
  refine ⟨⟨fun x h1 h2 h3 h4 h5 h6 => (g.1 x h1).trans (a1 x h1 h2 h3 h4 h5 h6), fun k h1 h2 h3 h4 h5 => (g.2 k h3 h4 h5).trans (a2 k h1 h2 h3 h4 h5), fun k hk => ?_, fun i hi => ?_⟩, ?_, ?_, ?_, he, ?_, b6, fun i v hv => ?_⟩
  · rw [g.1 64 (by decide)]; exact a3 k hk
  · rw [g.1 66 (by decide), g.1 67 (by decide), g.1 68 (by decide)]; exact a4 i hi
  · rw [g.1 58 (by decide)]; exact b1
  · rw [g.2 29 (by decide) (by decide) (by decide)]; exact b2
  · rw [g.2 30 (by decide) (by decide) (by decide)]; exact b3
  · rw [g.1 64 (by decide)]; exact b5
  · rw [g.1 66 (by decide), g.1 67 (by decide), g.1 68 (by decide)]; exact b7 i v hv
theorem s2_at {S : tf_M} {j k i : Nat} {v : Int32} : s2 S j k v j i = if i = k then v else S j i := by
  by_cases h : i = k
  · subst h; rw [if_pos rfl]; exact s2_eq
  · rw [if_neg h]; exact s2_nk h
theorem stI.rows {S : tf_M} {T : Nat → Int32} {N t c e q : Nat} {a b d : Int32} {L : List (Int32 × Int32 × Int32)} {Z : tf_M} (h : stI S T N t c e L Z) (hq : q = 16 * t + c) : stI S T N t c e L (s2 (s2 (s2 Z 67 q a) 66 q b) 68 q d) := by
  obtain ⟨⟨a1, a2, a3, a4⟩, b1, b2, b3, b4, b5, b6, b7⟩ := h
  have n30 : ∀ x, x ≠ 66 → x ≠ 67 → x ≠ 68 → s2 (s2 (s2 Z 67 q a) 66 q b) 68 q d x = Z x := fun x h1 h2 h3 => by rw [s2_ne h3, s2_ne h1, s2_ne h2]
  have r66 : ∀ i, i ≠ q → s2 (s2 (s2 Z 67 q a) 66 q b) 68 q d 66 i = Z 66 i := fun i hi => by rw [s2_ne (by decide), s2_nk hi, s2_ne (by decide)]
  have r67 : ∀ i, i ≠ q → s2 (s2 (s2 Z 67 q a) 66 q b) 68 q d 67 i = Z 67 i := fun i hi => by rw [s2_ne (by decide), s2_ne (by decide), s2_nk hi]
  have r68 : ∀ i, i ≠ q → s2 (s2 (s2 Z 67 q a) 66 q b) 68 q d 68 i = Z 68 i := fun i hi => by rw [s2_nk hi, s2_ne (by decide), s2_ne (by decide)]
  refine ⟨⟨fun x h1 h2 h3 h4 h5 h6 => (n30 x h4 h5 h6).trans (a1 x h1 h2 h3 h4 h5 h6), fun k h1 h2 h3 h4 h5 => ?_, fun k hk => ?_, fun i hi => ?_⟩, ?_, ?_, ?_, ?_, ?_, b6, fun i v hv => ?_⟩
  · rw [n30 30 (by decide) (by decide) (by decide)]; exact a2 k h1 h2 h3 h4 h5
  · rw [n30 64 (by decide) (by decide) (by decide)]; exact a3 k hk
  · rw [r66 i (by omega), r67 i (by omega), r68 i (by omega)]; exact a4 i hi
  · rw [n30 58 (by decide) (by decide) (by decide)]; exact b1
  · rw [n30 30 (by decide) (by decide) (by decide)]; exact b2
  · rw [n30 30 (by decide) (by decide) (by decide)]; exact b3
  · rw [n30 30 (by decide) (by decide) (by decide)]; exact b4
  · rw [n30 64 (by decide) (by decide) (by decide)]; exact b5
  · have : i < c := by rw [← b6]; exact (List.getElem?_eq_some_iff.mp hv).1
    rw [r66 _ (by omega), r67 _ (by omega), r68 _ (by omega)]; exact b7 i v hv
theorem stI.next {S : tf_M} {T : Nat → Int32} {N t c p p' q : Nat} {a b d : Int32} {L : List (Int32 × Int32 × Int32)} {u : tf_M} (h : stI S T N t c p L u) (hq : q = 16 * t + c) (hr : u 66 q = b ∧ u 67 q = a ∧ u 68 q = d) : stI S T N t (c + 1) p' (L ++ [(b, a, d)]) (s2 (s2 u 64 t (nI c + 1)) 30 31 (nI p')) := by
  obtain ⟨⟨a1, a2, a3, a4⟩, b1, b2, b3, b4, b5, b6, b7⟩ := h
  have n30 : ∀ x, x ≠ 30 → x ≠ 64 → s2 (s2 u 64 t (nI c + 1)) 30 31 (nI p') x = u x := fun x h1 h2 => by rw [s2_ne h1, s2_ne h2]
  have r30 : ∀ k, k ≠ 31 → s2 (s2 u 64 t (nI c + 1)) 30 31 (nI p') 30 k = u 30 k := fun k hk => by rw [s2_nk hk, s2_ne (by decide)]
  refine ⟨⟨fun x h1 h2 h3 h4 h5 h6 => (n30 x h1 h3).trans (a1 x h1 h2 h3 h4 h5 h6), fun k h1 h2 h3 h4 h5 => (r30 k h3).trans (a2 k h1 h2 h3 h4 h5), fun k hk => ?_, fun i hi => ?_⟩, ?_, ?_, ?_, s2_eq, ?_, ?_, fun i v hv => ?_⟩
  · rw [s2_ne (by decide), s2_nk hk]; exact a3 k hk
  · rw [n30 66 (by decide) (by decide), n30 67 (by decide) (by decide), n30 68 (by decide) (by decide)]; exact a4 i hi
  · rw [n30 58 (by decide) (by decide)]; exact b1
  · rw [r30 29 (by decide)]; exact b2
  · rw [r30 30 (by decide)]; exact b3
  · rw [s2_ne (by decide), s2_eq, nI_succ]
  · rw [List.length_append, b6]; rfl
  · rw [n30 66 (by decide) (by decide), n30 67 (by decide) (by decide), n30 68 (by decide) (by decide)]
    by_cases hi : i < c
    · rw [List.getElem?_append_left (by omega)] at hv
      exact b7 i v hv
    · have hi2 : i < c + 1 := by
        have := (List.getElem?_eq_some_iff.mp hv).1
        rw [List.length_append, b6] at this
        exact this
      have hic : i = c := by omega
      subst hic
      rw [List.getElem?_append_right (by omega), b6, Nat.sub_self] at hv
      cases hv
      rw [← hq, hr.1, hr.2.1, hr.2.2]
theorem sx3.r67 {S Z : tf_M} {q : Nat} {a b c : Int32} (h : sx3 S q a b c Z) : Z 67 q = a := by
  rw [h.1 67 (by decide), s2_ne (by decide), s2_ne (by decide)]; exact s2_eq
/-- what statute() leaves: t statutes stood, n bytes -/
def stP (nR : Nat) (S : tf_M) (N t : Nat) (z : Int32) (u : tf_M) : Prop := ∃ T : Nat → Int32, (∀ j, j < N → T j = vp_nar .byte (S 57 j)) ∧ z = (if (prs nR T N 16 0).1 = -1 then nI t else -1) ∧ u 30 32 = (prs nR T N 16 0).1 ∧ u 30 29 = 0 ∧ u 30 33 = (if (prs nR T N 16 0).1 = -1 then nI (t + 1) else nI t) ∧ (∀ k, k ≠ 29 → k ≠ 30 → k ≠ 31 → k ≠ 32 → k ≠ 33 → k ≠ 39 → k ≠ 40 → u 30 k = S 30 k) ∧ (∀ x, x ≠ 30 → x ≠ 58 → x ≠ 64 → x ≠ 65 → x ≠ 66 → x ≠ 67 → x ≠ 68 → u x = S x) ∧ (∀ k, k ≠ t → u 64 k = S 64 k) ∧ (∀ k, k ≠ t → u 65 k = S 65 k) ∧ (∀ i, i < 16 * t → u 66 i = S 66 i ∧ u 67 i = S 67 i ∧ u 68 i = S 68 i) ∧ ((prs nR T N 16 0).1 = -1 → u 65 t = S 30 3 ∧ (prs nR T N 16 0).2.length ≤ 16 ∧ u 64 t = nI (prs nR T N 16 0).2.length ∧ ∀ i v, (prs nR T N 16 0).2[i]? = some v → (u 66 (16 * t + i), u 67 (16 * t + i), u 68 (16 * t + i)) = v)
theorem stI.good {nR : Nat} {S Z : tf_M} {T : Nat → Int32} {N t c e : Nat} {L : List (Int32 × Int32 × Int32)} (h : stI S T N t c e L Z) (hT : ∀ j, j < N → T j = vp_nar .byte (S 57 j)) (hS : S 30 33 = nI t) (hc : c ≤ 16) (hp : prs nR T N 16 0 = (-1, L)) : stP nR S N t (Z 30 33 + 1 - 1) (s2 (s2 (s2 Z 30 32 (-1)) 65 t (Z 30 3)) 30 33 (Z 30 33 + 1)) := by
  obtain ⟨⟨a1, a2, a3, a4⟩, b1, b2, b3, b4, b5, b6, b7⟩ := h
  have e33 : Z 30 33 = nI t := (a2 33 (by decide) (by decide) (by decide) (by decide) (by decide)).trans hS
  have e3 : Z 30 3 = S 30 3 := a2 3 (by decide) (by decide) (by decide) (by decide) (by decide)
  rw [e33, ← nI_succ, e3]
  have n30 : ∀ x, x ≠ 30 → x ≠ 65 → s2 (s2 (s2 Z 30 32 (-1)) 65 t (S 30 3)) 30 33 (nI (t + 1)) x = Z x := fun x h1 h2 => by rw [s2_ne h1, s2_ne h2, s2_ne h1]
  have r30 : ∀ k, k ≠ 32 → k ≠ 33 → s2 (s2 (s2 Z 30 32 (-1)) 65 t (S 30 3)) 30 33 (nI (t + 1)) 30 k = Z 30 k := fun k h1 h2 => by rw [s2_nk h2, s2_ne (by decide), s2_nk h1]
  refine ⟨T, hT, ?_, ?_, ?_, ?_, fun k h1 h2 h3 h4 h5 h6 h7 => (r30 k h4 h5).trans (a2 k h1 h2 h3 h6 h7), fun x h1 h2 h3 h4 h5 h6 h7 => (n30 x h1 h4).trans (a1 x h1 h2 h3 h5 h6 h7), fun k hk => ?_, fun k hk => ?_, fun i hi => ?_, fun _ => ⟨?_, ?_, ?_, fun i v hv => ?_⟩⟩
  · rw [hp, if_pos rfl, nI_pred]
  · rw [hp, s2_nk (by decide), s2_ne (by decide)]; exact s2_eq
  · rw [r30 29 (by decide) (by decide)]; exact b2
  · rw [hp, if_pos rfl]; exact s2_eq
  · rw [n30 64 (by decide) (by decide)]; exact a3 k hk
  · rw [s2_ne (by decide), s2_nk hk, s2_ne (by decide)]; exact congrFun (a1 65 (by decide) (by decide) (by decide) (by decide) (by decide) (by decide)) k
  · rw [n30 66 (by decide) (by decide), n30 67 (by decide) (by decide), n30 68 (by decide) (by decide)]; exact a4 i hi
  · rw [s2_ne (by decide)]; exact s2_eq
  · rw [hp]; show L.length ≤ 16; omega
  · rw [hp, n30 64 (by decide) (by decide), b5]; show nI c = nI L.length; rw [b6]
  · rw [hp] at hv
    rw [n30 66 (by decide) (by decide), n30 67 (by decide) (by decide), n30 68 (by decide) (by decide)]; exact b7 i v hv
theorem stI.bad {nR : Nat} {S Z : tf_M} {T : Nat → Int32} {N t c e : Nat} {L L' : List (Int32 × Int32 × Int32)} (h : stI S T N t c e L Z) (hT : ∀ j, j < N → T j = vp_nar .byte (S 57 j)) (hS : S 30 33 = nI t) (he : e ≤ 400) (hp : prs nR T N 16 0 = (nI e, L')) : stP nR S N t (-1) (s2 Z 30 32 (Z 30 31)) := by
  obtain ⟨⟨a1, a2, a3, a4⟩, b1, b2, b3, b4, b5, b6, b7⟩ := h
  have e33 : Z 30 33 = nI t := (a2 33 (by decide) (by decide) (by decide) (by decide) (by decide)).trans hS
  have hn : ¬ nI e = -1 := nI_nm (by omega)
  have n30 : ∀ x, x ≠ 30 → s2 Z 30 32 (Z 30 31) x = Z x := fun x h1 => s2_ne h1
  have r30 : ∀ k, k ≠ 32 → s2 Z 30 32 (Z 30 31) 30 k = Z 30 k := fun k h1 => s2_nk h1
  refine ⟨T, hT, ?_, ?_, ?_, ?_, fun k h1 h2 h3 h4 h5 h6 h7 => (r30 k h4).trans (a2 k h1 h2 h3 h6 h7), fun x h1 h2 h3 h4 h5 h6 h7 => (n30 x h1).trans (a1 x h1 h2 h3 h5 h6 h7), fun k hk => ?_, fun k hk => ?_, fun i hi => ?_, fun g => ?_⟩
  · rw [hp, if_neg hn]
  · rw [hp, s2_eq]; exact b4
  · rw [r30 29 (by decide)]; exact b2
  · rw [hp, if_neg hn, r30 33 (by decide)]; exact e33
  · rw [n30 64 (by decide)]; exact a3 k hk
  · rw [n30 65 (by decide)]; exact congrFun (a1 65 (by decide) (by decide) (by decide) (by decide) (by decide) (by decide)) k
  · rw [n30 66 (by decide), n30 67 (by decide), n30 68 (by decide)]; exact a4 i hi
  · rw [hp] at g; exact absurd g hn
set_option maxHeartbeats 4000000 in
set_option maxRecDepth 100000 in
theorem k_X10_statute (l : Launch) (G : tf_G) (nR : Nat) (LL : List Nat) (ad : Nat → Nat) (hF : ∀ j ∈ tf_fix, j ∈ LL) (S : tf_M) (x : Int32) (k : Nat) (ht9 : S 30 29 = nI k) (hk4 : k ≤ 400) (t : Nat) (ht : S 30 33 = nI t) (ht10 : t ≤ 10) : Ci l yX10_statute wsX10_statute ({ frames := 4, cells := 0, slots := 0, locals := 85 } : Room) G LL ad (pw G nR ad) (pw G nR ad S) [.ref (ad 30), .int x] (fun z u => (isW x 0 (S 30 29) = false → z = -2 ∧ u = S) ∧ (isW x 0 (S 30 29) = true → t = 10 → z = -3 ∧ u = S) ∧ (isW x 0 (S 30 29) = true → ¬ t = 10 → stP nR S x.toNatClampNeg t z u)) := by
  have hin10 : ∀ w ∈ u_ws RX10 TX10 45, w ∈ wsX10_statute := by decide +kernel
  have lk150 : Cond.fieldLink RX10 150 "TributeFleetModel" "taped" "I" ∈ wsX10_statute := by decide +kernel
  have lk202 : Cond.fieldLink RX10 202 "TributeFleetModel" "statutes" "I" ∈ wsX10_statute := by decide +kernel
  have lk160 : Cond.fieldLink RX10 160 "TributeFleetModel" "size" "I" ∈ wsX10_statute := by decide +kernel
  have lk157 : Cond.fieldLink RX10 157 "TributeFleetModel" "place" "I" ∈ wsX10_statute := by decide +kernel
  have lk85 : Cond.fieldLink RX10 85 "TributeFleetModel" "statements" "[I" ∈ wsX10_statute := by decide +kernel
  have lk82 : Cond.fieldLink RX10 82 "TributeFleetModel" "fault" "I" ∈ wsX10_statute := by decide +kernel
  have lk88 : Cond.fieldLink RX10 88 "TributeFleetModel" "taken" "[I" ∈ wsX10_statute := by decide +kernel
  have lk144 : Cond.fieldLink RX10 144 "TributeFleetModel" "today" "I" ∈ wsX10_statute := by decide +kernel
  have lk79 : Cond.fieldLink RX10 79 "TributeFleetModel" "text" "[B" ∈ wsX10_statute := by decide +kernel
  have lk75 : Cond.fieldLink RX10 75 "TributeFleetModel" "tape" "[B" ∈ wsX10_statute := by decide +kernel
  refine ci_of (cc := cX10_statute) (maxL := 3) (ret := (some .int)) (by decide +kernel) rfl (Nat.le_of_ble_eq_true rfl) ?_
  intro pv ev sv mv args below meth cv A C hrt9 hnm9
  have C : Cx pv sv mv args meth cv cX10_statute 3 RX10 wsX10_statute G A LL ad := C
  show XJ pv l ev _ sv mv args below meth cv G A LL ad _ 3 0 0 _ 0 [(0, .ref (ad 30)), (1, .int x)] []
  refine x_iload_n C 1 dX10_statute_0 rfl rfl ?_
  refine x_iconst C dX10_statute_1 (v := 0) (by decide) ?_
  refine x_aload_n C 0 dX10_statute_2 rfl rfl ?_
  refine x_get C (T := TX10) (N := 45) (v := .int (S 30 29)) 30 29 hin10 (hF 30 (by decide)) (pf_30 G nR ad _) rfl (by decide) lk150 rfl rfl dX10_statute_3 ?_
  refine x_Si C (k_X10_isIn l G LL ad _ x 0 (S 30 29)) gX10_statute_X10_isIn rfl (by decide +kernel) ⟨(Nat.le_of_ble_eq_true rfl), (Nat.le_of_ble_eq_true rfl)⟩ ⟨(Nat.le_of_ble_eq_true rfl), (Nat.le_of_ble_eq_true rfl)⟩ (n := 3) rfl (st := []) (Nat.le_of_ble_eq_true rfl) rfl dX10_statute_6 (fun _ _ hr9 => ?_)
  subst hr9
  refine x_if_ne C (tgt := 15) dX10_statute_9 (by decide) (fun c9 => ?_) (fun c9 => ?_)
  · replace c9 := bI_nz c9
    refine x_aload_n C 0 dX10_statute_15 rfl rfl ?_
    refine x_get C (T := TX10) (N := 45) (v := .int (S 30 33)) 30 33 hin10 (hF 30 (by decide)) (pf_30 G nR ad _) rfl (by decide) lk202 rfl rfl dX10_statute_16 ?_
    refine x_bipush C dX10_statute_19 (v := 10) (by decide) ?_
    refine x_icmp_ne C (tgt := 27) dX10_statute_21 (by decide) (fun c21 => ?_) (fun c21 => ?_)
    · skip
      have hxN : ∃ N, N ≤ k ∧ x = nI N := by
        have h1 := isW_t c9
        rw [ht9] at h1
        obtain ⟨j, hj, hx⟩ := nI_of2 (x := x) (M := nI k) (n := k) (nI_toInt (by omega)) (Int32.not_lt.mpr h1.1) h1.2
        exact ⟨j, hj, hx⟩
      obtain ⟨N, hNk, hx⟩ := hxN
      have hne : ¬ t = 10 := fun h => c21 (by rw [ht, h]; rfl)
      have hcl : x.toNatClampNeg = N := by rw [hx]; exact nI_clamp (by omega)
      refine x_iconst C dX10_statute_27 (v := 0) (by decide) ?_
      refine x_istore_n C (L1 := [(2, .int 0), (0, .ref (ad 30)), (1, .int x)]) dX10_statute_28 rfl (by decide) rfl ?_
      have lp29 : ∀ (d9 : Nat) (j : Nat) (S1 : tf_M), (j ≤ N) → (S1 = cpS S j) → N - j < d9 → XJ pv l ev ({ frames := 4, cells := 0, slots := 0, locals := 85 } : Room) sv mv args below meth cv G A LL ad (MQ below (va_Qi (fun z u => (isW x 0 (S 30 29) = false → z = -2 ∧ u = S) ∧ (isW x 0 (S 30 29) = true → t = 10 → z = -3 ∧ u = S) ∧ (isW x 0 (S 30 29) = true → ¬ t = 10 → stP nR S x.toNatClampNeg t z u)) (tf_B G LL ad (pw G nR ad)) A) args sv 0 0 A) 3 0 0 (pw G nR ad S1) 29 [(0, .ref (ad 30)), (1, .int x), (2, .int (nI j))] [] := by
        intro d9
        induction d9 with
        | zero => intro j S1 hjn e0 hd9; omega
        | succ d9 ih29 =>
          intro j S1 hjn e0 hd9
          have ih := ih29
          refine x_iload_n C 2 dX10_statute_29 rfl rfl ?_
          refine x_iload_n C 1 dX10_statute_30 rfl rfl ?_
          refine x_icmp_ge C (tgt := 52) dX10_statute_31 (by decide) (fun c31 => ?_) (fun c31 => ?_)
          · skip
            have hge : N ≤ j := nI_ge' (by rw [← hx]; exact c31) (by omega)
            have h33 : S1 30 33 = nI t := by rw [e0, cpS_ne (by decide)]; exact ht
            refine x_aload_n C 0 dX10_statute_52 rfl rfl ?_
            refine x_iload_n C 1 dX10_statute_53 rfl rfl ?_
            refine y_put C (T := TX10) (N := 45) (ty := .int) 30 30 hin10 tyX10 tyX10_ok nmX10 (hF 30 (by decide)) (pf_30 G nR ad _) (pf_30 G nR ad _) rfl (by decide) lk160 rfl rfl (by decide +kernel) rfl rfl (Nat.le_of_ble_eq_true rfl) dX10_statute_54 ?_
            refine x_aload_n C 0 dX10_statute_57 rfl rfl ?_
            refine x_iconst C dX10_statute_58 (v := 0) (by decide) ?_
            refine y_put C (T := TX10) (N := 45) (ty := .int) 30 29 hin10 tyX10 tyX10_ok nmX10 (hF 30 (by decide)) (pf_30 G nR ad _) (pf_30 G nR ad _) rfl (by decide) lk150 rfl rfl (by decide +kernel) rfl rfl (Nat.le_of_ble_eq_true rfl) dX10_statute_59 ?_
            refine x_aload_n C 0 dX10_statute_62 rfl rfl ?_
            refine x_iconst C dX10_statute_63 (v := 0) (by decide) ?_
            refine y_put C (T := TX10) (N := 45) (ty := .int) 30 31 hin10 tyX10 tyX10_ok nmX10 (hF 30 (by decide)) (pf_30 G nR ad _) (pf_30 G nR ad _) rfl (by decide) lk157 rfl rfl (by decide +kernel) rfl rfl (Nat.le_of_ble_eq_true rfl) dX10_statute_64 ?_
            refine x_aload_n C 0 dX10_statute_67 rfl rfl ?_
            refine x_get C (T := TX10) (N := 45) (v := .ref (ad 64)) 30 34 hin10 (hF 30 (by decide)) (pf_30 G nR ad _) rfl (by decide) lk85 rfl rfl dX10_statute_68 ?_
            refine x_aload_n C 0 dX10_statute_71 rfl rfl ?_
            refine x_get C (T := TX10) (N := 45) (v := .int (S1 30 33)) 30 33 hin10 (hF 30 (by decide)) (pf_30 G nR ad _) rfl (by decide) lk202 rfl rfl dX10_statute_72 ?_
            refine x_iconst C dX10_statute_75 (v := 0) (by decide) ?_
            refine y_iast C 64 (hF 64 (by decide)) (fun f => (pf_64 G nR ad f)) (by show vp_in (S1 30 33) 11; rw [h33]; exact nI_in (by omega) (by decide)) (kk := t) (by show (S1 30 33).toNatClampNeg = t; rw [h33]; exact nI_clamp (by omega)) dX10_statute_76 ?_
            obtain ⟨T, hT⟩ : ∃ T, T = cpS S N 58 := ⟨_, rfl⟩
            rw [show j = N by omega] at e0
            have hT57 : ∀ j, j < N → T j = vp_nar .byte (S 57 j) := fun j hj => by rw [hT]; exact cpS_58 N j hj
            obtain ⟨Z0, hZ0⟩ : ∃ Z0, Z0 = (s2 (s2 (s2 (s2 S1 30 30 x) 30 29 0) 30 31 0) 64 t 0) := ⟨_, rfl⟩
            rw [← hZ0]
            have hI0 : stI S T N t 0 0 [] Z0 := by
              have hs : ∀ y, y ≠ 58 → S1 y = S y := fun y hy => by rw [e0]; exact cpS_ne hy N
              rw [hZ0]
              refine ⟨⟨fun y h1 h2 h3 h4 h5 h6 => ?_, fun y h1 h2 h3 h4 h5 => ?_, fun y hy => ?_, fun i hi => ?_⟩, ?_, ?_, ?_, ?_, ?_, rfl, fun i v hv => ?_⟩
              · rw [s2_ne h3, s2_ne h1, s2_ne h1, s2_ne h1]; exact hs y h2
              · rw [s2_ne (by decide), s2_nk h3, s2_nk h1, s2_nk h2]; exact congrFun (hs 30 (by decide)) y
              · rw [s2_nk hy, s2_ne (by decide), s2_ne (by decide), s2_ne (by decide)]; exact congrFun (hs 64 (by decide)) y
              · rw [s2_ne (by decide), s2_ne (by decide), s2_ne (by decide), s2_ne (by decide), s2_ne (by decide), s2_ne (by decide), s2_ne (by decide), s2_ne (by decide), s2_ne (by decide), s2_ne (by decide), s2_ne (by decide), s2_ne (by decide), hs 66 (by decide), hs 67 (by decide), hs 68 (by decide)]; exact ⟨rfl, rfl, rfl⟩
              · rw [s2_ne (by decide), s2_ne (by decide), s2_ne (by decide), s2_ne (by decide), hT, e0]
              · rw [s2_ne (by decide), s2_nk (by decide)]; exact s2_eq
              · rw [s2_ne (by decide), s2_nk (by decide), s2_nk (by decide), s2_eq]; exact hx
              · rw [s2_ne (by decide)]; exact s2_eq
              · exact s2_eq
              · cases hv
            refine x_iconst C dX10_statute_77 (v := 1) (by decide) ?_
            refine x_istore_n C (L1 := [(2, .int 1), (0, .ref (ad 30)), (1, .int x)]) dX10_statute_78 rfl (by decide) rfl ?_
            refine x_aload_n C 1 dX10_statute_79 rfl rfl ?_
            refine x_Vv 30 C (k_X10_blanks l G nR LL ad hF Z0 N 0 hI0.2.2.2.1 hI0.2.2.2.2.1 (by omega) (Nat.zero_le _)) gX10_statute_X10_blanks rfl (by decide +kernel) ⟨(Nat.le_of_ble_eq_true rfl), (Nat.le_of_ble_eq_true rfl)⟩ ⟨(Nat.le_of_ble_eq_true rfl), (Nat.le_of_ble_eq_true rfl)⟩ (hF 30 (by decide)) (pf_30 G nR ad _) (T := TX10) (N := 45) rfl (n := 0) rfl (st := []) (Nat.le_of_ble_eq_true rfl) rfl dX10_statute_80 (fun _ hr9 => ?_)
            subst hr9
            rw [hI0.2.1]
            obtain ⟨Z1, hZ1⟩ : ∃ Z1, Z1 = s2 Z0 30 31 (nI (tkS T N 0)) := ⟨_, rfl⟩
            rw [← hZ1]
            have hI1 : stI S T N t 0 (tkS T N 0) [] Z1 := by rw [hZ1]; exact hI0.scx scx.p31 s2_eq
            have lp83 : ∀ (d9 : Nat) (c e : Nat) (L : List (Int32 × Int32 × Int32)) (Z : tf_M), (stI S T N t c e L Z) → (c ≤ 16) → (e ≤ N) → (tkS T N e = e) → (prs nR T N 16 0 = ((prs nR T N (16 - c) e).1, L ++ (prs nR T N (16 - c) e).2)) → 16 - c < d9 → XJ pv l ev ({ frames := 4, cells := 0, slots := 0, locals := 85 } : Room) sv mv args below meth cv G A LL ad (MQ below (va_Qi (fun z u => (isW x 0 (S 30 29) = false → z = -2 ∧ u = S) ∧ (isW x 0 (S 30 29) = true → t = 10 → z = -3 ∧ u = S) ∧ (isW x 0 (S 30 29) = true → ¬ t = 10 → stP nR S x.toNatClampNeg t z u)) (tf_B G LL ad (pw G nR ad)) A) args sv 0 0 A) 3 0 0 (pw G nR ad Z) 83 [(0, .ref (ad 30)), (1, .int x), (2, .int 1)] [] := by
              intro d9
              induction d9 with
              | zero => intro c e L Z hI hc heN hid hpr hd9; omega
              | succ d9 ih83 =>
                intro c e L Z hI hc heN hid hpr hd9
                have ih := ih83
                refine x_iload_n C 2 dX10_statute_83 rfl rfl ?_
                refine x_if_eq C (tgt := 169) dX10_statute_84 (by decide) (fun c84 => ?_) (fun c84 => ?_)
                · exact absurd c84 (by decide)
                refine x_aload_n C 0 dX10_statute_87 rfl rfl ?_
                have h33 : Z 30 33 = nI t := (hI.1.2.1 33 (by decide) (by decide) (by decide) (by decide) (by decide)).trans ht
                refine x_get C (T := TX10) (N := 45) (v := .int (Z 30 31)) 30 31 hin10 (hF 30 (by decide)) (pf_30 G nR ad _) rfl (by decide) lk157 rfl rfl dX10_statute_88 ?_
                refine x_aload_n C 0 dX10_statute_91 rfl rfl ?_
                refine x_get C (T := TX10) (N := 45) (v := .int (Z 30 30)) 30 30 hin10 (hF 30 (by decide)) (pf_30 G nR ad _) rfl (by decide) lk160 rfl rfl dX10_statute_92 ?_
                refine x_icmp_ge C (tgt := 169) dX10_statute_95 (by decide) (fun c95 => ?_) (fun c95 => ?_)
                · skip
                  refine x_aload_n C 0 dX10_statute_169 rfl rfl ?_
                  refine x_iload_n C 2 dX10_statute_170 rfl rfl ?_
                  refine x_if_eq C (tgt := 178) dX10_statute_171 (by decide) (fun c171 => ?_) (fun c171 => ?_)
                  · exact absurd c171 (by decide)
                  refine x_iconst C dX10_statute_174 (v := -1) (by decide) ?_
                  refine x_goto C (tgt := 182) dX10_statute_175 (by decide) ?_
                  refine y_put C (T := TX10) (N := 45) (ty := .int) 30 32 hin10 tyX10 tyX10_ok nmX10 (hF 30 (by decide)) (pf_30 G nR ad _) (pf_30 G nR ad _) rfl (by decide) lk82 rfl rfl (by decide +kernel) rfl rfl (Nat.le_of_ble_eq_true rfl) dX10_statute_182 ?_
                  refine x_iload_n C 2 dX10_statute_185 rfl rfl ?_
                  refine x_if_ne C (tgt := 191) dX10_statute_186 (by decide) (fun c186 => ?_) (fun c186 => ?_)
                  rotate_left
                  · exact absurd c186 (by decide)
                  refine x_aload_n C 0 dX10_statute_191 rfl rfl ?_
                  refine x_get C (T := TX10) (N := 45) (v := .ref (ad 65)) 30 35 hin10 (hF 30 (by decide)) (pf_30 G nR ad _) rfl (by decide) lk88 rfl rfl dX10_statute_192 ?_
                  refine x_aload_n C 0 dX10_statute_195 rfl rfl ?_
                  refine x_get C (T := TX10) (N := 45) (v := .int (Z 30 33)) 30 33 hin10 (hF 30 (by decide)) (pf_30 G nR ad _) rfl (by decide) lk202 rfl rfl dX10_statute_196 ?_
                  refine x_aload_n C 0 dX10_statute_199 rfl rfl ?_
                  refine x_get C (T := TX10) (N := 45) (v := .int (Z 30 3)) 30 3 hin10 (hF 30 (by decide)) (pf_30 G nR ad _) rfl (by decide) lk144 rfl rfl dX10_statute_200 ?_
                  refine y_iast C 65 (hF 65 (by decide)) (fun f => (pf_65 G nR ad f)) (by show vp_in (Z 30 33) 11; rw [h33]; exact nI_in (by omega) (by decide)) (kk := t) (by show (Z 30 33).toNatClampNeg = t; rw [h33]; exact nI_clamp (by omega)) dX10_statute_203 ?_
                  refine x_aload_n C 0 dX10_statute_204 rfl rfl ?_
                  refine x_dup C dX10_statute_205 rfl ?_
                  refine x_get C (T := TX10) (N := 45) (v := .int (Z 30 33)) 30 33 hin10 (hF 30 (by decide)) (pf_30 G nR ad _) rfl (by decide) lk202 rfl rfl dX10_statute_206 ?_
                  refine x_iconst C dX10_statute_209 (v := 1) (by decide) ?_
                  refine x_iadd C dX10_statute_210 ?_
                  refine y_put C (T := TX10) (N := 45) (ty := .int) 30 33 hin10 tyX10 tyX10_ok nmX10 (hF 30 (by decide)) (pf_30 G nR ad _) (pf_30 G nR ad _) rfl (by decide) lk202 rfl rfl (by decide +kernel) rfl rfl (Nat.le_of_ble_eq_true rfl) dX10_statute_211 ?_
                  refine x_aload_n C 0 dX10_statute_214 rfl rfl ?_
                  refine x_get C (T := TX10) (N := 45) (v := .int ((Z 30 33) + 1)) 30 33 hin10 (hF 30 (by decide)) (pf_30 G nR ad _) rfl (by decide) lk202 rfl rfl dX10_statute_215 ?_
                  refine x_iconst C dX10_statute_218 (v := 1) (by decide) ?_
                  refine x_isub C dX10_statute_219 ?_
                  refine x_iret C hrt9 (s2 (s2 (s2 Z 30 32 (-1)) 65 t (Z 30 3)) 30 33 ((Z 30 33) + 1)) ?_ rfl dX10_statute_220
                  refine ⟨fun h => (by rw [c9] at h; cases h), fun _ h => absurd h hne, fun _ _ => ?_⟩
                  rw [hcl]
                  have hend : tkK T N e = 0 := tkK_0.mpr (by rw [hid]; exact nI_ge' (by rw [← hI.2.2.2.1, ← hI.2.2.2.2.1]; exact c95) (by omega))
                  rw [prs_end hend, List.append_nil] at hpr
                  exact hI.good hT57 ht hc hpr
                · skip
                  refine x_aload_n C 0 dX10_statute_98 rfl rfl ?_
                  refine x_get C (T := TX10) (N := 45) (v := .ref (ad 64)) 30 34 hin10 (hF 30 (by decide)) (pf_30 G nR ad _) rfl (by decide) lk85 rfl rfl dX10_statute_99 ?_
                  refine x_aload_n C 0 dX10_statute_102 rfl rfl ?_
                  have hlt : e < N := nI_lt' (by rw [← hI.2.2.2.1, ← hI.2.2.2.2.1]; exact c95) (by omega)
                  refine x_get C (T := TX10) (N := 45) (v := .int (Z 30 33)) 30 33 hin10 (hF 30 (by decide)) (pf_30 G nR ad _) rfl (by decide) lk202 rfl rfl dX10_statute_103 ?_
                  refine x_iald C 64 (hF 64 (by decide)) (pf_64 G nR ad _) (by show vp_in (Z 30 33) 11; rw [h33]; exact nI_in (by omega) (by decide)) (kk := t) (by show (Z 30 33).toNatClampNeg = t; rw [h33]; exact nI_clamp (by omega)) dX10_statute_106 ?_
                  refine x_bipush C dX10_statute_107 (v := 16) (by decide) ?_
                  refine x_icmp_ge C (tgt := 140) dX10_statute_109 (by decide) (fun c109 => ?_) (fun c109 => ?_)
                  · skip
                    refine x_iconst C dX10_statute_140 (v := 0) (by decide) ?_
                    refine x_istore_n C (L1 := [(2, .int 0), (0, .ref (ad 30)), (1, .int x)]) dX10_statute_141 rfl (by decide) rfl ?_
                    refine x_iload_n C 0 dX10_statute_142 rfl rfl ?_
                    refine x_if_ne C (tgt := 149) dX10_statute_143 (by decide) (fun c143 => ?_) (fun c143 => ?_)
                    · exact absurd c143 (by decide)
                    refine x_goto C (tgt := 83) dX10_statute_146 (by decide) ?_
                    refine x_iload_n C 0 dX10_statute_83 rfl rfl ?_
                    refine x_if_eq C (tgt := 169) dX10_statute_84 (by decide) (fun c84 => ?_) (fun c84 => ?_)
                    rotate_left
                    · exact absurd (by decide) c84
                    refine x_aload_n C 1 dX10_statute_169 rfl rfl ?_
                    refine x_iload_n C 0 dX10_statute_170 rfl rfl ?_
                    refine x_if_eq C (tgt := 178) dX10_statute_171 (by decide) (fun c171 => ?_) (fun c171 => ?_)
                    rotate_left
                    · exact absurd (by decide) c171
                    refine x_aload_n C 1 dX10_statute_178 rfl rfl ?_
                    refine x_get C (T := TX10) (N := 45) (v := .int (Z 30 31)) 30 31 hin10 (hF 30 (by decide)) (pf_30 G nR ad _) rfl (by decide) lk157 rfl rfl dX10_statute_179 ?_
                    refine y_put C (T := TX10) (N := 45) (ty := .int) 30 32 hin10 tyX10 tyX10_ok nmX10 (hF 30 (by decide)) (pf_30 G nR ad _) (pf_30 G nR ad _) rfl (by decide) lk82 rfl rfl (by decide +kernel) rfl rfl (Nat.le_of_ble_eq_true rfl) dX10_statute_182 ?_
                    refine x_iload_n C 0 dX10_statute_185 rfl rfl ?_
                    refine x_if_ne C (tgt := 191) dX10_statute_186 (by decide) (fun c186 => ?_) (fun c186 => ?_)
                    · exact absurd c186 (by decide)
                    refine x_iconst C dX10_statute_189 (v := -1) (by decide) ?_
                    refine x_iret C hrt9 (s2 Z 30 32 (Z 30 31)) ?_ rfl dX10_statute_190
                    refine ⟨fun h => (by rw [c9] at h; cases h), fun _ h => absurd h hne, fun _ _ => ?_⟩
                    rw [hcl]
                    have hK : ¬ tkK T N e = 0 := fun h => by have := tkK_0.mp h; rw [hid] at this; omega
                    have hc9 : c = 16 := by
                      have := nI_ge' (b := 16) (by rw [← hI.2.2.2.2.2.1]; exact c109) (by omega)
                      omega
                    subst hc9
                    rw [Nat.sub_self] at hpr
                    conv at hpr => rhs; unfold prs
                    rw [if_neg hK, hid] at hpr
                    exact hI.bad hT57 ht (by omega) hpr
                  · skip
                    have hc16 : c < 16 := nI_lt' (b := 16) (by rw [← hI.2.2.2.2.2.1]; exact c109) (by omega)
                    refine x_aload_n C 0 dX10_statute_112 rfl rfl ?_
                    refine x_bipush C dX10_statute_113 (v := 16) (by decide) ?_
                    refine x_aload_n C 0 dX10_statute_115 rfl rfl ?_
                    refine x_get C (T := TX10) (N := 45) (v := .int (Z 30 33)) 30 33 hin10 (hF 30 (by decide)) (pf_30 G nR ad _) rfl (by decide) lk202 rfl rfl dX10_statute_116 ?_
                    refine x_imul C dX10_statute_119 ?_
                    refine x_aload_n C 0 dX10_statute_120 rfl rfl ?_
                    refine x_get C (T := TX10) (N := 45) (v := .ref (ad 64)) 30 34 hin10 (hF 30 (by decide)) (pf_30 G nR ad _) rfl (by decide) lk85 rfl rfl dX10_statute_121 ?_
                    refine x_aload_n C 0 dX10_statute_124 rfl rfl ?_
                    refine x_get C (T := TX10) (N := 45) (v := .int (Z 30 33)) 30 33 hin10 (hF 30 (by decide)) (pf_30 G nR ad _) rfl (by decide) lk202 rfl rfl dX10_statute_125 ?_
                    refine x_iald C 64 (hF 64 (by decide)) (pf_64 G nR ad _) (by show vp_in (Z 30 33) 11; rw [h33]; exact nI_in (by omega) (by decide)) (kk := t) (by show (Z 30 33).toNatClampNeg = t; rw [h33]; exact nI_clamp (by omega)) dX10_statute_128 ?_
                    refine x_iadd C dX10_statute_129 ?_
                    refine x_top C (v2 := nI (16 * t + c)) (by rw [h33, hI.2.2.2.2.2.1, nI_ad, nI_ml]; rfl) ?_
                    refine x_Vi 30 C (k_X10_statement l G nR LL ad hF Z N e hI.2.2.2.1 hI.2.2.2.2.1 (by omega) heN 13 13 (16 * t + c) (by omega)) gX10_statute_X10_statement rfl (by decide +kernel) ⟨(Nat.le_of_ble_eq_true rfl), (Nat.le_of_ble_eq_true rfl)⟩ ⟨(Nat.le_of_ble_eq_true rfl), (Nat.le_of_ble_eq_true rfl)⟩ (hF 30 (by decide)) (pf_30 G nR ad _) (T := TX10) (N := 45) rfl (n := 1) rfl (st := []) (Nat.le_of_ble_eq_true rfl) rfl dX10_statute_130 (fun z9 u hr9 => ?_)
                    obtain ⟨hz9, hu, a, b, d, hs3, hv⟩ := hr9
                    rw [hI.2.1] at hz9 hu hv
                    subst hz9
                    have hIu : stI S T N t c (if (stm nR 13 13 T N e).1 = true then tkE T N (stm nR 13 13 T N e).2.1 else tkS T N (stm nR 13 13 T N e).2.1) L u := (hI.rows (q := 16 * t + c) (a := a) (b := b) (d := d) rfl).scx hs3 hu
                    have hsn : (stm nR 13 13 T N e).2.1 ≤ N := (stm_ok (nR := nR) (o := 13) (w := 13) (T := T) (by decide) (by decide) heN).2
                    have h33u : u 30 33 = nI t := (hIu.1.2.1 33 (by decide) (by decide) (by decide) (by decide) (by decide)).trans ht
                    refine x_if_eq C (tgt := 140) dX10_statute_133 (by decide) (fun c133 => ?_) (fun c133 => ?_)
                    · replace c133 := bI_z c133
                      refine x_iconst C dX10_statute_140 (v := 0) (by decide) ?_
                      refine x_istore_n C (L1 := [(2, .int 0), (0, .ref (ad 30)), (1, .int x)]) dX10_statute_141 rfl (by decide) rfl ?_
                      refine x_iload_n C 0 dX10_statute_142 rfl rfl ?_
                      refine x_if_ne C (tgt := 149) dX10_statute_143 (by decide) (fun c143 => ?_) (fun c143 => ?_)
                      · exact absurd c143 (by decide)
                      refine x_goto C (tgt := 83) dX10_statute_146 (by decide) ?_
                      refine x_iload_n C 0 dX10_statute_83 rfl rfl ?_
                      refine x_if_eq C (tgt := 169) dX10_statute_84 (by decide) (fun c84 => ?_) (fun c84 => ?_)
                      rotate_left
                      · exact absurd (by decide) c84
                      refine x_aload_n C 1 dX10_statute_169 rfl rfl ?_
                      refine x_iload_n C 0 dX10_statute_170 rfl rfl ?_
                      refine x_if_eq C (tgt := 178) dX10_statute_171 (by decide) (fun c171 => ?_) (fun c171 => ?_)
                      rotate_left
                      · exact absurd (by decide) c171
                      refine x_aload_n C 1 dX10_statute_178 rfl rfl ?_
                      refine x_get C (T := TX10) (N := 45) (v := .int (u 30 31)) 30 31 hin10 (hF 30 (by decide)) (pf_30 G nR ad _) rfl (by decide) lk157 rfl rfl dX10_statute_179 ?_
                      refine y_put C (T := TX10) (N := 45) (ty := .int) 30 32 hin10 tyX10 tyX10_ok nmX10 (hF 30 (by decide)) (pf_30 G nR ad _) (pf_30 G nR ad _) rfl (by decide) lk82 rfl rfl (by decide +kernel) rfl rfl (Nat.le_of_ble_eq_true rfl) dX10_statute_182 ?_
                      refine x_iload_n C 0 dX10_statute_185 rfl rfl ?_
                      refine x_if_ne C (tgt := 191) dX10_statute_186 (by decide) (fun c186 => ?_) (fun c186 => ?_)
                      · exact absurd c186 (by decide)
                      refine x_iconst C dX10_statute_189 (v := -1) (by decide) ?_
                      refine x_iret C hrt9 (s2 u 30 32 (u 30 31)) ?_ rfl dX10_statute_190
                      refine ⟨fun h => (by rw [c9] at h; cases h), fun _ h => absurd h hne, fun _ _ => ?_⟩
                      rw [hcl]
                      have hK : ¬ tkK T N e = 0 := fun h => by have := tkK_0.mp h; rw [hid] at this; omega
                      rw [show 16 - c = (16 - (c + 1)) + 1 by omega] at hpr
                      conv at hpr => rhs; unfold prs
                      rw [if_neg hK, if_neg (show ¬ (stm nR 13 13 T N e).1 = true by rw [c133]; decide)] at hpr
                      rw [if_neg (by rw [c133]; decide)] at hIu
                      exact hIu.bad hT57 ht (by have := tk_le (T := T) hsn; omega) hpr
                    · replace c133 := bI_nz c133
                      refine x_iconst C dX10_statute_136 (v := 1) (by decide) ?_
                      refine x_goto C (tgt := 141) dX10_statute_137 (by decide) ?_
                      refine x_istore_n C (L1 := [(2, .int 1), (0, .ref (ad 30)), (1, .int x)]) dX10_statute_141 rfl (by decide) rfl ?_
                      refine x_iload_n C 0 dX10_statute_142 rfl rfl ?_
                      refine x_if_ne C (tgt := 149) dX10_statute_143 (by decide) (fun c143 => ?_) (fun c143 => ?_)
                      rotate_left
                      · exact absurd c143 (by decide)
                      refine x_aload_n C 1 dX10_statute_149 rfl rfl ?_
                      refine x_get C (T := TX10) (N := 45) (v := .ref (ad 64)) 30 34 hin10 (hF 30 (by decide)) (pf_30 G nR ad _) rfl (by decide) lk85 rfl rfl dX10_statute_150 ?_
                      refine x_aload_n C 1 dX10_statute_153 rfl rfl ?_
                      refine x_get C (T := TX10) (N := 45) (v := .int (u 30 33)) 30 33 hin10 (hF 30 (by decide)) (pf_30 G nR ad _) rfl (by decide) lk202 rfl rfl dX10_statute_154 ?_
                      refine x_dup2 C dX10_statute_157 rfl rfl ?_
                      refine x_iald C 64 (hF 64 (by decide)) (pf_64 G nR ad _) (by show vp_in (u 30 33) 11; rw [h33u]; exact nI_in (by omega) (by decide)) (kk := t) (by show (u 30 33).toNatClampNeg = t; rw [h33u]; exact nI_clamp (by omega)) dX10_statute_158 ?_
                      refine x_iconst C dX10_statute_159 (v := 1) (by decide) ?_
                      refine x_iadd C dX10_statute_160 ?_
                      refine y_iast C 64 (hF 64 (by decide)) (fun f => (pf_64 G nR ad f)) (by show vp_in (u 30 33) 11; rw [h33u]; exact nI_in (by omega) (by decide)) (kk := t) (by show (u 30 33).toNatClampNeg = t; rw [h33u]; exact nI_clamp (by omega)) dX10_statute_161 ?_
                      obtain ⟨W, hW⟩ : ∃ W, W = s2 u 64 t (u 64 t + 1) := ⟨_, rfl⟩
                      rw [if_pos c133] at hIu
                      have hW0 : u 64 t = nI c := hIu.2.2.2.2.2.1
                      obtain ⟨p, hp⟩ : ∃ p, p = tkE T N (stm nR 13 13 T N e).2.1 := ⟨_, rfl⟩
                      rw [← hp] at hIu
                      have hpN : p ≤ N := by rw [hp]; exact (tk_le hsn).2.2
                      have hW1 : W 30 30 = nI N := by rw [hW, s2_ne (by decide)]; exact hIu.2.2.2.1
                      have hW2 : W 30 31 = nI p := by rw [hW, s2_ne (by decide)]; exact hIu.2.2.2.2.1
                      have hW3 : W 58 = T := by rw [hW, s2_ne (by decide)]; exact hIu.2.1
                      rw [← hW]
                      refine x_aload_n C 1 dX10_statute_162 rfl rfl ?_
                      refine x_Vv 30 C (k_X10_blanks l G nR LL ad hF W N p hW1 hW2 (by omega) hpN) gX10_statute_X10_blanks rfl (by decide +kernel) ⟨(Nat.le_of_ble_eq_true rfl), (Nat.le_of_ble_eq_true rfl)⟩ ⟨(Nat.le_of_ble_eq_true rfl), (Nat.le_of_ble_eq_true rfl)⟩ (hF 30 (by decide)) (pf_30 G nR ad _) (T := TX10) (N := 45) rfl (n := 0) rfl (st := []) (Nat.le_of_ble_eq_true rfl) rfl dX10_statute_163 (fun _ hr9 => ?_)
                      subst hr9
                      rw [hW3]
                      refine x_goto C (tgt := 83) dX10_statute_166 (by decide) ?_
                      refine x_sub [1, 2, 0] (L1 := [(0, .ref (ad 30)), (1, .int x), (2, .int 1)]) rfl ?_
                      have hK : ¬ tkK T N e = 0 := fun h => by have := tkK_0.mp h; rw [hid] at this; omega
                      have hnx := hIu.next (p' := tkS T N p) rfl ⟨hs3.r66, hs3.r67, hs3.r68⟩
                      rw [← hW0, ← hW] at hnx
                      refine ih (c + 1) (tkS T N p) _ _ hnx (by omega) (Nat.le_trans (tk_le hpN).2.1 (tk_le hpN).2.2) (tkS_idem hpN) ?_ (by omega)
                      rw [hpr, show 16 - c = (16 - (c + 1)) + 1 by omega]
                      conv => lhs; unfold prs
                      rw [if_neg hK, if_pos c133, ← hp, prs_c (tkS_idem hpN), List.append_assoc, hv c133]
                      rfl
            refine x_sub [1, 2, 0] (L1 := [(0, .ref (ad 30)), (1, .int x), (2, .int 1)]) rfl ?_
            exact lp83 17 0 (tkS T N 0) [] Z1 hI1 (by decide) (Nat.le_trans (tk_le (Nat.zero_le N)).2.1 (tk_le (Nat.zero_le N)).2.2) (tkS_idem (Nat.zero_le N)) (by rw [prs_c (tkS_idem (Nat.zero_le N))]; rfl) (by decide)
          · skip
            have hlt : j < N := nI_lt' (by rw [← hx]; exact c31) (by omega)
            refine x_aload_n C 0 dX10_statute_34 rfl rfl ?_
            refine x_get C (T := TX10) (N := 45) (v := .ref (ad 58)) 30 28 hin10 (hF 30 (by decide)) (pf_30 G nR ad _) rfl (by decide) lk79 rfl rfl dX10_statute_35 ?_
            refine x_iload_n C 2 dX10_statute_38 rfl rfl ?_
            refine x_aload_n C 0 dX10_statute_39 rfl rfl ?_
            refine x_get C (T := TX10) (N := 45) (v := .ref (ad 57)) 30 27 hin10 (hF 30 (by decide)) (pf_30 G nR ad _) rfl (by decide) lk75 rfl rfl dX10_statute_40 ?_
            refine x_iload_n C 2 dX10_statute_43 rfl rfl ?_
            refine x_bald C 57 (hF 57 (by decide)) (pf_57 G nR ad _) (nI_in (N := 400) (show j < 400 by omega) (by omega)) (kk := j) (nI_clamp (by omega)) dX10_statute_44 ?_
            refine y_bast C 58 (hF 58 (by decide)) (fun f => (pf_58 G nR ad f)) (nI_in (N := 400) (show j < 400 by omega) (by omega)) (kk := j) (nI_clamp (by omega)) dX10_statute_45 ?_
            refine x_iinc C (L1 := [(2, .int ((nI j) + 1)), (0, .ref (ad 30)), (1, .int x)]) 2 dX10_statute_46 rfl rfl (by decide) rfl ?_
            refine x_goto C (tgt := 29) dX10_statute_49 (by decide) ?_
            refine x_sub [1, 2, 0] (L1 := [(0, .ref (ad 30)), (1, .int x), (2, .int ((nI j) + 1))]) rfl ?_
            rw [← nI_succ]
            exact ih (j + 1) _ (by omega) (by rw [e0, cpS_ne (show (57 : Nat) ≠ 58 by decide) j]; rfl) (by omega)
      refine x_sub [1, 2, 0] (L1 := [(0, .ref (ad 30)), (1, .int x), (2, .int 0)]) rfl ?_
      exact lp29 (N + 1) 0 S (Nat.zero_le _) rfl (by omega)
    · skip
      refine x_bipush C dX10_statute_24 (v := -3) (by decide) ?_
      refine x_iret C hrt9 S ?_ rfl dX10_statute_26
      exact ⟨fun h => (by rw [c9] at h; cases h), fun _ _ => ⟨rfl, rfl⟩, fun _ h => absurd (show t = 10 from nI_inj (ht.symm.trans c21) (by omega) (by decide)) h⟩
  · replace c9 := bI_z c9
    refine x_bipush C dX10_statute_12 (v := -2) (by decide) ?_
    refine x_iret C hrt9 S ?_ rfl dX10_statute_14
    exact ⟨fun _ => ⟨rfl, rfl⟩, fun h => (by rw [c9] at h; cases h), fun h => (by rw [c9] at h; cases h)⟩

