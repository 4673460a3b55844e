/-! the law's loop -/
def MemOk (LL : List Nat) (n t : Nat) : Prop := (∀ j ∈ tf_fix, j ∈ LL) ∧ (∀ i, i < n → 100 + i ∈ LL ∧ 200 + i ∈ LL ∧ 300 + i ∈ LL) ∧ (∀ i, i < t → 400 + i ∈ LL ∧ 500 + i ∈ LL) ∧ ∀ j ∈ LL, Gd n t j
theorem MemOk.fl {G : tf_G} {nR n t nk k d : Nat} {LL : List Nat} {ad : Nat → Nat} {S : tf_M} (h : MemOk LL n t) (I : Iv nR n t nk k d S) : FlOk G nR LL ad S n := ⟨I.2.1.i16, I.1.2.2.1, fun i hi => ⟨fun f => pf_sq G nR ad f (by have := I.1.2.2.1; omega), fun f => pf_sd G nR ad f (by have := I.1.2.2.1; omega), fun f => pf_sc G nR ad f (by have := I.1.2.2.1; omega), (h.2.1 i hi).1, (h.2.1 i hi).2.1, (h.2.1 i hi).2.2⟩, I.2.1.i29⟩
theorem MemOk.cd {G : tf_G} {nR n t nk k d : Nat} {LL : List Nat} {ad : Nat → Nat} {S : tf_M} (h : MemOk LL n t) (I : Iv nR n t nk k d S) : CdOk G nR LL ad S t := ⟨I.2.1.i26, I.1.2.2.2.1, fun i hi => ⟨fun f => pf_st G nR ad f (by have := I.1.2.2.2.1; omega), fun f => pf_sa G nR ad f (by have := I.1.2.2.2.1; omega), (h.2.2.1 i hi).1, (h.2.2.1 i hi).2⟩, I.2.1.i31, fun f => pf_15 G nR ad f, fun f => pf_16 G nR ad f, h.1 15 (by decide), h.1 16 (by decide)⟩
theorem MemOk.sq {LL : List Nat} {n t : Nat} (h : MemOk LL n t) (hn : n < 12) (ht : t ≤ 10) : MemOk (LL ++ [100 + n] ++ [200 + n] ++ [300 + n]) (n + 1) t := by
  have m : ∀ j ∈ LL, j ∈ LL ++ [100 + n] ++ [200 + n] ++ [300 + n] := fun j hj => List.mem_append_left _ (List.mem_append_left _ (List.mem_append_left _ hj))
  refine ⟨fun j hj => m j (h.1 j hj), fun i hi => ?_, fun i hi => ⟨m _ (h.2.2.1 i hi).1, m _ (h.2.2.1 i hi).2⟩, fun j hj => ?_⟩
  · by_cases e : i = n
    · subst e; simp
    · have := h.2.1 i (by omega)
      exact ⟨m _ this.1, m _ this.2.1, m _ this.2.2⟩
  · simp only [List.mem_append, List.mem_singleton] at hj
    unfold Gd
    rcases hj with ((hj | hj) | hj) | hj
    · have := h.2.2.2 j hj; unfold Gd at this; omega
    · omega
    · omega
    · omega
theorem MemOk.st {LL : List Nat} {n t : Nat} (h : MemOk LL n t) (hn : n ≤ 12) (ht : t < 10) : MemOk (LL ++ [400 + t] ++ [500 + t]) n (t + 1) := by
  have m : ∀ j ∈ LL, j ∈ LL ++ [400 + t] ++ [500 + t] := fun j hj => List.mem_append_left _ (List.mem_append_left _ hj)
  refine ⟨fun j hj => m j (h.1 j hj), fun i hi => ⟨m _ (h.2.1 i hi).1, m _ (h.2.1 i hi).2.1, m _ (h.2.1 i hi).2.2⟩, fun i hi => ?_, fun j hj => ?_⟩
  · by_cases e : i = t
    · subst e; simp
    · have := h.2.2.1 i (by omega)
      exact ⟨m _ this.1, m _ this.2⟩
  · simp only [List.mem_append, List.mem_singleton] at hj
    unfold Gd
    rcases hj with (hj | hj) | hj
    · have := h.2.2.2 j hj; unfold Gd at this; omega
    · omega
    · omega
set_option maxHeartbeats 40000000 in
set_option maxRecDepth 100000 in
theorem law_loop {p : Program} {e : Env} {s : State} {m : MethodId} {below : List Frame} {meth : Method} {c : Code} (l : Launch) {b Ls nR : Nat} {xs : Nat → Int32} {G : tf_G} {A : Nat → Prop} (hX : va_X b Ls xs s s.heap) (hbl : b < s.heap.size) (hbA : ¬ A b) (hLs : Ls ≤ 3073) (hAs : ∀ q, A q → s.heap.size ≤ q) (hret : meth.sig.returnType = ret) : ∀ (d9 j n t nk k d cz sz : Nat) (LL : List Nat) (ad : Nat → Nat) (S : tf_M), Ls - (1 + 6 * j) < d9 → 6 * j ≤ Ls → cz ≤ 1000 + 3 * j → sz ≤ 5000 + 28 * j → Iv nR n t nk k d S → MemOk LL n t → Cx p s m #[Value.ref b] meth c cL_law 4 RL wsL_law G A LL ad → XJ p l e room_1 s m #[Value.ref b] below meth c G A LL ad (lw_Z below #[Value.ref b] s) 4 cz sz (pw G nR ad S) 28 [(0, .ref (b)), (1, .ref (ad 0)), (2, .ref (ad 30)), (3, .int (nI (1 + 6 * j)))] [] := by

  intro d9
  induction d9 with
  | zero => intro j n t nk k d cz sz LL ad S h1; omega
  | succ d9 ih =>
    intro j n t nk k d cz sz LL ad S hd9 hj hcz hsz hI hM C
    have hF := hM.1
    have X := hI.2.1
    have hfl : FlOk G nR LL ad S n := hM.fl hI
    have hcd : CdOk G nR LL ad S t := hM.cd hI
    have hR3 : 3 ≤ nR := hI.1.1
    have hR1 : 1 ≤ nR := by omega
    have hR : nR ≤ 12 := hI.1.2.1
    have hn12 : n ≤ 12 := hI.1.2.2.1
    have ht10 : t ≤ 10 := hI.1.2.2.2.1
    have hk4 : nk ≤ 4 := hI.1.2.2.2.2.1
    have hk400 : k ≤ 400 := hI.1.2.2.2.2.2.1
    have hlk : ∀ i, i < nk → isP (S 4 i) (S 1 0) = true := fun i hi => by rw [X.i8, X.i1]; exact X.i11 i hi
    refine x_iload_n C 3 dL_law_28 rfl rfl ?_
    refine x_aload_n C 0 dL_law_29 rfl rfl ?_
    refine x_slen C hX hbl hbA dL_law_30 ?_
    refine x_bipush C dL_law_31 (v := 6) (by decide) ?_
    refine x_isub C dL_law_33 ?_
    refine x_icmp_gt C (tgt := 946) dL_law_34 (by decide) (fun c34 => ?_) (fun c34 => ?_)
    · skip
      refine x_iconst C dL_law_946 (v := 1) (by decide) ?_
      intro H locs ls hP hS hl
      exact va_forget (fun q hq => hAs _ (hS.2.2 q hq)) (W.widen (k := 600000) (n := 7302250) (by show cz ≤ 600000; omega) (by show sz ≤ 7302250; omega) (lw_ret C.1.1 C.1.2.1 hret C.2.1 (hdg := dL_law_947)))
    · skip
      have hin6 : 1 + 6 * j + 6 ≤ Ls := by
        have h9 : ¬ (nI Ls - 6).toInt < (nI (1 + 6 * j)).toInt := fun h => c34 (Int32.lt_iff_toInt_lt.mpr h)
        rw [show (6 : Int32) = nI 6 from rfl, pk_sub_toInt (by omega) (by omega), nI_toInt (by omega)] at h9
        omega
      refine x_aload_n C 0 dL_law_37 rfl rfl ?_
      refine x_iload_n C 3 dL_law_38 rfl rfl ?_
      refine x_sld C hX hbl hbA (kk := (1 + 6 * j)) (nI_in (show 1 + 6 * j < Ls by omega) (by omega)) (nI_clamp (by omega)) dL_law_39 ?_
      refine x_bipush C dL_law_40 (v := 31) (by decide) ?_
      refine x_iand C dL_law_42 ?_
      obtain ⟨v, hv⟩ : ∃ v, v = xs (1 + 6 * j) &&& 31 := ⟨_, rfl⟩
      rw [← hv]
      rcases sw_23 v with rfl | rfl | rfl | rfl | rfl | rfl | rfl | rfl | rfl | rfl | rfl | rfl | rfl | rfl | rfl | rfl | rfl | rfl | rfl | rfl | rfl | rfl | rfl | rfl | h9
      · skip
        refine x_tableIn C dL_law_43 (by decide) (by decide) (off := 109) (tgt := 152) rfl (by decide) ?_
        refine x_aload_n C 1 dL_law_152 rfl rfl ?_
        refine x_aload_n C 0 dL_law_153 rfl rfl ?_
        refine x_iload_n C 3 dL_law_154 rfl rfl ?_
        refine x_iconst C dL_law_155 (v := 1) (by decide) ?_
        refine x_iadd C dL_law_156 ?_
        refine x_top C (v2 := nI (1 + 6 * j + 1)) (by rw [nI_ad (1 + 6 * j) 1]; rfl) ?_
        refine x_sld C hX hbl hbA (kk := (1 + 6 * j + 1)) (nI_in (show 1 + 6 * j + 1 < Ls by omega) (by omega)) (nI_clamp (by omega)) dL_law_157 ?_
        refine x_aload_n C 0 dL_law_158 rfl rfl ?_
        refine x_iload_n C 3 dL_law_159 rfl rfl ?_
        refine x_iconst C dL_law_160 (v := 2) (by decide) ?_
        refine x_iadd C dL_law_161 ?_
        refine x_top C (v2 := nI (1 + 6 * j + 2)) (by rw [nI_ad (1 + 6 * j) 2]; rfl) ?_
        refine x_sld C hX hbl hbA (kk := (1 + 6 * j + 2)) (nI_in (show 1 + 6 * j + 2 < Ls by omega) (by omega)) (nI_clamp (by omega)) dL_law_162 ?_
        refine x_Vi 0 C (k_X9_water l G nR LL ad hF S (xs (1 + 6 * j + 1)) (xs (1 + 6 * j + 2)) X.i1 hR) gL_law_X9_water rfl (by decide +kernel) ⟨(Nat.le_of_ble_eq_true rfl), (Nat.le_of_ble_eq_true rfl)⟩ ⟨(by show cz ≤ 600000; omega), (by show sz ≤ 7302250; omega)⟩ (hF 0 (by decide)) (pf_0 G nR ad _) (T := TX9) (N := 9) rfl (n := 2) rfl (st := []) (Nat.le_of_ble_eq_true rfl) rfl dL_law_163 (fun r1 u hx => ?_)
        have hm : ∀ x, 30 ≤ x → x < 100 → u x = S x := mid_water hI (xs (1 + 6 * j + 1)) (xs (1 + 6 * j + 2)) hx.2
        have z0 : u 30 0 = nI nR := by rw [hm 30 (by decide) (by decide)]; exact X.i2
        have z4 : u 30 4 = nI nk := by rw [hm 30 (by decide) (by decide)]; exact X.i7
        have z5 : u 30 5 = nI n := by rw [hm 30 (by decide) (by decide)]; exact X.i17
        have z29 : u 30 29 = nI k := by rw [hm 30 (by decide) (by decide)]; exact X.i19
        have z33 : u 30 33 = nI t := by rw [hm 30 (by decide) (by decide)]; exact X.i27
        have hst : ∀ i, i < t → ∃ c, c ≤ 16 ∧ u 64 i = nI c := fun i hi => by rw [hm 64 (by decide) (by decide)]; obtain ⟨c, h1, h2, -⟩ := (hI.2.2.2 i hi).tc; exact ⟨c, h1, h2⟩
        have hat : ∀ i, i < n → ∃ r, r < nR ∧ u 47 i = nI r := fun i hi => by rw [hm 47 (by decide) (by decide)]; obtain ⟨r, h1, h2, -⟩ := (hI.2.2.1.1 i hi).qat; exact ⟨r, h1, h2⟩
        refine x_aload_n C 2 dL_law_166 rfl rfl ?_
        refine x_aload_n C 0 dL_law_167 rfl rfl ?_
        refine x_iload_n C 3 dL_law_168 rfl rfl ?_
        refine x_iconst C dL_law_169 (v := 1) (by decide) ?_
        refine x_iadd C dL_law_170 ?_
        refine x_top C (v2 := nI (1 + 6 * j + 1)) (by rw [nI_ad (1 + 6 * j) 1]; rfl) ?_
        refine x_sld C hX hbl hbA (kk := (1 + 6 * j + 1)) (nI_in (show 1 + 6 * j + 1 < Ls by omega) (by omega)) (nI_clamp (by omega)) dL_law_171 ?_
        refine x_aload_n C 0 dL_law_172 rfl rfl ?_
        refine x_iload_n C 3 dL_law_173 rfl rfl ?_
        refine x_iconst C dL_law_174 (v := 2) (by decide) ?_
        refine x_iadd C dL_law_175 ?_
        refine x_top C (v2 := nI (1 + 6 * j + 2)) (by rw [nI_ad (1 + 6 * j) 2]; rfl) ?_
        refine x_sld C hX hbl hbA (kk := (1 + 6 * j + 2)) (nI_in (show 1 + 6 * j + 2 < Ls by omega) (by omega)) (nI_clamp (by omega)) dL_law_176 ?_
        refine x_Vi 30 C (k_X10_water l G nR LL ad hF u (xs (1 + 6 * j + 1)) (xs (1 + 6 * j + 2)) z0 hR) gL_law_X10_water rfl (by decide +kernel) ⟨(Nat.le_of_ble_eq_true rfl), (Nat.le_of_ble_eq_true rfl)⟩ ⟨(by show cz ≤ 600000; omega), (by show sz ≤ 7302250; omega)⟩ (hF 30 (by decide)) (pf_30 G nR ad _) (T := TX10) (N := 45) rfl (n := 2) rfl (st := [.int r1]) (Nat.le_of_ble_eq_true rfl) rfl dL_law_177 (fun r2 w hy => ?_)
        have hsw := sw_water hI (xs (1 + 6 * j + 1)) (xs (1 + 6 * j + 2)) hx hy
        obtain ⟨heq, nk1, k1, d1, hI1⟩ := hsw
        refine x_icmp_eq C (tgt := 940) dL_law_180 (by decide) (fun c180 => ?_) (fun c180 => ?_)
        · skip
          refine x_iinc C (L1 := [(3, .int ((nI (1 + 6 * j)) + 6)), (0, .ref (b)), (1, .ref (ad 0)), (2, .ref (ad 30))]) 3 dL_law_940 rfl rfl (by decide) rfl ?_
          refine x_goto C (tgt := 28) dL_law_943 (by decide) ?_
          have hit : nI (1 + 6 * j) + 6 = nI (1 + 6 * (j + 1)) := by rw [show 1 + 6 * (j + 1) = 1 + 6 * j + 6 by omega, nI_ad (1 + 6 * j) 6]; rfl
          refine x_sub [1, 2, 3, 0] (L1 := [(0, .ref (b)), (1, .ref (ad 0)), (2, .ref (ad 30)), (3, .int ((nI (1 + 6 * j)) + 6))]) rfl ?_
          rw [hit]
          refine x_widen (k := cz + 3) (n := sz + 28) (by show cz ≤ cz + 3; omega) (by show sz ≤ sz + 28; omega) ?_
          exact ih (j + 1) _ _ nk1 k1 d1 (cz + 3) (sz + 28) LL ad w (by omega) (by omega) (by omega) (by omega) hI1 hM C
        · skip
          exact absurd heq c180
      · skip
        refine x_tableIn C dL_law_43 (by decide) (by decide) (off := 142) (tgt := 185) rfl (by decide) ?_
        refine x_aload_n C 1 dL_law_185 rfl rfl ?_
        refine x_aload_n C 0 dL_law_186 rfl rfl ?_
        refine x_iload_n C 3 dL_law_187 rfl rfl ?_
        refine x_iconst C dL_law_188 (v := 1) (by decide) ?_
        refine x_iadd C dL_law_189 ?_
        refine x_top C (v2 := nI (1 + 6 * j + 1)) (by rw [nI_ad (1 + 6 * j) 1]; rfl) ?_
        refine x_sld C hX hbl hbA (kk := (1 + 6 * j + 1)) (nI_in (show 1 + 6 * j + 1 < Ls by omega) (by omega)) (nI_clamp (by omega)) dL_law_190 ?_
        refine x_aload_n C 0 dL_law_191 rfl rfl ?_
        refine x_iload_n C 3 dL_law_192 rfl rfl ?_
        refine x_iconst C dL_law_193 (v := 2) (by decide) ?_
        refine x_iadd C dL_law_194 ?_
        refine x_top C (v2 := nI (1 + 6 * j + 2)) (by rw [nI_ad (1 + 6 * j) 2]; rfl) ?_
        refine x_sld C hX hbl hbA (kk := (1 + 6 * j + 2)) (nI_in (show 1 + 6 * j + 2 < Ls by omega) (by omega)) (nI_clamp (by omega)) dL_law_195 ?_
        refine x_Vi 0 C (k_X9_lock l G nR LL ad hF S (xs (1 + 6 * j + 1)) (xs (1 + 6 * j + 2)) X.i1 hR hR1) gL_law_X9_lock rfl (by decide +kernel) ⟨(Nat.le_of_ble_eq_true rfl), (Nat.le_of_ble_eq_true rfl)⟩ ⟨(by show cz ≤ 600000; omega), (by show sz ≤ 7302250; omega)⟩ (hF 0 (by decide)) (pf_0 G nR ad _) (T := TX9) (N := 9) rfl (n := 2) rfl (st := []) (Nat.le_of_ble_eq_true rfl) rfl dL_law_196 (fun r1 u hx => ?_)
        have hm : ∀ x, 30 ≤ x → x < 100 → u x = S x := mid_lock hI (xs (1 + 6 * j + 1)) (xs (1 + 6 * j + 2)) hx.2
        have z0 : u 30 0 = nI nR := by rw [hm 30 (by decide) (by decide)]; exact X.i2
        have z4 : u 30 4 = nI nk := by rw [hm 30 (by decide) (by decide)]; exact X.i7
        have z5 : u 30 5 = nI n := by rw [hm 30 (by decide) (by decide)]; exact X.i17
        have z29 : u 30 29 = nI k := by rw [hm 30 (by decide) (by decide)]; exact X.i19
        have z33 : u 30 33 = nI t := by rw [hm 30 (by decide) (by decide)]; exact X.i27
        have hst : ∀ i, i < t → ∃ c, c ≤ 16 ∧ u 64 i = nI c := fun i hi => by rw [hm 64 (by decide) (by decide)]; obtain ⟨c, h1, h2, -⟩ := (hI.2.2.2 i hi).tc; exact ⟨c, h1, h2⟩
        have hat : ∀ i, i < n → ∃ r, r < nR ∧ u 47 i = nI r := fun i hi => by rw [hm 47 (by decide) (by decide)]; obtain ⟨r, h1, h2, -⟩ := (hI.2.2.1.1 i hi).qat; exact ⟨r, h1, h2⟩
        refine x_aload_n C 2 dL_law_199 rfl rfl ?_
        refine x_aload_n C 0 dL_law_200 rfl rfl ?_
        refine x_iload_n C 3 dL_law_201 rfl rfl ?_
        refine x_iconst C dL_law_202 (v := 1) (by decide) ?_
        refine x_iadd C dL_law_203 ?_
        refine x_top C (v2 := nI (1 + 6 * j + 1)) (by rw [nI_ad (1 + 6 * j) 1]; rfl) ?_
        refine x_sld C hX hbl hbA (kk := (1 + 6 * j + 1)) (nI_in (show 1 + 6 * j + 1 < Ls by omega) (by omega)) (nI_clamp (by omega)) dL_law_204 ?_
        refine x_aload_n C 0 dL_law_205 rfl rfl ?_
        refine x_iload_n C 3 dL_law_206 rfl rfl ?_
        refine x_iconst C dL_law_207 (v := 2) (by decide) ?_
        refine x_iadd C dL_law_208 ?_
        refine x_top C (v2 := nI (1 + 6 * j + 2)) (by rw [nI_ad (1 + 6 * j) 2]; rfl) ?_
        refine x_sld C hX hbl hbA (kk := (1 + 6 * j + 2)) (nI_in (show 1 + 6 * j + 2 < Ls by omega) (by omega)) (nI_clamp (by omega)) dL_law_209 ?_
        refine x_Vi 30 C (k_X10_lock l G nR LL ad hF u (xs (1 + 6 * j + 1)) (xs (1 + 6 * j + 2)) z0 hR hR3) gL_law_X10_lock rfl (by decide +kernel) ⟨(Nat.le_of_ble_eq_true rfl), (Nat.le_of_ble_eq_true rfl)⟩ ⟨(by show cz ≤ 600000; omega), (by show sz ≤ 7302250; omega)⟩ (hF 30 (by decide)) (pf_30 G nR ad _) (T := TX10) (N := 45) rfl (n := 2) rfl (st := [.int r1]) (Nat.le_of_ble_eq_true rfl) rfl dL_law_210 (fun r2 w hy => ?_)
        have hsw := sw_lock hI (xs (1 + 6 * j + 1)) (xs (1 + 6 * j + 2)) hx hy
        obtain ⟨heq, nk1, k1, d1, hI1⟩ := hsw
        refine x_icmp_eq C (tgt := 940) dL_law_213 (by decide) (fun c213 => ?_) (fun c213 => ?_)
        · skip
          refine x_iinc C (L1 := [(3, .int ((nI (1 + 6 * j)) + 6)), (0, .ref (b)), (1, .ref (ad 0)), (2, .ref (ad 30))]) 3 dL_law_940 rfl rfl (by decide) rfl ?_
          refine x_goto C (tgt := 28) dL_law_943 (by decide) ?_
          have hit : nI (1 + 6 * j) + 6 = nI (1 + 6 * (j + 1)) := by rw [show 1 + 6 * (j + 1) = 1 + 6 * j + 6 by omega, nI_ad (1 + 6 * j) 6]; rfl
          refine x_sub [1, 2, 3, 0] (L1 := [(0, .ref (b)), (1, .ref (ad 0)), (2, .ref (ad 30)), (3, .int ((nI (1 + 6 * j)) + 6))]) rfl ?_
          rw [hit]
          refine x_widen (k := cz + 3) (n := sz + 28) (by show cz ≤ cz + 3; omega) (by show sz ≤ sz + 28; omega) ?_
          exact ih (j + 1) _ _ nk1 k1 d1 (cz + 3) (sz + 28) LL ad w (by omega) (by omega) (by omega) (by omega) hI1 hM C
        · skip
          exact absurd heq c213
      · skip
        refine x_tableIn C dL_law_43 (by decide) (by decide) (off := 175) (tgt := 218) rfl (by decide) ?_
        refine x_aload_n C 1 dL_law_218 rfl rfl ?_
        refine x_aload_n C 0 dL_law_219 rfl rfl ?_
        refine x_iload_n C 3 dL_law_220 rfl rfl ?_
        refine x_iconst C dL_law_221 (v := 1) (by decide) ?_
        refine x_iadd C dL_law_222 ?_
        refine x_top C (v2 := nI (1 + 6 * j + 1)) (by rw [nI_ad (1 + 6 * j) 1]; rfl) ?_
        refine x_sld C hX hbl hbA (kk := (1 + 6 * j + 1)) (nI_in (show 1 + 6 * j + 1 < Ls by omega) (by omega)) (nI_clamp (by omega)) dL_law_223 ?_
        refine x_aload_n C 0 dL_law_224 rfl rfl ?_
        refine x_iload_n C 3 dL_law_225 rfl rfl ?_
        refine x_iconst C dL_law_226 (v := 2) (by decide) ?_
        refine x_iadd C dL_law_227 ?_
        refine x_top C (v2 := nI (1 + 6 * j + 2)) (by rw [nI_ad (1 + 6 * j) 2]; rfl) ?_
        refine x_sld C hX hbl hbA (kk := (1 + 6 * j + 2)) (nI_in (show 1 + 6 * j + 2 < Ls by omega) (by omega)) (nI_clamp (by omega)) dL_law_228 ?_
        refine x_Vi 0 C (k_X9_lake l G nR LL ad hF S (xs (1 + 6 * j + 1)) (xs (1 + 6 * j + 2)) nk X.i6 hk4) gL_law_X9_lake rfl (by decide +kernel) ⟨(Nat.le_of_ble_eq_true rfl), (Nat.le_of_ble_eq_true rfl)⟩ ⟨(by show cz ≤ 600000; omega), (by show sz ≤ 7302250; omega)⟩ (hF 0 (by decide)) (pf_0 G nR ad _) (T := TX9) (N := 9) rfl (n := 2) rfl (st := []) (Nat.le_of_ble_eq_true rfl) rfl dL_law_229 (fun r1 u hx => ?_)
        have hm : ∀ x, 30 ≤ x → x < 100 → u x = S x := mid_lake hI (xs (1 + 6 * j + 1)) (xs (1 + 6 * j + 2)) hx.2
        have z0 : u 30 0 = nI nR := by rw [hm 30 (by decide) (by decide)]; exact X.i2
        have z4 : u 30 4 = nI nk := by rw [hm 30 (by decide) (by decide)]; exact X.i7
        have z5 : u 30 5 = nI n := by rw [hm 30 (by decide) (by decide)]; exact X.i17
        have z29 : u 30 29 = nI k := by rw [hm 30 (by decide) (by decide)]; exact X.i19
        have z33 : u 30 33 = nI t := by rw [hm 30 (by decide) (by decide)]; exact X.i27
        have hst : ∀ i, i < t → ∃ c, c ≤ 16 ∧ u 64 i = nI c := fun i hi => by rw [hm 64 (by decide) (by decide)]; obtain ⟨c, h1, h2, -⟩ := (hI.2.2.2 i hi).tc; exact ⟨c, h1, h2⟩
        have hat : ∀ i, i < n → ∃ r, r < nR ∧ u 47 i = nI r := fun i hi => by rw [hm 47 (by decide) (by decide)]; obtain ⟨r, h1, h2, -⟩ := (hI.2.2.1.1 i hi).qat; exact ⟨r, h1, h2⟩
        refine x_aload_n C 2 dL_law_232 rfl rfl ?_
        refine x_aload_n C 0 dL_law_233 rfl rfl ?_
        refine x_iload_n C 3 dL_law_234 rfl rfl ?_
        refine x_iconst C dL_law_235 (v := 1) (by decide) ?_
        refine x_iadd C dL_law_236 ?_
        refine x_top C (v2 := nI (1 + 6 * j + 1)) (by rw [nI_ad (1 + 6 * j) 1]; rfl) ?_
        refine x_sld C hX hbl hbA (kk := (1 + 6 * j + 1)) (nI_in (show 1 + 6 * j + 1 < Ls by omega) (by omega)) (nI_clamp (by omega)) dL_law_237 ?_
        refine x_aload_n C 0 dL_law_238 rfl rfl ?_
        refine x_iload_n C 3 dL_law_239 rfl rfl ?_
        refine x_iconst C dL_law_240 (v := 2) (by decide) ?_
        refine x_iadd C dL_law_241 ?_
        refine x_top C (v2 := nI (1 + 6 * j + 2)) (by rw [nI_ad (1 + 6 * j) 2]; rfl) ?_
        refine x_sld C hX hbl hbA (kk := (1 + 6 * j + 2)) (nI_in (show 1 + 6 * j + 2 < Ls by omega) (by omega)) (nI_clamp (by omega)) dL_law_242 ?_
        refine x_Vi 30 C (k_X10_lake l G nR LL ad hF u (xs (1 + 6 * j + 1)) (xs (1 + 6 * j + 2)) z0 hR nk z4 hk4) gL_law_X10_lake rfl (by decide +kernel) ⟨(Nat.le_of_ble_eq_true rfl), (Nat.le_of_ble_eq_true rfl)⟩ ⟨(by show cz ≤ 600000; omega), (by show sz ≤ 7302250; omega)⟩ (hF 30 (by decide)) (pf_30 G nR ad _) (T := TX10) (N := 45) rfl (n := 2) rfl (st := [.int r1]) (Nat.le_of_ble_eq_true rfl) rfl dL_law_243 (fun r2 w hy => ?_)
        have hsw := sw_lake hI (xs (1 + 6 * j + 1)) (xs (1 + 6 * j + 2)) hx hy
        obtain ⟨heq, nk1, k1, d1, hI1⟩ := hsw
        refine x_icmp_eq C (tgt := 940) dL_law_246 (by decide) (fun c246 => ?_) (fun c246 => ?_)
        · skip
          refine x_iinc C (L1 := [(3, .int ((nI (1 + 6 * j)) + 6)), (0, .ref (b)), (1, .ref (ad 0)), (2, .ref (ad 30))]) 3 dL_law_940 rfl rfl (by decide) rfl ?_
          refine x_goto C (tgt := 28) dL_law_943 (by decide) ?_
          have hit : nI (1 + 6 * j) + 6 = nI (1 + 6 * (j + 1)) := by rw [show 1 + 6 * (j + 1) = 1 + 6 * j + 6 by omega, nI_ad (1 + 6 * j) 6]; rfl
          refine x_sub [1, 2, 3, 0] (L1 := [(0, .ref (b)), (1, .ref (ad 0)), (2, .ref (ad 30)), (3, .int ((nI (1 + 6 * j)) + 6))]) rfl ?_
          rw [hit]
          refine x_widen (k := cz + 3) (n := sz + 28) (by show cz ≤ cz + 3; omega) (by show sz ≤ sz + 28; omega) ?_
          exact ih (j + 1) _ _ nk1 k1 d1 (cz + 3) (sz + 28) LL ad w (by omega) (by omega) (by omega) (by omega) hI1 hM C
        · skip
          exact absurd heq c246
      · skip
        refine x_tableIn C dL_law_43 (by decide) (by decide) (off := 208) (tgt := 251) rfl (by decide) ?_
        refine x_aload_n C 1 dL_law_251 rfl rfl ?_
        refine x_aload_n C 0 dL_law_252 rfl rfl ?_
        refine x_iload_n C 3 dL_law_253 rfl rfl ?_
        refine x_iconst C dL_law_254 (v := 1) (by decide) ?_
        refine x_iadd C dL_law_255 ?_
        refine x_top C (v2 := nI (1 + 6 * j + 1)) (by rw [nI_ad (1 + 6 * j) 1]; rfl) ?_
        refine x_sld C hX hbl hbA (kk := (1 + 6 * j + 1)) (nI_in (show 1 + 6 * j + 1 < Ls by omega) (by omega)) (nI_clamp (by omega)) dL_law_256 ?_
        refine x_aload_n C 0 dL_law_257 rfl rfl ?_
        refine x_iload_n C 3 dL_law_258 rfl rfl ?_
        refine x_iconst C dL_law_259 (v := 2) (by decide) ?_
        refine x_iadd C dL_law_260 ?_
        refine x_top C (v2 := nI (1 + 6 * j + 2)) (by rw [nI_ad (1 + 6 * j) 2]; rfl) ?_
        refine x_sld C hX hbl hbA (kk := (1 + 6 * j + 2)) (nI_in (show 1 + 6 * j + 2 < Ls by omega) (by omega)) (nI_clamp (by omega)) dL_law_261 ?_
        refine x_Vi 0 C (k_X9_give l G nR LL ad hF S (xs (1 + 6 * j + 1)) (xs (1 + 6 * j + 2)) nk X.i6 hk4) gL_law_X9_give rfl (by decide +kernel) ⟨(Nat.le_of_ble_eq_true rfl), (Nat.le_of_ble_eq_true rfl)⟩ ⟨(by show cz ≤ 600000; omega), (by show sz ≤ 7302250; omega)⟩ (hF 0 (by decide)) (pf_0 G nR ad _) (T := TX9) (N := 9) rfl (n := 2) rfl (st := []) (Nat.le_of_ble_eq_true rfl) rfl dL_law_262 (fun r1 u hx => ?_)
        have hm : ∀ x, 30 ≤ x → x < 100 → u x = S x := mid_give hI (xs (1 + 6 * j + 1)) (xs (1 + 6 * j + 2)) hx.2
        have z0 : u 30 0 = nI nR := by rw [hm 30 (by decide) (by decide)]; exact X.i2
        have z4 : u 30 4 = nI nk := by rw [hm 30 (by decide) (by decide)]; exact X.i7
        have z5 : u 30 5 = nI n := by rw [hm 30 (by decide) (by decide)]; exact X.i17
        have z29 : u 30 29 = nI k := by rw [hm 30 (by decide) (by decide)]; exact X.i19
        have z33 : u 30 33 = nI t := by rw [hm 30 (by decide) (by decide)]; exact X.i27
        have hst : ∀ i, i < t → ∃ c, c ≤ 16 ∧ u 64 i = nI c := fun i hi => by rw [hm 64 (by decide) (by decide)]; obtain ⟨c, h1, h2, -⟩ := (hI.2.2.2 i hi).tc; exact ⟨c, h1, h2⟩
        have hat : ∀ i, i < n → ∃ r, r < nR ∧ u 47 i = nI r := fun i hi => by rw [hm 47 (by decide) (by decide)]; obtain ⟨r, h1, h2, -⟩ := (hI.2.2.1.1 i hi).qat; exact ⟨r, h1, h2⟩
        refine x_aload_n C 2 dL_law_265 rfl rfl ?_
        refine x_aload_n C 0 dL_law_266 rfl rfl ?_
        refine x_iload_n C 3 dL_law_267 rfl rfl ?_
        refine x_iconst C dL_law_268 (v := 1) (by decide) ?_
        refine x_iadd C dL_law_269 ?_
        refine x_top C (v2 := nI (1 + 6 * j + 1)) (by rw [nI_ad (1 + 6 * j) 1]; rfl) ?_
        refine x_sld C hX hbl hbA (kk := (1 + 6 * j + 1)) (nI_in (show 1 + 6 * j + 1 < Ls by omega) (by omega)) (nI_clamp (by omega)) dL_law_270 ?_
        refine x_aload_n C 0 dL_law_271 rfl rfl ?_
        refine x_iload_n C 3 dL_law_272 rfl rfl ?_
        refine x_iconst C dL_law_273 (v := 2) (by decide) ?_
        refine x_iadd C dL_law_274 ?_
        refine x_top C (v2 := nI (1 + 6 * j + 2)) (by rw [nI_ad (1 + 6 * j) 2]; rfl) ?_
        refine x_sld C hX hbl hbA (kk := (1 + 6 * j + 2)) (nI_in (show 1 + 6 * j + 2 < Ls by omega) (by omega)) (nI_clamp (by omega)) dL_law_275 ?_
        refine x_Vi 30 C (k_X10_give l G nR LL ad hF u (xs (1 + 6 * j + 1)) (xs (1 + 6 * j + 2)) nk z4 hk4) gL_law_X10_give rfl (by decide +kernel) ⟨(Nat.le_of_ble_eq_true rfl), (Nat.le_of_ble_eq_true rfl)⟩ ⟨(by show cz ≤ 600000; omega), (by show sz ≤ 7302250; omega)⟩ (hF 30 (by decide)) (pf_30 G nR ad _) (T := TX10) (N := 45) rfl (n := 2) rfl (st := [.int r1]) (Nat.le_of_ble_eq_true rfl) rfl dL_law_276 (fun r2 w hy => ?_)
        have hsw := sw_give hI (xs (1 + 6 * j + 1)) (xs (1 + 6 * j + 2)) hx hy
        obtain ⟨heq, nk1, k1, d1, hI1⟩ := hsw
        refine x_icmp_eq C (tgt := 940) dL_law_279 (by decide) (fun c279 => ?_) (fun c279 => ?_)
        · skip
          refine x_iinc C (L1 := [(3, .int ((nI (1 + 6 * j)) + 6)), (0, .ref (b)), (1, .ref (ad 0)), (2, .ref (ad 30))]) 3 dL_law_940 rfl rfl (by decide) rfl ?_
          refine x_goto C (tgt := 28) dL_law_943 (by decide) ?_
          have hit : nI (1 + 6 * j) + 6 = nI (1 + 6 * (j + 1)) := by rw [show 1 + 6 * (j + 1) = 1 + 6 * j + 6 by omega, nI_ad (1 + 6 * j) 6]; rfl
          refine x_sub [1, 2, 3, 0] (L1 := [(0, .ref (b)), (1, .ref (ad 0)), (2, .ref (ad 30)), (3, .int ((nI (1 + 6 * j)) + 6))]) rfl ?_
          rw [hit]
          refine x_widen (k := cz + 3) (n := sz + 28) (by show cz ≤ cz + 3; omega) (by show sz ≤ sz + 28; omega) ?_
          exact ih (j + 1) _ _ nk1 k1 d1 (cz + 3) (sz + 28) LL ad w (by omega) (by omega) (by omega) (by omega) hI1 hM C
        · skip
          exact absurd heq c279
      · skip
        refine x_tableIn C dL_law_43 (by decide) (by decide) (off := 241) (tgt := 284) rfl (by decide) ?_
        refine x_aload_n C 1 dL_law_284 rfl rfl ?_
        refine x_aload_n C 0 dL_law_285 rfl rfl ?_
        refine x_iload_n C 3 dL_law_286 rfl rfl ?_
        refine x_iconst C dL_law_287 (v := 1) (by decide) ?_
        refine x_iadd C dL_law_288 ?_
        refine x_top C (v2 := nI (1 + 6 * j + 1)) (by rw [nI_ad (1 + 6 * j) 1]; rfl) ?_
        refine x_sld C hX hbl hbA (kk := (1 + 6 * j + 1)) (nI_in (show 1 + 6 * j + 1 < Ls by omega) (by omega)) (nI_clamp (by omega)) dL_law_289 ?_
        refine x_aload_n C 0 dL_law_290 rfl rfl ?_
        refine x_iload_n C 3 dL_law_291 rfl rfl ?_
        refine x_iconst C dL_law_292 (v := 2) (by decide) ?_
        refine x_iadd C dL_law_293 ?_
        refine x_top C (v2 := nI (1 + 6 * j + 2)) (by rw [nI_ad (1 + 6 * j) 2]; rfl) ?_
        refine x_sld C hX hbl hbA (kk := (1 + 6 * j + 2)) (nI_in (show 1 + 6 * j + 2 < Ls by omega) (by omega)) (nI_clamp (by omega)) dL_law_294 ?_
        refine x_Vi 0 C (k_X9_ice l G nR LL ad hF S (xs (1 + 6 * j + 1)) (xs (1 + 6 * j + 2)) ) gL_law_X9_ice rfl (by decide +kernel) ⟨(Nat.le_of_ble_eq_true rfl), (Nat.le_of_ble_eq_true rfl)⟩ ⟨(by show cz ≤ 600000; omega), (by show sz ≤ 7302250; omega)⟩ (hF 0 (by decide)) (pf_0 G nR ad _) (T := TX9) (N := 9) rfl (n := 2) rfl (st := []) (Nat.le_of_ble_eq_true rfl) rfl dL_law_295 (fun r1 u hx => ?_)
        have hm : ∀ x, 30 ≤ x → x < 100 → u x = S x := mid_ice hI (xs (1 + 6 * j + 1)) (xs (1 + 6 * j + 2)) hx.2
        have z0 : u 30 0 = nI nR := by rw [hm 30 (by decide) (by decide)]; exact X.i2
        have z4 : u 30 4 = nI nk := by rw [hm 30 (by decide) (by decide)]; exact X.i7
        have z5 : u 30 5 = nI n := by rw [hm 30 (by decide) (by decide)]; exact X.i17
        have z29 : u 30 29 = nI k := by rw [hm 30 (by decide) (by decide)]; exact X.i19
        have z33 : u 30 33 = nI t := by rw [hm 30 (by decide) (by decide)]; exact X.i27
        have hst : ∀ i, i < t → ∃ c, c ≤ 16 ∧ u 64 i = nI c := fun i hi => by rw [hm 64 (by decide) (by decide)]; obtain ⟨c, h1, h2, -⟩ := (hI.2.2.2 i hi).tc; exact ⟨c, h1, h2⟩
        have hat : ∀ i, i < n → ∃ r, r < nR ∧ u 47 i = nI r := fun i hi => by rw [hm 47 (by decide) (by decide)]; obtain ⟨r, h1, h2, -⟩ := (hI.2.2.1.1 i hi).qat; exact ⟨r, h1, h2⟩
        refine x_aload_n C 2 dL_law_298 rfl rfl ?_
        refine x_aload_n C 0 dL_law_299 rfl rfl ?_
        refine x_iload_n C 3 dL_law_300 rfl rfl ?_
        refine x_iconst C dL_law_301 (v := 1) (by decide) ?_
        refine x_iadd C dL_law_302 ?_
        refine x_top C (v2 := nI (1 + 6 * j + 1)) (by rw [nI_ad (1 + 6 * j) 1]; rfl) ?_
        refine x_sld C hX hbl hbA (kk := (1 + 6 * j + 1)) (nI_in (show 1 + 6 * j + 1 < Ls by omega) (by omega)) (nI_clamp (by omega)) dL_law_303 ?_
        refine x_aload_n C 0 dL_law_304 rfl rfl ?_
        refine x_iload_n C 3 dL_law_305 rfl rfl ?_
        refine x_iconst C dL_law_306 (v := 2) (by decide) ?_
        refine x_iadd C dL_law_307 ?_
        refine x_top C (v2 := nI (1 + 6 * j + 2)) (by rw [nI_ad (1 + 6 * j) 2]; rfl) ?_
        refine x_sld C hX hbl hbA (kk := (1 + 6 * j + 2)) (nI_in (show 1 + 6 * j + 2 < Ls by omega) (by omega)) (nI_clamp (by omega)) dL_law_308 ?_
        refine x_Vi 30 C (k_X10_ice l G nR LL ad hF u (xs (1 + 6 * j + 1)) (xs (1 + 6 * j + 2)) z0 hR) gL_law_X10_ice rfl (by decide +kernel) ⟨(Nat.le_of_ble_eq_true rfl), (Nat.le_of_ble_eq_true rfl)⟩ ⟨(by show cz ≤ 600000; omega), (by show sz ≤ 7302250; omega)⟩ (hF 30 (by decide)) (pf_30 G nR ad _) (T := TX10) (N := 45) rfl (n := 2) rfl (st := [.int r1]) (Nat.le_of_ble_eq_true rfl) rfl dL_law_309 (fun r2 w hy => ?_)
        have hsw := sw_ice hI (xs (1 + 6 * j + 1)) (xs (1 + 6 * j + 2)) hx hy
        obtain ⟨heq, nk1, k1, d1, hI1⟩ := hsw
        refine x_icmp_eq C (tgt := 940) dL_law_312 (by decide) (fun c312 => ?_) (fun c312 => ?_)
        · skip
          refine x_iinc C (L1 := [(3, .int ((nI (1 + 6 * j)) + 6)), (0, .ref (b)), (1, .ref (ad 0)), (2, .ref (ad 30))]) 3 dL_law_940 rfl rfl (by decide) rfl ?_
          refine x_goto C (tgt := 28) dL_law_943 (by decide) ?_
          have hit : nI (1 + 6 * j) + 6 = nI (1 + 6 * (j + 1)) := by rw [show 1 + 6 * (j + 1) = 1 + 6 * j + 6 by omega, nI_ad (1 + 6 * j) 6]; rfl
          refine x_sub [1, 2, 3, 0] (L1 := [(0, .ref (b)), (1, .ref (ad 0)), (2, .ref (ad 30)), (3, .int ((nI (1 + 6 * j)) + 6))]) rfl ?_
          rw [hit]
          refine x_widen (k := cz + 3) (n := sz + 28) (by show cz ≤ cz + 3; omega) (by show sz ≤ sz + 28; omega) ?_
          exact ih (j + 1) _ _ nk1 k1 d1 (cz + 3) (sz + 28) LL ad w (by omega) (by omega) (by omega) (by omega) hI1 hM C
        · skip
          exact absurd heq c312
      · skip
        refine x_tableIn C dL_law_43 (by decide) (by decide) (off := 274) (tgt := 317) rfl (by decide) ?_
        refine x_aload_n C 1 dL_law_317 rfl rfl ?_
        refine x_aload_n C 0 dL_law_318 rfl rfl ?_
        refine x_iload_n C 3 dL_law_319 rfl rfl ?_
        refine x_iconst C dL_law_320 (v := 1) (by decide) ?_
        refine x_iadd C dL_law_321 ?_
        refine x_top C (v2 := nI (1 + 6 * j + 1)) (by rw [nI_ad (1 + 6 * j) 1]; rfl) ?_
        refine x_sld C hX hbl hbA (kk := (1 + 6 * j + 1)) (nI_in (show 1 + 6 * j + 1 < Ls by omega) (by omega)) (nI_clamp (by omega)) dL_law_322 ?_
        refine x_aload_n C 0 dL_law_323 rfl rfl ?_
        refine x_iload_n C 3 dL_law_324 rfl rfl ?_
        refine x_iconst C dL_law_325 (v := 2) (by decide) ?_
        refine x_iadd C dL_law_326 ?_
        refine x_top C (v2 := nI (1 + 6 * j + 2)) (by rw [nI_ad (1 + 6 * j) 2]; rfl) ?_
        refine x_sld C hX hbl hbA (kk := (1 + 6 * j + 2)) (nI_in (show 1 + 6 * j + 2 < Ls by omega) (by omega)) (nI_clamp (by omega)) dL_law_327 ?_
        refine x_aload_n C 0 dL_law_328 rfl rfl ?_
        refine x_iload_n C 3 dL_law_329 rfl rfl ?_
        refine x_iconst C dL_law_330 (v := 3) (by decide) ?_
        refine x_iadd C dL_law_331 ?_
        refine x_top C (v2 := nI (1 + 6 * j + 3)) (by rw [nI_ad (1 + 6 * j) 3]; rfl) ?_
        refine x_sld C hX hbl hbA (kk := (1 + 6 * j + 3)) (nI_in (show 1 + 6 * j + 3 < Ls by omega) (by omega)) (nI_clamp (by omega)) dL_law_332 ?_
        refine x_aload_n C 0 dL_law_333 rfl rfl ?_
        refine x_iload_n C 3 dL_law_334 rfl rfl ?_
        refine x_iconst C dL_law_335 (v := 4) (by decide) ?_
        refine x_iadd C dL_law_336 ?_
        refine x_top C (v2 := nI (1 + 6 * j + 4)) (by rw [nI_ad (1 + 6 * j) 4]; rfl) ?_
        refine x_sld C hX hbl hbA (kk := (1 + 6 * j + 4)) (nI_in (show 1 + 6 * j + 4 < Ls by omega) (by omega)) (nI_clamp (by omega)) dL_law_337 ?_
        refine x_VAi 0 C (k_X9_squadron l G nR LL ad hF S (xs (1 + 6 * j + 1)) (xs (1 + 6 * j + 2)) (xs (1 + 6 * j + 3)) (xs (1 + 6 * j + 4)) n t X.i16 hn12 ht10 hM.2.2.2 X.i30 X.i32 X.i1 hR (if sqG n (xs (1 + 6 * j + 1)) (xs (1 + 6 * j + 2)) (xs (1 + 6 * j + 3)) (xs (1 + 6 * j + 4)) = true then LL ++ [100 + n] ++ [200 + n] ++ [300 + n] else LL) (fun h => if_pos h) (fun h => if_neg (by rw [h]; decide))) gL_law_X9_squadron rfl (by decide +kernel) ⟨(Nat.le_of_ble_eq_true rfl), (Nat.le_of_ble_eq_true rfl)⟩ ⟨(by show cz + 3 ≤ 600000; omega), (by show sz + 28 ≤ 7302250; omega)⟩ (hF 0 (by decide)) (pf_0 G nR ad _) (T := TX9) (N := 9) rfl (n := 4) rfl (st := []) (Nat.le_of_ble_eq_true rfl) rfl dL_law_338 (fun r1 ad1 P1 hpost C => ?_)
        obtain ⟨hA, hf, ht⟩ := hpost
        dsimp only at hA hf ht
        obtain ⟨LL1, hLL1⟩ : ∃ q, q = (if sqG n (xs (1 + 6 * j + 1)) (xs (1 + 6 * j + 2)) (xs (1 + 6 * j + 3)) (xs (1 + 6 * j + 4)) = true then LL ++ [100 + n] ++ [200 + n] ++ [300 + n] else LL) := ⟨_, rfl⟩
        rw [← hLL1] at C ⊢
        have hu : ∃ u, P1 = pw G nR ad1 u ∧ (sqG n (xs (1 + 6 * j + 1)) (xs (1 + 6 * j + 2)) (xs (1 + 6 * j + 3)) (xs (1 + 6 * j + 4)) = false → r1 = -1 ∧ u = S) ∧ (sqG n (xs (1 + 6 * j + 1)) (xs (1 + 6 * j + 2)) (xs (1 + 6 * j + 3)) (xs (1 + 6 * j + 4)) = true → r1 = nI n ∧ u = s2 (s2 (sqNew S n (xs (1 + 6 * j + 1)) (xs (1 + 6 * j + 2)) (xs (1 + 6 * j + 3)) (xs (1 + 6 * j + 4))) 8 n 1) 7 2 (nI (n + 1))) := by
          cases hg : sqG n (xs (1 + 6 * j + 1)) (xs (1 + 6 * j + 2)) (xs (1 + 6 * j + 3)) (xs (1 + 6 * j + 4)) with
          | false => exact ⟨S, (hf hg).2, fun _ => ⟨(hf hg).1, rfl⟩, fun h => by cases h⟩
          | true => exact ⟨_, (ht hg).2, (fun h => by cases h), fun _ => ⟨(ht hg).1, rfl⟩⟩
        obtain ⟨u, rfl, hx⟩ := hu
        have hm : ∀ x, 30 ≤ x → x < 100 → u x = S x := fun x h1 h2 => by
          cases hg : sqG n (xs (1 + 6 * j + 1)) (xs (1 + 6 * j + 2)) (xs (1 + 6 * j + 3)) (xs (1 + 6 * j + 4)) with
          | false => rw [(hx.1 hg).2]
          | true => rw [(hx.2 hg).2, s2_ne (by omega), s2_ne (by omega), sqNew_ne (by omega) (by omega) (by omega)]
        have hM1 : MemOk LL1 (if sqG n (xs (1 + 6 * j + 1)) (xs (1 + 6 * j + 2)) (xs (1 + 6 * j + 3)) (xs (1 + 6 * j + 4)) = true then n + 1 else n) t := by
          rw [hLL1]
          cases hg : sqG n (xs (1 + 6 * j + 1)) (xs (1 + 6 * j + 2)) (xs (1 + 6 * j + 3)) (xs (1 + 6 * j + 4)) with
          | false => exact hM
          | true =>
            have h9 : n < 12 := by
              unfold sqG at hg
              simp only [Bool.and_eq_true, decide_eq_true_eq] at hg
              exact hg.2
            exact hM.sq h9 ht10
        have hF1 := hM1.1
        rw [← hA 0 (by omega) (by omega) (by omega), ← hA 30 (by omega) (by omega) (by omega)]
        have z0 : u 30 0 = nI nR := by rw [hm 30 (by decide) (by decide)]; exact X.i2
        have z4 : u 30 4 = nI nk := by rw [hm 30 (by decide) (by decide)]; exact X.i7
        have z5 : u 30 5 = nI n := by rw [hm 30 (by decide) (by decide)]; exact X.i17
        have z29 : u 30 29 = nI k := by rw [hm 30 (by decide) (by decide)]; exact X.i19
        have z33 : u 30 33 = nI t := by rw [hm 30 (by decide) (by decide)]; exact X.i27
        have hst : ∀ i, i < t → ∃ c, c ≤ 16 ∧ u 64 i = nI c := fun i hi => by rw [hm 64 (by decide) (by decide)]; obtain ⟨c, h1, h2, -⟩ := (hI.2.2.2 i hi).tc; exact ⟨c, h1, h2⟩
        have hat : ∀ i, i < n → ∃ r, r < nR ∧ u 47 i = nI r := fun i hi => by rw [hm 47 (by decide) (by decide)]; obtain ⟨r, h1, h2, -⟩ := (hI.2.2.1.1 i hi).qat; exact ⟨r, h1, h2⟩
        refine x_aload_n C 2 dL_law_341 rfl rfl ?_
        refine x_aload_n C 0 dL_law_342 rfl rfl ?_
        refine x_iload_n C 3 dL_law_343 rfl rfl ?_
        refine x_iconst C dL_law_344 (v := 1) (by decide) ?_
        refine x_iadd C dL_law_345 ?_
        refine x_top C (v2 := nI (1 + 6 * j + 1)) (by rw [nI_ad (1 + 6 * j) 1]; rfl) ?_
        refine x_sld C hX hbl hbA (kk := (1 + 6 * j + 1)) (nI_in (show 1 + 6 * j + 1 < Ls by omega) (by omega)) (nI_clamp (by omega)) dL_law_346 ?_
        refine x_aload_n C 0 dL_law_347 rfl rfl ?_
        refine x_iload_n C 3 dL_law_348 rfl rfl ?_
        refine x_iconst C dL_law_349 (v := 2) (by decide) ?_
        refine x_iadd C dL_law_350 ?_
        refine x_top C (v2 := nI (1 + 6 * j + 2)) (by rw [nI_ad (1 + 6 * j) 2]; rfl) ?_
        refine x_sld C hX hbl hbA (kk := (1 + 6 * j + 2)) (nI_in (show 1 + 6 * j + 2 < Ls by omega) (by omega)) (nI_clamp (by omega)) dL_law_351 ?_
        refine x_aload_n C 0 dL_law_352 rfl rfl ?_
        refine x_iload_n C 3 dL_law_353 rfl rfl ?_
        refine x_iconst C dL_law_354 (v := 3) (by decide) ?_
        refine x_iadd C dL_law_355 ?_
        refine x_top C (v2 := nI (1 + 6 * j + 3)) (by rw [nI_ad (1 + 6 * j) 3]; rfl) ?_
        refine x_sld C hX hbl hbA (kk := (1 + 6 * j + 3)) (nI_in (show 1 + 6 * j + 3 < Ls by omega) (by omega)) (nI_clamp (by omega)) dL_law_356 ?_
        refine x_aload_n C 0 dL_law_357 rfl rfl ?_
        refine x_iload_n C 3 dL_law_358 rfl rfl ?_
        refine x_iconst C dL_law_359 (v := 4) (by decide) ?_
        refine x_iadd C dL_law_360 ?_
        refine x_top C (v2 := nI (1 + 6 * j + 4)) (by rw [nI_ad (1 + 6 * j) 4]; rfl) ?_
        refine x_sld C hX hbl hbA (kk := (1 + 6 * j + 4)) (nI_in (show 1 + 6 * j + 4 < Ls by omega) (by omega)) (nI_clamp (by omega)) dL_law_361 ?_
        refine x_Vi 30 C (k_X10_squadron l G nR LL1 ad1 hF1 u (xs (1 + 6 * j + 1)) (xs (1 + 6 * j + 2)) (xs (1 + 6 * j + 3)) (xs (1 + 6 * j + 4)) n z5 hn12) gL_law_X10_squadron rfl (by decide +kernel) ⟨(Nat.le_of_ble_eq_true rfl), (Nat.le_of_ble_eq_true rfl)⟩ ⟨(by show cz + 3 ≤ 600000; omega), (by show sz + 28 ≤ 7302250; omega)⟩ (hF1 30 (by decide)) (pf_30 G nR ad1 _) (T := TX10) (N := 45) rfl (n := 4) rfl (st := [.int r1]) (Nat.le_of_ble_eq_true rfl) rfl dL_law_362 (fun r2 w hy => ?_)
        obtain ⟨heq, nk1, k1, d1, hI1⟩ := sw_squadron hI hx hy
        refine x_icmp_eq C (tgt := 940) dL_law_365 (by decide) (fun c365 => ?_) (fun c365 => ?_)
        · skip
          refine x_iinc C (L1 := [(3, .int ((nI (1 + 6 * j)) + 6)), (0, .ref (b)), (1, .ref (ad1 0)), (2, .ref (ad1 30))]) 3 dL_law_940 rfl rfl (by decide) rfl ?_
          refine x_goto C (tgt := 28) dL_law_943 (by decide) ?_
          have hit : nI (1 + 6 * j) + 6 = nI (1 + 6 * (j + 1)) := by rw [show 1 + 6 * (j + 1) = 1 + 6 * j + 6 by omega, nI_ad (1 + 6 * j) 6]; rfl
          refine x_sub [1, 2, 3, 0] (L1 := [(0, .ref (b)), (1, .ref (ad1 0)), (2, .ref (ad1 30)), (3, .int ((nI (1 + 6 * j)) + 6))]) rfl ?_
          rw [hit]
          refine x_widen (k := cz + 3) (n := sz + 28) (by show cz + 3 ≤ cz + 3; omega) (by show sz + 28 ≤ sz + 28; omega) ?_
          exact ih (j + 1) _ t nk1 k1 d1 (cz + 3) (sz + 28) LL1 ad1 w (by omega) (by omega) (by omega) (by omega) hI1 hM1 C
        · skip
          exact absurd heq c365
      · skip
        refine x_tableIn C dL_law_43 (by decide) (by decide) (off := 327) (tgt := 370) rfl (by decide) ?_
        refine x_aload_n C 1 dL_law_370 rfl rfl ?_
        refine x_aload_n C 0 dL_law_371 rfl rfl ?_
        refine x_iload_n C 3 dL_law_372 rfl rfl ?_
        refine x_iconst C dL_law_373 (v := 1) (by decide) ?_
        refine x_iadd C dL_law_374 ?_
        refine x_top C (v2 := nI (1 + 6 * j + 1)) (by rw [nI_ad (1 + 6 * j) 1]; rfl) ?_
        refine x_sld C hX hbl hbA (kk := (1 + 6 * j + 1)) (nI_in (show 1 + 6 * j + 1 < Ls by omega) (by omega)) (nI_clamp (by omega)) dL_law_375 ?_
        refine x_aload_n C 0 dL_law_376 rfl rfl ?_
        refine x_iload_n C 3 dL_law_377 rfl rfl ?_
        refine x_iconst C dL_law_378 (v := 2) (by decide) ?_
        refine x_iadd C dL_law_379 ?_
        refine x_top C (v2 := nI (1 + 6 * j + 2)) (by rw [nI_ad (1 + 6 * j) 2]; rfl) ?_
        refine x_sld C hX hbl hbA (kk := (1 + 6 * j + 2)) (nI_in (show 1 + 6 * j + 2 < Ls by omega) (by omega)) (nI_clamp (by omega)) dL_law_380 ?_
        refine x_aload_n C 0 dL_law_381 rfl rfl ?_
        refine x_iload_n C 3 dL_law_382 rfl rfl ?_
        refine x_iconst C dL_law_383 (v := 3) (by decide) ?_
        refine x_iadd C dL_law_384 ?_
        refine x_top C (v2 := nI (1 + 6 * j + 3)) (by rw [nI_ad (1 + 6 * j) 3]; rfl) ?_
        refine x_sld C hX hbl hbA (kk := (1 + 6 * j + 3)) (nI_in (show 1 + 6 * j + 3 < Ls by omega) (by omega)) (nI_clamp (by omega)) dL_law_385 ?_
        refine x_aload_n C 0 dL_law_386 rfl rfl ?_
        refine x_iload_n C 3 dL_law_387 rfl rfl ?_
        refine x_iconst C dL_law_388 (v := 4) (by decide) ?_
        refine x_iadd C dL_law_389 ?_
        refine x_top C (v2 := nI (1 + 6 * j + 4)) (by rw [nI_ad (1 + 6 * j) 4]; rfl) ?_
        refine x_sld C hX hbl hbA (kk := (1 + 6 * j + 4)) (nI_in (show 1 + 6 * j + 4 < Ls by omega) (by omega)) (nI_clamp (by omega)) dL_law_390 ?_
        refine x_aload_n C 0 dL_law_391 rfl rfl ?_
        refine x_iload_n C 3 dL_law_392 rfl rfl ?_
        refine x_iconst C dL_law_393 (v := 5) (by decide) ?_
        refine x_iadd C dL_law_394 ?_
        refine x_top C (v2 := nI (1 + 6 * j + 5)) (by rw [nI_ad (1 + 6 * j) 5]; rfl) ?_
        refine x_sld C hX hbl hbA (kk := (1 + 6 * j + 5)) (nI_in (show 1 + 6 * j + 5 < Ls by omega) (by omega)) (nI_clamp (by omega)) dL_law_395 ?_
        refine x_Vi 0 C (k_X9_feed l G nR LL ad hF S (xs (1 + 6 * j + 1)) (xs (1 + 6 * j + 2)) (xs (1 + 6 * j + 3)) (xs (1 + 6 * j + 4)) (xs (1 + 6 * j + 5)) k X.i18 hk400) gL_law_X9_feed rfl (by decide +kernel) ⟨(Nat.le_of_ble_eq_true rfl), (Nat.le_of_ble_eq_true rfl)⟩ ⟨(by show cz ≤ 600000; omega), (by show sz ≤ 7302250; omega)⟩ (hF 0 (by decide)) (pf_0 G nR ad _) (T := TX9) (N := 9) rfl (n := 5) rfl (st := []) (Nat.le_of_ble_eq_true rfl) rfl dL_law_396 (fun r1 u hx => ?_)
        have hm : ∀ x, 30 ≤ x → x < 100 → u x = S x := fun x h1 _ => mid_feed hx.2 x h1
        have z0 : u 30 0 = nI nR := by rw [hm 30 (by decide) (by decide)]; exact X.i2
        have z4 : u 30 4 = nI nk := by rw [hm 30 (by decide) (by decide)]; exact X.i7
        have z5 : u 30 5 = nI n := by rw [hm 30 (by decide) (by decide)]; exact X.i17
        have z29 : u 30 29 = nI k := by rw [hm 30 (by decide) (by decide)]; exact X.i19
        have z33 : u 30 33 = nI t := by rw [hm 30 (by decide) (by decide)]; exact X.i27
        have hst : ∀ i, i < t → ∃ c, c ≤ 16 ∧ u 64 i = nI c := fun i hi => by rw [hm 64 (by decide) (by decide)]; obtain ⟨c, h1, h2, -⟩ := (hI.2.2.2 i hi).tc; exact ⟨c, h1, h2⟩
        have hat : ∀ i, i < n → ∃ r, r < nR ∧ u 47 i = nI r := fun i hi => by rw [hm 47 (by decide) (by decide)]; obtain ⟨r, h1, h2, -⟩ := (hI.2.2.1.1 i hi).qat; exact ⟨r, h1, h2⟩
        refine x_aload_n C 2 dL_law_399 rfl rfl ?_
        refine x_aload_n C 0 dL_law_400 rfl rfl ?_
        refine x_iload_n C 3 dL_law_401 rfl rfl ?_
        refine x_iconst C dL_law_402 (v := 1) (by decide) ?_
        refine x_iadd C dL_law_403 ?_
        refine x_top C (v2 := nI (1 + 6 * j + 1)) (by rw [nI_ad (1 + 6 * j) 1]; rfl) ?_
        refine x_sld C hX hbl hbA (kk := (1 + 6 * j + 1)) (nI_in (show 1 + 6 * j + 1 < Ls by omega) (by omega)) (nI_clamp (by omega)) dL_law_404 ?_
        refine x_aload_n C 0 dL_law_405 rfl rfl ?_
        refine x_iload_n C 3 dL_law_406 rfl rfl ?_
        refine x_iconst C dL_law_407 (v := 2) (by decide) ?_
        refine x_iadd C dL_law_408 ?_
        refine x_top C (v2 := nI (1 + 6 * j + 2)) (by rw [nI_ad (1 + 6 * j) 2]; rfl) ?_
        refine x_sld C hX hbl hbA (kk := (1 + 6 * j + 2)) (nI_in (show 1 + 6 * j + 2 < Ls by omega) (by omega)) (nI_clamp (by omega)) dL_law_409 ?_
        refine x_aload_n C 0 dL_law_410 rfl rfl ?_
        refine x_iload_n C 3 dL_law_411 rfl rfl ?_
        refine x_iconst C dL_law_412 (v := 3) (by decide) ?_
        refine x_iadd C dL_law_413 ?_
        refine x_top C (v2 := nI (1 + 6 * j + 3)) (by rw [nI_ad (1 + 6 * j) 3]; rfl) ?_
        refine x_sld C hX hbl hbA (kk := (1 + 6 * j + 3)) (nI_in (show 1 + 6 * j + 3 < Ls by omega) (by omega)) (nI_clamp (by omega)) dL_law_414 ?_
        refine x_aload_n C 0 dL_law_415 rfl rfl ?_
        refine x_iload_n C 3 dL_law_416 rfl rfl ?_
        refine x_iconst C dL_law_417 (v := 4) (by decide) ?_
        refine x_iadd C dL_law_418 ?_
        refine x_top C (v2 := nI (1 + 6 * j + 4)) (by rw [nI_ad (1 + 6 * j) 4]; rfl) ?_
        refine x_sld C hX hbl hbA (kk := (1 + 6 * j + 4)) (nI_in (show 1 + 6 * j + 4 < Ls by omega) (by omega)) (nI_clamp (by omega)) dL_law_419 ?_
        refine x_aload_n C 0 dL_law_420 rfl rfl ?_
        refine x_iload_n C 3 dL_law_421 rfl rfl ?_
        refine x_iconst C dL_law_422 (v := 5) (by decide) ?_
        refine x_iadd C dL_law_423 ?_
        refine x_top C (v2 := nI (1 + 6 * j + 5)) (by rw [nI_ad (1 + 6 * j) 5]; rfl) ?_
        refine x_sld C hX hbl hbA (kk := (1 + 6 * j + 5)) (nI_in (show 1 + 6 * j + 5 < Ls by omega) (by omega)) (nI_clamp (by omega)) dL_law_424 ?_
        refine x_Vi 30 C (k_X10_feed l G nR LL ad hF u (xs (1 + 6 * j + 1)) (xs (1 + 6 * j + 2)) (xs (1 + 6 * j + 3)) (xs (1 + 6 * j + 4)) (xs (1 + 6 * j + 5)) k z29 hk400) gL_law_X10_feed rfl (by decide +kernel) ⟨(Nat.le_of_ble_eq_true rfl), (Nat.le_of_ble_eq_true rfl)⟩ ⟨(by show cz ≤ 600000; omega), (by show sz ≤ 7302250; omega)⟩ (hF 30 (by decide)) (pf_30 G nR ad _) (T := TX10) (N := 45) rfl (n := 5) rfl (st := [.int r1]) (Nat.le_of_ble_eq_true rfl) rfl dL_law_425 (fun r2 w hy => ?_)
        have hsw := sw_feed hI hx hy
        obtain ⟨heq, nk1, k1, d1, hI1⟩ := hsw
        refine x_icmp_eq C (tgt := 940) dL_law_428 (by decide) (fun c428 => ?_) (fun c428 => ?_)
        · skip
          refine x_iinc C (L1 := [(3, .int ((nI (1 + 6 * j)) + 6)), (0, .ref (b)), (1, .ref (ad 0)), (2, .ref (ad 30))]) 3 dL_law_940 rfl rfl (by decide) rfl ?_
          refine x_goto C (tgt := 28) dL_law_943 (by decide) ?_
          have hit : nI (1 + 6 * j) + 6 = nI (1 + 6 * (j + 1)) := by rw [show 1 + 6 * (j + 1) = 1 + 6 * j + 6 by omega, nI_ad (1 + 6 * j) 6]; rfl
          refine x_sub [1, 2, 3, 0] (L1 := [(0, .ref (b)), (1, .ref (ad 0)), (2, .ref (ad 30)), (3, .int ((nI (1 + 6 * j)) + 6))]) rfl ?_
          rw [hit]
          refine x_widen (k := cz + 3) (n := sz + 28) (by show cz ≤ cz + 3; omega) (by show sz ≤ sz + 28; omega) ?_
          exact ih (j + 1) _ _ nk1 k1 d1 (cz + 3) (sz + 28) LL ad w (by omega) (by omega) (by omega) (by omega) hI1 hM C
        · skip
          exact absurd heq c428
      · skip
        refine x_tableIn C dL_law_43 (by decide) (by decide) (off := 390) (tgt := 433) rfl (by decide) ?_
        refine x_aload_n C 1 dL_law_433 rfl rfl ?_
        refine x_aload_n C 0 dL_law_434 rfl rfl ?_
        refine x_iload_n C 3 dL_law_435 rfl rfl ?_
        refine x_iconst C dL_law_436 (v := 1) (by decide) ?_
        refine x_iadd C dL_law_437 ?_
        refine x_top C (v2 := nI (1 + 6 * j + 1)) (by rw [nI_ad (1 + 6 * j) 1]; rfl) ?_
        refine x_sld C hX hbl hbA (kk := (1 + 6 * j + 1)) (nI_in (show 1 + 6 * j + 1 < Ls by omega) (by omega)) (nI_clamp (by omega)) dL_law_438 ?_
        refine x_VAi 0 C (k_X9_statute l G nR LL ad hF S (xs (1 + 6 * j + 1)) n t k X.i18 hk400 X.i26 hn12 ht10 hM.2.2.2 X.i30 X.i32 X.i1 hR (if stAcc S nR t (xs (1 + 6 * j + 1)) = true then LL ++ [400 + t] ++ [500 + t] else LL) (fun h => if_pos h) (fun h => if_neg (by rw [h]; decide))) gL_law_X9_statute rfl (by decide +kernel) ⟨(Nat.le_of_ble_eq_true rfl), (Nat.le_of_ble_eq_true rfl)⟩ ⟨(by show cz + 2 ≤ 600000; omega), (by show sz + 19 ≤ 7302250; omega)⟩ (hF 0 (by decide)) (pf_0 G nR ad _) (T := TX9) (N := 9) rfl (n := 1) rfl (st := []) (Nat.le_of_ble_eq_true rfl) rfl dL_law_439 (fun r1 ad1 P1 hpost C => ?_)
        obtain ⟨hA, hf, ht, hok⟩ := hpost
        dsimp only at hA hf ht hok
        obtain ⟨LL1, hLL1⟩ : ∃ q, q = (if stAcc S nR t (xs (1 + 6 * j + 1)) = true then LL ++ [400 + t] ++ [500 + t] else LL) := ⟨_, rfl⟩
        rw [← hLL1] at C ⊢
        have hu : ∃ u, P1 = pw G nR ad1 u ∧ (isW (xs (1 + 6 * j + 1)) 0 (S 10 1) = false → r1 = -2 ∧ u = S) ∧ (isW (xs (1 + 6 * j + 1)) 0 (S 10 1) = true → t = 10 → r1 = -3 ∧ u = S) ∧ (isW (xs (1 + 6 * j + 1)) 0 (S 10 1) = true → ¬ t = 10 → ctP nR S ((xs (1 + 6 * j + 1))).toNatClampNeg t r1 u) := by
          cases hg : isW (xs (1 + 6 * j + 1)) 0 (S 10 1) with
          | false => exact ⟨S, (hf hg).2, fun _ => ⟨(hf hg).1, rfl⟩, (fun h => by cases h), fun h => by cases h⟩
          | true =>
            by_cases h10 : t = 10
            · exact ⟨S, (ht hg h10).2, (fun h => by cases h), fun _ _ => ⟨(ht hg h10).1, rfl⟩, fun _ h => absurd h10 h⟩
            · obtain ⟨o1, o2⟩ := hok hg h10
              by_cases hr : (stRd S nR t ((xs (1 + 6 * j + 1))).toNatClampNeg).1 = -1
              · exact ⟨_, (o2 hr).2, (fun h => by cases h), fun _ h => absurd h h10, fun _ _ => ⟨fun h => absurd hr h, fun _ => ⟨(o2 hr).1, rfl⟩⟩⟩
              · exact ⟨_, (o1 hr).2, (fun h => by cases h), fun _ h => absurd h h10, fun _ _ => ⟨fun _ => ⟨(o1 hr).1, rfl⟩, fun h => absurd h hr⟩⟩
        obtain ⟨u, rfl, hx1, hx2, hx3⟩ := hu
        have hm : ∀ x, 30 ≤ x → x < 100 → u x = S x := fun y h1 h2 => by
          cases hg : isW (xs (1 + 6 * j + 1)) 0 (S 10 1) with
          | false => rw [(hx1 hg).2]
          | true =>
            by_cases h10 : t = 10
            · rw [(hx2 hg h10).2]
            · have o := hx3 hg h10
              by_cases hr : (stRd S nR t ((xs (1 + 6 * j + 1))).toNatClampNeg).1 = -1
              · rw [(o.2 hr).2, s2_ne (by omega), s2_ne (by omega), stGo_ne (by omega) (by omega) (by omega) (by omega) (by omega)]
              · rw [(o.1 hr).2, stGo_ne (by omega) (by omega) (by omega) (by omega) (by omega)]
        have hM1 : MemOk LL1 n (if stAcc S nR t (xs (1 + 6 * j + 1)) = true then t + 1 else t) := by
          rw [hLL1]
          cases hg : stAcc S nR t (xs (1 + 6 * j + 1)) with
          | false => exact hM
          | true =>
            have h9 : t < 10 := by
              unfold stAcc at hg
              simp only [Bool.and_eq_true, Bool.not_eq_true', decide_eq_false_iff_not] at hg
              have := hg.1.2
              omega
            exact hM.st hn12 h9
        have hF1 := hM1.1
        rw [← hA 0 (by omega) (by omega), ← hA 30 (by omega) (by omega)]
        have z0 : u 30 0 = nI nR := by rw [hm 30 (by decide) (by decide)]; exact X.i2
        have z4 : u 30 4 = nI nk := by rw [hm 30 (by decide) (by decide)]; exact X.i7
        have z5 : u 30 5 = nI n := by rw [hm 30 (by decide) (by decide)]; exact X.i17
        have z29 : u 30 29 = nI k := by rw [hm 30 (by decide) (by decide)]; exact X.i19
        have z33 : u 30 33 = nI t := by rw [hm 30 (by decide) (by decide)]; exact X.i27
        have hst : ∀ i, i < t → ∃ c, c ≤ 16 ∧ u 64 i = nI c := fun i hi => by rw [hm 64 (by decide) (by decide)]; obtain ⟨c, h1, h2, -⟩ := (hI.2.2.2 i hi).tc; exact ⟨c, h1, h2⟩
        have hat : ∀ i, i < n → ∃ r, r < nR ∧ u 47 i = nI r := fun i hi => by rw [hm 47 (by decide) (by decide)]; obtain ⟨r, h1, h2, -⟩ := (hI.2.2.1.1 i hi).qat; exact ⟨r, h1, h2⟩
        refine x_aload_n C 2 dL_law_442 rfl rfl ?_
        refine x_aload_n C 0 dL_law_443 rfl rfl ?_
        refine x_iload_n C 3 dL_law_444 rfl rfl ?_
        refine x_iconst C dL_law_445 (v := 1) (by decide) ?_
        refine x_iadd C dL_law_446 ?_
        refine x_top C (v2 := nI (1 + 6 * j + 1)) (by rw [nI_ad (1 + 6 * j) 1]; rfl) ?_
        refine x_sld C hX hbl hbA (kk := (1 + 6 * j + 1)) (nI_in (show 1 + 6 * j + 1 < Ls by omega) (by omega)) (nI_clamp (by omega)) dL_law_447 ?_
        refine x_Vi 30 C (k_X10_statute l G nR LL1 ad1 hF1 u (xs (1 + 6 * j + 1)) k z29 hk400 t z33 ht10) gL_law_X10_statute rfl (by decide +kernel) ⟨(Nat.le_of_ble_eq_true rfl), (Nat.le_of_ble_eq_true rfl)⟩ ⟨(by show cz + 2 ≤ 600000; omega), (by show sz + 19 ≤ 7302250; omega)⟩ (hF1 30 (by decide)) (pf_30 G nR ad1 _) (T := TX10) (N := 45) rfl (n := 1) rfl (st := [.int r1]) (Nat.le_of_ble_eq_true rfl) rfl dL_law_448 (fun r2 w hy => ?_)
        rw [show u 30 29 = S 10 1 from z29.trans X.i18.symm] at hy
        obtain ⟨heq, nk1, k1, d1, hI1⟩ := sw_statute hI (xs (1 + 6 * j + 1)) hx1 hx2 hx3 hy
        refine x_icmp_eq C (tgt := 940) dL_law_451 (by decide) (fun c451 => ?_) (fun c451 => ?_)
        · skip
          refine x_iinc C (L1 := [(3, .int ((nI (1 + 6 * j)) + 6)), (0, .ref (b)), (1, .ref (ad1 0)), (2, .ref (ad1 30))]) 3 dL_law_940 rfl rfl (by decide) rfl ?_
          refine x_goto C (tgt := 28) dL_law_943 (by decide) ?_
          have hit : nI (1 + 6 * j) + 6 = nI (1 + 6 * (j + 1)) := by rw [show 1 + 6 * (j + 1) = 1 + 6 * j + 6 by omega, nI_ad (1 + 6 * j) 6]; rfl
          refine x_sub [1, 2, 3, 0] (L1 := [(0, .ref (b)), (1, .ref (ad1 0)), (2, .ref (ad1 30)), (3, .int ((nI (1 + 6 * j)) + 6))]) rfl ?_
          rw [hit]
          refine x_widen (k := cz + 3) (n := sz + 28) (by show cz + 2 ≤ cz + 3; omega) (by show sz + 19 ≤ sz + 28; omega) ?_
          exact ih (j + 1) n _ nk1 k1 d1 (cz + 3) (sz + 28) LL1 ad1 w (by omega) (by omega) (by omega) (by omega) hI1 hM1 C
        · skip
          exact absurd heq c451
      · skip
        refine x_tableIn C dL_law_43 (by decide) (by decide) (off := 413) (tgt := 456) rfl (by decide) ?_
        refine x_aload_n C 1 dL_law_456 rfl rfl ?_
        refine x_Vi 0 C (k_X9_fault l G nR LL ad hF S  ) gL_law_X9_fault rfl (by decide +kernel) ⟨(Nat.le_of_ble_eq_true rfl), (Nat.le_of_ble_eq_true rfl)⟩ ⟨(by show cz ≤ 600000; omega), (by show sz ≤ 7302250; omega)⟩ (hF 0 (by decide)) (pf_0 G nR ad _) (T := TX9) (N := 9) rfl (n := 0) rfl (st := []) (Nat.le_of_ble_eq_true rfl) rfl dL_law_457 (fun r1 _ hx => ?_)
        have hm : ∀ x, 30 ≤ x → x < 100 → S x = S x := fun _ _ _ => rfl
        have z0 : S 30 0 = nI nR := by rw [hm 30 (by decide) (by decide)]; exact X.i2
        have z4 : S 30 4 = nI nk := by rw [hm 30 (by decide) (by decide)]; exact X.i7
        have z5 : S 30 5 = nI n := by rw [hm 30 (by decide) (by decide)]; exact X.i17
        have z29 : S 30 29 = nI k := by rw [hm 30 (by decide) (by decide)]; exact X.i19
        have z33 : S 30 33 = nI t := by rw [hm 30 (by decide) (by decide)]; exact X.i27
        have hst : ∀ i, i < t → ∃ c, c ≤ 16 ∧ S 64 i = nI c := fun i hi => by rw [hm 64 (by decide) (by decide)]; obtain ⟨c, h1, h2, -⟩ := (hI.2.2.2 i hi).tc; exact ⟨c, h1, h2⟩
        have hat : ∀ i, i < n → ∃ r, r < nR ∧ S 47 i = nI r := fun i hi => by rw [hm 47 (by decide) (by decide)]; obtain ⟨r, h1, h2, -⟩ := (hI.2.2.1.1 i hi).qat; exact ⟨r, h1, h2⟩
        refine x_aload_n C 2 dL_law_460 rfl rfl ?_
        refine x_Vi 30 C (k_X10_fault l G nR LL ad hF S  ) gL_law_X10_fault rfl (by decide +kernel) ⟨(Nat.le_of_ble_eq_true rfl), (Nat.le_of_ble_eq_true rfl)⟩ ⟨(by show cz ≤ 600000; omega), (by show sz ≤ 7302250; omega)⟩ (hF 30 (by decide)) (pf_30 G nR ad _) (T := TX10) (N := 45) rfl (n := 0) rfl (st := [.int r1]) (Nat.le_of_ble_eq_true rfl) rfl dL_law_461 (fun r2 _ hy => ?_)
        have heq : r1 = r2 := hx.trans ((se_fault hI).trans hy.symm)
        refine x_icmp_eq C (tgt := 940) dL_law_464 (by decide) (fun c464 => ?_) (fun c464 => ?_)
        · skip
          refine x_iinc C (L1 := [(3, .int ((nI (1 + 6 * j)) + 6)), (0, .ref (b)), (1, .ref (ad 0)), (2, .ref (ad 30))]) 3 dL_law_940 rfl rfl (by decide) rfl ?_
          refine x_goto C (tgt := 28) dL_law_943 (by decide) ?_
          have hit : nI (1 + 6 * j) + 6 = nI (1 + 6 * (j + 1)) := by rw [show 1 + 6 * (j + 1) = 1 + 6 * j + 6 by omega, nI_ad (1 + 6 * j) 6]; rfl
          refine x_sub [1, 2, 3, 0] (L1 := [(0, .ref (b)), (1, .ref (ad 0)), (2, .ref (ad 30)), (3, .int ((nI (1 + 6 * j)) + 6))]) rfl ?_
          rw [hit]
          refine x_widen (k := cz + 3) (n := sz + 28) (by show cz ≤ cz + 3; omega) (by show sz ≤ sz + 28; omega) ?_
          exact ih (j + 1) n t nk k d (cz + 3) (sz + 28) LL ad S (by omega) (by omega) (by omega) (by omega) hI hM C
        · skip
          exact absurd heq c464
      · skip
        refine x_tableIn C dL_law_43 (by decide) (by decide) (off := 426) (tgt := 469) rfl (by decide) ?_
        refine x_aload_n C 1 dL_law_469 rfl rfl ?_
        refine x_aload_n C 0 dL_law_470 rfl rfl ?_
        refine x_iload_n C 3 dL_law_471 rfl rfl ?_
        refine x_iconst C dL_law_472 (v := 1) (by decide) ?_
        refine x_iadd C dL_law_473 ?_
        refine x_top C (v2 := nI (1 + 6 * j + 1)) (by rw [nI_ad (1 + 6 * j) 1]; rfl) ?_
        refine x_sld C hX hbl hbA (kk := (1 + 6 * j + 1)) (nI_in (show 1 + 6 * j + 1 < Ls by omega) (by omega)) (nI_clamp (by omega)) dL_law_474 ?_
        refine x_aload_n C 0 dL_law_475 rfl rfl ?_
        refine x_iload_n C 3 dL_law_476 rfl rfl ?_
        refine x_iconst C dL_law_477 (v := 2) (by decide) ?_
        refine x_iadd C dL_law_478 ?_
        refine x_top C (v2 := nI (1 + 6 * j + 2)) (by rw [nI_ad (1 + 6 * j) 2]; rfl) ?_
        refine x_sld C hX hbl hbA (kk := (1 + 6 * j + 2)) (nI_in (show 1 + 6 * j + 2 < Ls by omega) (by omega)) (nI_clamp (by omega)) dL_law_479 ?_
        refine x_Vi 0 C (k_X9_law l G nR LL ad hF S (xs (1 + 6 * j + 1)) (xs (1 + 6 * j + 2)) t hcd hR) gL_law_X9_law rfl (by decide +kernel) ⟨(Nat.le_of_ble_eq_true rfl), (Nat.le_of_ble_eq_true rfl)⟩ ⟨(by show cz ≤ 600000; omega), (by show sz ≤ 7302250; omega)⟩ (hF 0 (by decide)) (pf_0 G nR ad _) (T := TX9) (N := 9) rfl (n := 2) rfl (st := []) (Nat.le_of_ble_eq_true rfl) rfl dL_law_480 (fun r1 _ hx => ?_)
        have hm : ∀ x, 30 ≤ x → x < 100 → S x = S x := fun _ _ _ => rfl
        have z0 : S 30 0 = nI nR := by rw [hm 30 (by decide) (by decide)]; exact X.i2
        have z4 : S 30 4 = nI nk := by rw [hm 30 (by decide) (by decide)]; exact X.i7
        have z5 : S 30 5 = nI n := by rw [hm 30 (by decide) (by decide)]; exact X.i17
        have z29 : S 30 29 = nI k := by rw [hm 30 (by decide) (by decide)]; exact X.i19
        have z33 : S 30 33 = nI t := by rw [hm 30 (by decide) (by decide)]; exact X.i27
        have hst : ∀ i, i < t → ∃ c, c ≤ 16 ∧ S 64 i = nI c := fun i hi => by rw [hm 64 (by decide) (by decide)]; obtain ⟨c, h1, h2, -⟩ := (hI.2.2.2 i hi).tc; exact ⟨c, h1, h2⟩
        have hat : ∀ i, i < n → ∃ r, r < nR ∧ S 47 i = nI r := fun i hi => by rw [hm 47 (by decide) (by decide)]; obtain ⟨r, h1, h2, -⟩ := (hI.2.2.1.1 i hi).qat; exact ⟨r, h1, h2⟩
        refine x_aload_n C 2 dL_law_483 rfl rfl ?_
        refine x_aload_n C 0 dL_law_484 rfl rfl ?_
        refine x_iload_n C 3 dL_law_485 rfl rfl ?_
        refine x_iconst C dL_law_486 (v := 1) (by decide) ?_
        refine x_iadd C dL_law_487 ?_
        refine x_top C (v2 := nI (1 + 6 * j + 1)) (by rw [nI_ad (1 + 6 * j) 1]; rfl) ?_
        refine x_sld C hX hbl hbA (kk := (1 + 6 * j + 1)) (nI_in (show 1 + 6 * j + 1 < Ls by omega) (by omega)) (nI_clamp (by omega)) dL_law_488 ?_
        refine x_aload_n C 0 dL_law_489 rfl rfl ?_
        refine x_iload_n C 3 dL_law_490 rfl rfl ?_
        refine x_iconst C dL_law_491 (v := 2) (by decide) ?_
        refine x_iadd C dL_law_492 ?_
        refine x_top C (v2 := nI (1 + 6 * j + 2)) (by rw [nI_ad (1 + 6 * j) 2]; rfl) ?_
        refine x_sld C hX hbl hbA (kk := (1 + 6 * j + 2)) (nI_in (show 1 + 6 * j + 2 < Ls by omega) (by omega)) (nI_clamp (by omega)) dL_law_493 ?_
        refine x_Vi 30 C (k_X10_law l G nR LL ad hF S (xs (1 + 6 * j + 1)) (xs (1 + 6 * j + 2)) z0 hR t z33 ht10 hst) gL_law_X10_law rfl (by decide +kernel) ⟨(Nat.le_of_ble_eq_true rfl), (Nat.le_of_ble_eq_true rfl)⟩ ⟨(by show cz ≤ 600000; omega), (by show sz ≤ 7302250; omega)⟩ (hF 30 (by decide)) (pf_30 G nR ad _) (T := TX10) (N := 45) rfl (n := 2) rfl (st := [.int r1]) (Nat.le_of_ble_eq_true rfl) rfl dL_law_494 (fun r2 _ hy => ?_)
        have heq : r1 = r2 := hx.trans ((se_law hI (xs (1 + 6 * j + 1)) (xs (1 + 6 * j + 2))).trans hy.symm)
        refine x_icmp_eq C (tgt := 940) dL_law_497 (by decide) (fun c497 => ?_) (fun c497 => ?_)
        · skip
          refine x_iinc C (L1 := [(3, .int ((nI (1 + 6 * j)) + 6)), (0, .ref (b)), (1, .ref (ad 0)), (2, .ref (ad 30))]) 3 dL_law_940 rfl rfl (by decide) rfl ?_
          refine x_goto C (tgt := 28) dL_law_943 (by decide) ?_
          have hit : nI (1 + 6 * j) + 6 = nI (1 + 6 * (j + 1)) := by rw [show 1 + 6 * (j + 1) = 1 + 6 * j + 6 by omega, nI_ad (1 + 6 * j) 6]; rfl
          refine x_sub [1, 2, 3, 0] (L1 := [(0, .ref (b)), (1, .ref (ad 0)), (2, .ref (ad 30)), (3, .int ((nI (1 + 6 * j)) + 6))]) rfl ?_
          rw [hit]
          refine x_widen (k := cz + 3) (n := sz + 28) (by show cz ≤ cz + 3; omega) (by show sz ≤ sz + 28; omega) ?_
          exact ih (j + 1) n t nk k d (cz + 3) (sz + 28) LL ad S (by omega) (by omega) (by omega) (by omega) hI hM C
        · skip
          exact absurd heq c497
      · skip
        refine x_tableIn C dL_law_43 (by decide) (by decide) (off := 459) (tgt := 502) rfl (by decide) ?_
        refine x_aload_n C 1 dL_law_502 rfl rfl ?_
        refine x_aload_n C 0 dL_law_503 rfl rfl ?_
        refine x_iload_n C 3 dL_law_504 rfl rfl ?_
        refine x_iconst C dL_law_505 (v := 1) (by decide) ?_
        refine x_iadd C dL_law_506 ?_
        refine x_top C (v2 := nI (1 + 6 * j + 1)) (by rw [nI_ad (1 + 6 * j) 1]; rfl) ?_
        refine x_sld C hX hbl hbA (kk := (1 + 6 * j + 1)) (nI_in (show 1 + 6 * j + 1 < Ls by omega) (by omega)) (nI_clamp (by omega)) dL_law_507 ?_
        refine x_aload_n C 0 dL_law_508 rfl rfl ?_
        refine x_iload_n C 3 dL_law_509 rfl rfl ?_
        refine x_iconst C dL_law_510 (v := 2) (by decide) ?_
        refine x_iadd C dL_law_511 ?_
        refine x_top C (v2 := nI (1 + 6 * j + 2)) (by rw [nI_ad (1 + 6 * j) 2]; rfl) ?_
        refine x_sld C hX hbl hbA (kk := (1 + 6 * j + 2)) (nI_in (show 1 + 6 * j + 2 < Ls by omega) (by omega)) (nI_clamp (by omega)) dL_law_512 ?_
        refine x_if_eq C (tgt := 520) dL_law_513 (by decide) (fun c513 => ?_) (fun c513 => ?_)
        · skip
          refine x_iconst C dL_law_520 (v := 0) (by decide) ?_
          have hb9 : (0 : Int32) = 0 ∨ (0 : Int32) = 1 := by decide
          refine x_Vi 0 C (k_X9_leave l G nR LL ad hF S (xs (1 + 6 * j + 1)) 0 n hfl hR hb9) gL_law_X9_leave rfl (by decide +kernel) ⟨(Nat.le_of_ble_eq_true rfl), (Nat.le_of_ble_eq_true rfl)⟩ ⟨(by show cz ≤ 600000; omega), (by show sz ≤ 7302250; omega)⟩ (hF 0 (by decide)) (pf_0 G nR ad _) (T := TX9) (N := 9) rfl (n := 2) rfl (st := []) (Nat.le_of_ble_eq_true rfl) rfl dL_law_521 (fun r1 u hx => ?_)
          have hm : ∀ x, 30 ≤ x → x < 100 → u x = S x := fun x _ h2 => mid_leave (xs (1 + 6 * j + 1)) 0 hx.2 x h2
          have z0 : u 30 0 = nI nR := by rw [hm 30 (by decide) (by decide)]; exact X.i2
          have z4 : u 30 4 = nI nk := by rw [hm 30 (by decide) (by decide)]; exact X.i7
          have z5 : u 30 5 = nI n := by rw [hm 30 (by decide) (by decide)]; exact X.i17
          have z29 : u 30 29 = nI k := by rw [hm 30 (by decide) (by decide)]; exact X.i19
          have z33 : u 30 33 = nI t := by rw [hm 30 (by decide) (by decide)]; exact X.i27
          have hst : ∀ i, i < t → ∃ c, c ≤ 16 ∧ u 64 i = nI c := fun i hi => by rw [hm 64 (by decide) (by decide)]; obtain ⟨c, h1, h2, -⟩ := (hI.2.2.2 i hi).tc; exact ⟨c, h1, h2⟩
          have hat : ∀ i, i < n → ∃ r, r < nR ∧ u 47 i = nI r := fun i hi => by rw [hm 47 (by decide) (by decide)]; obtain ⟨r, h1, h2, -⟩ := (hI.2.2.1.1 i hi).qat; exact ⟨r, h1, h2⟩
          refine x_aload_n C 2 dL_law_524 rfl rfl ?_
          refine x_aload_n C 0 dL_law_525 rfl rfl ?_
          refine x_iload_n C 3 dL_law_526 rfl rfl ?_
          refine x_iconst C dL_law_527 (v := 1) (by decide) ?_
          refine x_iadd C dL_law_528 ?_
          refine x_top C (v2 := nI (1 + 6 * j + 1)) (by rw [nI_ad (1 + 6 * j) 1]; rfl) ?_
          refine x_sld C hX hbl hbA (kk := (1 + 6 * j + 1)) (nI_in (show 1 + 6 * j + 1 < Ls by omega) (by omega)) (nI_clamp (by omega)) dL_law_529 ?_
          refine x_aload_n C 0 dL_law_530 rfl rfl ?_
          refine x_iload_n C 3 dL_law_531 rfl rfl ?_
          refine x_iconst C dL_law_532 (v := 2) (by decide) ?_
          refine x_iadd C dL_law_533 ?_
          refine x_top C (v2 := nI (1 + 6 * j + 2)) (by rw [nI_ad (1 + 6 * j) 2]; rfl) ?_
          refine x_sld C hX hbl hbA (kk := (1 + 6 * j + 2)) (nI_in (show 1 + 6 * j + 2 < Ls by omega) (by omega)) (nI_clamp (by omega)) dL_law_534 ?_
          refine x_if_eq C (tgt := 542) dL_law_535 (by decide) (fun c535 => ?_) (fun c535 => ?_)
          rotate_left
          · exact absurd c513 c535
          refine x_iconst C dL_law_542 (v := 0) (by decide) ?_
          refine x_Vi 30 C (k_X10_leave l G nR LL ad hF u (xs (1 + 6 * j + 1)) 0 n z5 hn12 hb9) gL_law_X10_leave rfl (by decide +kernel) ⟨(Nat.le_of_ble_eq_true rfl), (Nat.le_of_ble_eq_true rfl)⟩ ⟨(by show cz ≤ 600000; omega), (by show sz ≤ 7302250; omega)⟩ (hF 30 (by decide)) (pf_30 G nR ad _) (T := TX10) (N := 45) rfl (n := 2) rfl (st := [.int r1]) (Nat.le_of_ble_eq_true rfl) rfl dL_law_543 (fun r2 w hy => ?_)
          have hsw := sw_leave hI (xs (1 + 6 * j + 1)) 0 hx hy
          obtain ⟨heq, nk1, k1, d1, hI1⟩ := hsw
          refine x_icmp_eq C (tgt := 940) dL_law_546 (by decide) (fun c546 => ?_) (fun c546 => ?_)
          · skip
            refine x_iinc C (L1 := [(3, .int ((nI (1 + 6 * j)) + 6)), (0, .ref (b)), (1, .ref (ad 0)), (2, .ref (ad 30))]) 3 dL_law_940 rfl rfl (by decide) rfl ?_
            refine x_goto C (tgt := 28) dL_law_943 (by decide) ?_
            have hit : nI (1 + 6 * j) + 6 = nI (1 + 6 * (j + 1)) := by rw [show 1 + 6 * (j + 1) = 1 + 6 * j + 6 by omega, nI_ad (1 + 6 * j) 6]; rfl
            refine x_sub [1, 2, 3, 0] (L1 := [(0, .ref (b)), (1, .ref (ad 0)), (2, .ref (ad 30)), (3, .int ((nI (1 + 6 * j)) + 6))]) rfl ?_
            rw [hit]
            refine x_widen (k := cz + 3) (n := sz + 28) (by show cz ≤ cz + 3; omega) (by show sz ≤ sz + 28; omega) ?_
            exact ih (j + 1) _ _ nk1 k1 d1 (cz + 3) (sz + 28) LL ad w (by omega) (by omega) (by omega) (by omega) hI1 hM C
          · skip
            exact absurd heq c546
        · skip
          refine x_iconst C dL_law_516 (v := 1) (by decide) ?_
          refine x_goto C (tgt := 521) dL_law_517 (by decide) ?_
          have hb9 : (1 : Int32) = 0 ∨ (1 : Int32) = 1 := by decide
          refine x_Vi 0 C (k_X9_leave l G nR LL ad hF S (xs (1 + 6 * j + 1)) 1 n hfl hR hb9) gL_law_X9_leave rfl (by decide +kernel) ⟨(Nat.le_of_ble_eq_true rfl), (Nat.le_of_ble_eq_true rfl)⟩ ⟨(by show cz ≤ 600000; omega), (by show sz ≤ 7302250; omega)⟩ (hF 0 (by decide)) (pf_0 G nR ad _) (T := TX9) (N := 9) rfl (n := 2) rfl (st := []) (Nat.le_of_ble_eq_true rfl) rfl dL_law_521 (fun r1 u hx => ?_)
          have hm : ∀ x, 30 ≤ x → x < 100 → u x = S x := fun x _ h2 => mid_leave (xs (1 + 6 * j + 1)) 1 hx.2 x h2
          have z0 : u 30 0 = nI nR := by rw [hm 30 (by decide) (by decide)]; exact X.i2
          have z4 : u 30 4 = nI nk := by rw [hm 30 (by decide) (by decide)]; exact X.i7
          have z5 : u 30 5 = nI n := by rw [hm 30 (by decide) (by decide)]; exact X.i17
          have z29 : u 30 29 = nI k := by rw [hm 30 (by decide) (by decide)]; exact X.i19
          have z33 : u 30 33 = nI t := by rw [hm 30 (by decide) (by decide)]; exact X.i27
          have hst : ∀ i, i < t → ∃ c, c ≤ 16 ∧ u 64 i = nI c := fun i hi => by rw [hm 64 (by decide) (by decide)]; obtain ⟨c, h1, h2, -⟩ := (hI.2.2.2 i hi).tc; exact ⟨c, h1, h2⟩
          have hat : ∀ i, i < n → ∃ r, r < nR ∧ u 47 i = nI r := fun i hi => by rw [hm 47 (by decide) (by decide)]; obtain ⟨r, h1, h2, -⟩ := (hI.2.2.1.1 i hi).qat; exact ⟨r, h1, h2⟩
          refine x_aload_n C 2 dL_law_524 rfl rfl ?_
          refine x_aload_n C 0 dL_law_525 rfl rfl ?_
          refine x_iload_n C 3 dL_law_526 rfl rfl ?_
          refine x_iconst C dL_law_527 (v := 1) (by decide) ?_
          refine x_iadd C dL_law_528 ?_
          refine x_top C (v2 := nI (1 + 6 * j + 1)) (by rw [nI_ad (1 + 6 * j) 1]; rfl) ?_
          refine x_sld C hX hbl hbA (kk := (1 + 6 * j + 1)) (nI_in (show 1 + 6 * j + 1 < Ls by omega) (by omega)) (nI_clamp (by omega)) dL_law_529 ?_
          refine x_aload_n C 0 dL_law_530 rfl rfl ?_
          refine x_iload_n C 3 dL_law_531 rfl rfl ?_
          refine x_iconst C dL_law_532 (v := 2) (by decide) ?_
          refine x_iadd C dL_law_533 ?_
          refine x_top C (v2 := nI (1 + 6 * j + 2)) (by rw [nI_ad (1 + 6 * j) 2]; rfl) ?_
          refine x_sld C hX hbl hbA (kk := (1 + 6 * j + 2)) (nI_in (show 1 + 6 * j + 2 < Ls by omega) (by omega)) (nI_clamp (by omega)) dL_law_534 ?_
          refine x_if_eq C (tgt := 542) dL_law_535 (by decide) (fun c535 => ?_) (fun c535 => ?_)
          · exact absurd c535 c513
          refine x_iconst C dL_law_538 (v := 1) (by decide) ?_
          refine x_goto C (tgt := 543) dL_law_539 (by decide) ?_
          refine x_Vi 30 C (k_X10_leave l G nR LL ad hF u (xs (1 + 6 * j + 1)) 1 n z5 hn12 hb9) gL_law_X10_leave rfl (by decide +kernel) ⟨(Nat.le_of_ble_eq_true rfl), (Nat.le_of_ble_eq_true rfl)⟩ ⟨(by show cz ≤ 600000; omega), (by show sz ≤ 7302250; omega)⟩ (hF 30 (by decide)) (pf_30 G nR ad _) (T := TX10) (N := 45) rfl (n := 2) rfl (st := [.int r1]) (Nat.le_of_ble_eq_true rfl) rfl dL_law_543 (fun r2 w hy => ?_)
          have hsw := sw_leave hI (xs (1 + 6 * j + 1)) 1 hx hy
          obtain ⟨heq, nk1, k1, d1, hI1⟩ := hsw
          refine x_icmp_eq C (tgt := 940) dL_law_546 (by decide) (fun c546 => ?_) (fun c546 => ?_)
          · skip
            refine x_iinc C (L1 := [(3, .int ((nI (1 + 6 * j)) + 6)), (0, .ref (b)), (1, .ref (ad 0)), (2, .ref (ad 30))]) 3 dL_law_940 rfl rfl (by decide) rfl ?_
            refine x_goto C (tgt := 28) dL_law_943 (by decide) ?_
            have hit : nI (1 + 6 * j) + 6 = nI (1 + 6 * (j + 1)) := by rw [show 1 + 6 * (j + 1) = 1 + 6 * j + 6 by omega, nI_ad (1 + 6 * j) 6]; rfl
            refine x_sub [1, 2, 3, 0] (L1 := [(0, .ref (b)), (1, .ref (ad 0)), (2, .ref (ad 30)), (3, .int ((nI (1 + 6 * j)) + 6))]) rfl ?_
            rw [hit]
            refine x_widen (k := cz + 3) (n := sz + 28) (by show cz ≤ cz + 3; omega) (by show sz ≤ sz + 28; omega) ?_
            exact ih (j + 1) _ _ nk1 k1 d1 (cz + 3) (sz + 28) LL ad w (by omega) (by omega) (by omega) (by omega) hI1 hM C
          · skip
            exact absurd heq c546
      · skip
        refine x_tableIn C dL_law_43 (by decide) (by decide) (off := 508) (tgt := 551) rfl (by decide) ?_
        refine x_aload_n C 1 dL_law_551 rfl rfl ?_
        refine x_aload_n C 0 dL_law_552 rfl rfl ?_
        refine x_iload_n C 3 dL_law_553 rfl rfl ?_
        refine x_iconst C dL_law_554 (v := 1) (by decide) ?_
        refine x_iadd C dL_law_555 ?_
        refine x_top C (v2 := nI (1 + 6 * j + 1)) (by rw [nI_ad (1 + 6 * j) 1]; rfl) ?_
        refine x_sld C hX hbl hbA (kk := (1 + 6 * j + 1)) (nI_in (show 1 + 6 * j + 1 < Ls by omega) (by omega)) (nI_clamp (by omega)) dL_law_556 ?_
        refine x_aload_n C 0 dL_law_557 rfl rfl ?_
        refine x_iload_n C 3 dL_law_558 rfl rfl ?_
        refine x_iconst C dL_law_559 (v := 2) (by decide) ?_
        refine x_iadd C dL_law_560 ?_
        refine x_top C (v2 := nI (1 + 6 * j + 2)) (by rw [nI_ad (1 + 6 * j) 2]; rfl) ?_
        refine x_sld C hX hbl hbA (kk := (1 + 6 * j + 2)) (nI_in (show 1 + 6 * j + 2 < Ls by omega) (by omega)) (nI_clamp (by omega)) dL_law_561 ?_
        refine x_Vi 0 C (k_X9_lose l G nR LL ad hF S (xs (1 + 6 * j + 1)) (xs (1 + 6 * j + 2)) n hfl hR) gL_law_X9_lose rfl (by decide +kernel) ⟨(Nat.le_of_ble_eq_true rfl), (Nat.le_of_ble_eq_true rfl)⟩ ⟨(by show cz ≤ 600000; omega), (by show sz ≤ 7302250; omega)⟩ (hF 0 (by decide)) (pf_0 G nR ad _) (T := TX9) (N := 9) rfl (n := 2) rfl (st := []) (Nat.le_of_ble_eq_true rfl) rfl dL_law_562 (fun r1 u hx => ?_)
        have hm : ∀ x, 30 ≤ x → x < 100 → u x = S x := fun x _ h2 => mid_lose (xs (1 + 6 * j + 1)) (xs (1 + 6 * j + 2)) hx.2 x h2
        have z0 : u 30 0 = nI nR := by rw [hm 30 (by decide) (by decide)]; exact X.i2
        have z4 : u 30 4 = nI nk := by rw [hm 30 (by decide) (by decide)]; exact X.i7
        have z5 : u 30 5 = nI n := by rw [hm 30 (by decide) (by decide)]; exact X.i17
        have z29 : u 30 29 = nI k := by rw [hm 30 (by decide) (by decide)]; exact X.i19
        have z33 : u 30 33 = nI t := by rw [hm 30 (by decide) (by decide)]; exact X.i27
        have hst : ∀ i, i < t → ∃ c, c ≤ 16 ∧ u 64 i = nI c := fun i hi => by rw [hm 64 (by decide) (by decide)]; obtain ⟨c, h1, h2, -⟩ := (hI.2.2.2 i hi).tc; exact ⟨c, h1, h2⟩
        have hat : ∀ i, i < n → ∃ r, r < nR ∧ u 47 i = nI r := fun i hi => by rw [hm 47 (by decide) (by decide)]; obtain ⟨r, h1, h2, -⟩ := (hI.2.2.1.1 i hi).qat; exact ⟨r, h1, h2⟩
        refine x_aload_n C 2 dL_law_565 rfl rfl ?_
        refine x_aload_n C 0 dL_law_566 rfl rfl ?_
        refine x_iload_n C 3 dL_law_567 rfl rfl ?_
        refine x_iconst C dL_law_568 (v := 1) (by decide) ?_
        refine x_iadd C dL_law_569 ?_
        refine x_top C (v2 := nI (1 + 6 * j + 1)) (by rw [nI_ad (1 + 6 * j) 1]; rfl) ?_
        refine x_sld C hX hbl hbA (kk := (1 + 6 * j + 1)) (nI_in (show 1 + 6 * j + 1 < Ls by omega) (by omega)) (nI_clamp (by omega)) dL_law_570 ?_
        refine x_aload_n C 0 dL_law_571 rfl rfl ?_
        refine x_iload_n C 3 dL_law_572 rfl rfl ?_
        refine x_iconst C dL_law_573 (v := 2) (by decide) ?_
        refine x_iadd C dL_law_574 ?_
        refine x_top C (v2 := nI (1 + 6 * j + 2)) (by rw [nI_ad (1 + 6 * j) 2]; rfl) ?_
        refine x_sld C hX hbl hbA (kk := (1 + 6 * j + 2)) (nI_in (show 1 + 6 * j + 2 < Ls by omega) (by omega)) (nI_clamp (by omega)) dL_law_575 ?_
        refine x_Vi 30 C (k_X10_lose l G nR LL ad hF u (xs (1 + 6 * j + 1)) (xs (1 + 6 * j + 2)) n z5 hn12) gL_law_X10_lose rfl (by decide +kernel) ⟨(Nat.le_of_ble_eq_true rfl), (Nat.le_of_ble_eq_true rfl)⟩ ⟨(by show cz ≤ 600000; omega), (by show sz ≤ 7302250; omega)⟩ (hF 30 (by decide)) (pf_30 G nR ad _) (T := TX10) (N := 45) rfl (n := 2) rfl (st := [.int r1]) (Nat.le_of_ble_eq_true rfl) rfl dL_law_576 (fun r2 w hy => ?_)
        have hsw := sw_lose hI (xs (1 + 6 * j + 1)) (xs (1 + 6 * j + 2)) hx hy
        obtain ⟨heq, nk1, k1, d1, hI1⟩ := hsw
        refine x_icmp_eq C (tgt := 940) dL_law_579 (by decide) (fun c579 => ?_) (fun c579 => ?_)
        · skip
          refine x_iinc C (L1 := [(3, .int ((nI (1 + 6 * j)) + 6)), (0, .ref (b)), (1, .ref (ad 0)), (2, .ref (ad 30))]) 3 dL_law_940 rfl rfl (by decide) rfl ?_
          refine x_goto C (tgt := 28) dL_law_943 (by decide) ?_
          have hit : nI (1 + 6 * j) + 6 = nI (1 + 6 * (j + 1)) := by rw [show 1 + 6 * (j + 1) = 1 + 6 * j + 6 by omega, nI_ad (1 + 6 * j) 6]; rfl
          refine x_sub [1, 2, 3, 0] (L1 := [(0, .ref (b)), (1, .ref (ad 0)), (2, .ref (ad 30)), (3, .int ((nI (1 + 6 * j)) + 6))]) rfl ?_
          rw [hit]
          refine x_widen (k := cz + 3) (n := sz + 28) (by show cz ≤ cz + 3; omega) (by show sz ≤ sz + 28; omega) ?_
          exact ih (j + 1) _ _ nk1 k1 d1 (cz + 3) (sz + 28) LL ad w (by omega) (by omega) (by omega) (by omega) hI1 hM C
        · skip
          exact absurd heq c579
      · skip
        refine x_tableIn C dL_law_43 (by decide) (by decide) (off := 541) (tgt := 584) rfl (by decide) ?_
        refine x_aload_n C 1 dL_law_584 rfl rfl ?_
        refine x_Vi 0 C (k_X9_day l G nR LL ad hF S n t nk hfl hcd X.i6 hk4 X.i1 hR hR3 hlk) gL_law_X9_day rfl (by decide +kernel) ⟨(Nat.le_of_ble_eq_true rfl), (Nat.le_of_ble_eq_true rfl)⟩ ⟨(by show cz ≤ 600000; omega), (by show sz ≤ 7302250; omega)⟩ (hF 0 (by decide)) (pf_0 G nR ad _) (T := TX9) (N := 9) rfl (n := 0) rfl (st := []) (Nat.le_of_ble_eq_true rfl) rfl dL_law_585 (fun r1 u hx => ?_)
        have hm : ∀ x, 30 ≤ x → x < 100 → u x = S x := fun x h1 h2 => mid_day hn12 hx.2 x (Or.inl ⟨h1, h2⟩)
        have z0 : u 30 0 = nI nR := by rw [hm 30 (by decide) (by decide)]; exact X.i2
        have z4 : u 30 4 = nI nk := by rw [hm 30 (by decide) (by decide)]; exact X.i7
        have z5 : u 30 5 = nI n := by rw [hm 30 (by decide) (by decide)]; exact X.i17
        have z29 : u 30 29 = nI k := by rw [hm 30 (by decide) (by decide)]; exact X.i19
        have z33 : u 30 33 = nI t := by rw [hm 30 (by decide) (by decide)]; exact X.i27
        have hst : ∀ i, i < t → ∃ c, c ≤ 16 ∧ u 64 i = nI c := fun i hi => by rw [hm 64 (by decide) (by decide)]; obtain ⟨c, h1, h2, -⟩ := (hI.2.2.2 i hi).tc; exact ⟨c, h1, h2⟩
        have hat : ∀ i, i < n → ∃ r, r < nR ∧ u 47 i = nI r := fun i hi => by rw [hm 47 (by decide) (by decide)]; obtain ⟨r, h1, h2, -⟩ := (hI.2.2.1.1 i hi).qat; exact ⟨r, h1, h2⟩
        have hlk2 : ∀ i, i < nk → isP (u 39 i) (nI nR) = true := fun i hi => by rw [hm 39 (by decide) (by decide)]; exact X.i11 i hi
        refine x_aload_n C 2 dL_law_588 rfl rfl ?_
        refine x_Vi 30 C (k_X10_day l G nR LL ad hF u z0 hR hR3 n z5 hn12 t z33 ht10 hst nk z4 hk4 hlk2 hat) gL_law_X10_day rfl (by decide +kernel) ⟨(Nat.le_of_ble_eq_true rfl), (Nat.le_of_ble_eq_true rfl)⟩ ⟨(by show cz ≤ 600000; omega), (by show sz ≤ 7302250; omega)⟩ (hF 30 (by decide)) (pf_30 G nR ad _) (T := TX10) (N := 45) rfl (n := 0) rfl (st := [.int r1]) (Nat.le_of_ble_eq_true rfl) rfl dL_law_589 (fun r2 w hy => ?_)
        have hsw := sw_day hI hx hy
        obtain ⟨heq, n1, t1, nk1, k1, d1, hI1, rfl, rfl⟩ := hsw
        refine x_icmp_eq C (tgt := 940) dL_law_592 (by decide) (fun c592 => ?_) (fun c592 => ?_)
        · skip
          refine x_iinc C (L1 := [(3, .int ((nI (1 + 6 * j)) + 6)), (0, .ref (b)), (1, .ref (ad 0)), (2, .ref (ad 30))]) 3 dL_law_940 rfl rfl (by decide) rfl ?_
          refine x_goto C (tgt := 28) dL_law_943 (by decide) ?_
          have hit : nI (1 + 6 * j) + 6 = nI (1 + 6 * (j + 1)) := by rw [show 1 + 6 * (j + 1) = 1 + 6 * j + 6 by omega, nI_ad (1 + 6 * j) 6]; rfl
          refine x_sub [1, 2, 3, 0] (L1 := [(0, .ref (b)), (1, .ref (ad 0)), (2, .ref (ad 30)), (3, .int ((nI (1 + 6 * j)) + 6))]) rfl ?_
          rw [hit]
          refine x_widen (k := cz + 3) (n := sz + 28) (by show cz ≤ cz + 3; omega) (by show sz ≤ sz + 28; omega) ?_
          exact ih (j + 1) _ _ nk1 k1 d1 (cz + 3) (sz + 28) LL ad w (by omega) (by omega) (by omega) (by omega) hI1 hM C
        · skip
          exact absurd heq c592
      · skip
        refine x_tableIn C dL_law_43 (by decide) (by decide) (off := 554) (tgt := 597) rfl (by decide) ?_
        refine x_aload_n C 1 dL_law_597 rfl rfl ?_
        refine x_aload_n C 0 dL_law_598 rfl rfl ?_
        refine x_iload_n C 3 dL_law_599 rfl rfl ?_
        refine x_iconst C dL_law_600 (v := 1) (by decide) ?_
        refine x_iadd C dL_law_601 ?_
        refine x_top C (v2 := nI (1 + 6 * j + 1)) (by rw [nI_ad (1 + 6 * j) 1]; rfl) ?_
        refine x_sld C hX hbl hbA (kk := (1 + 6 * j + 1)) (nI_in (show 1 + 6 * j + 1 < Ls by omega) (by omega)) (nI_clamp (by omega)) dL_law_602 ?_
        refine x_aload_n C 0 dL_law_603 rfl rfl ?_
        refine x_iload_n C 3 dL_law_604 rfl rfl ?_
        refine x_iconst C dL_law_605 (v := 2) (by decide) ?_
        refine x_iadd C dL_law_606 ?_
        refine x_top C (v2 := nI (1 + 6 * j + 2)) (by rw [nI_ad (1 + 6 * j) 2]; rfl) ?_
        refine x_sld C hX hbl hbA (kk := (1 + 6 * j + 2)) (nI_in (show 1 + 6 * j + 2 < Ls by omega) (by omega)) (nI_clamp (by omega)) dL_law_607 ?_
        refine x_Vi 0 C (k_X9_told l G nR LL ad hF S (xs (1 + 6 * j + 1)) (xs (1 + 6 * j + 2)) n hfl hR) gL_law_X9_told rfl (by decide +kernel) ⟨(Nat.le_of_ble_eq_true rfl), (Nat.le_of_ble_eq_true rfl)⟩ ⟨(by show cz ≤ 600000; omega), (by show sz ≤ 7302250; omega)⟩ (hF 0 (by decide)) (pf_0 G nR ad _) (T := TX9) (N := 9) rfl (n := 2) rfl (st := []) (Nat.le_of_ble_eq_true rfl) rfl dL_law_608 (fun r1 _ hx => ?_)
        have hm : ∀ x, 30 ≤ x → x < 100 → S x = S x := fun _ _ _ => rfl
        have z0 : S 30 0 = nI nR := by rw [hm 30 (by decide) (by decide)]; exact X.i2
        have z4 : S 30 4 = nI nk := by rw [hm 30 (by decide) (by decide)]; exact X.i7
        have z5 : S 30 5 = nI n := by rw [hm 30 (by decide) (by decide)]; exact X.i17
        have z29 : S 30 29 = nI k := by rw [hm 30 (by decide) (by decide)]; exact X.i19
        have z33 : S 30 33 = nI t := by rw [hm 30 (by decide) (by decide)]; exact X.i27
        have hst : ∀ i, i < t → ∃ c, c ≤ 16 ∧ S 64 i = nI c := fun i hi => by rw [hm 64 (by decide) (by decide)]; obtain ⟨c, h1, h2, -⟩ := (hI.2.2.2 i hi).tc; exact ⟨c, h1, h2⟩
        have hat : ∀ i, i < n → ∃ r, r < nR ∧ S 47 i = nI r := fun i hi => by rw [hm 47 (by decide) (by decide)]; obtain ⟨r, h1, h2, -⟩ := (hI.2.2.1.1 i hi).qat; exact ⟨r, h1, h2⟩
        refine x_aload_n C 2 dL_law_611 rfl rfl ?_
        refine x_aload_n C 0 dL_law_612 rfl rfl ?_
        refine x_iload_n C 3 dL_law_613 rfl rfl ?_
        refine x_iconst C dL_law_614 (v := 1) (by decide) ?_
        refine x_iadd C dL_law_615 ?_
        refine x_top C (v2 := nI (1 + 6 * j + 1)) (by rw [nI_ad (1 + 6 * j) 1]; rfl) ?_
        refine x_sld C hX hbl hbA (kk := (1 + 6 * j + 1)) (nI_in (show 1 + 6 * j + 1 < Ls by omega) (by omega)) (nI_clamp (by omega)) dL_law_616 ?_
        refine x_aload_n C 0 dL_law_617 rfl rfl ?_
        refine x_iload_n C 3 dL_law_618 rfl rfl ?_
        refine x_iconst C dL_law_619 (v := 2) (by decide) ?_
        refine x_iadd C dL_law_620 ?_
        refine x_top C (v2 := nI (1 + 6 * j + 2)) (by rw [nI_ad (1 + 6 * j) 2]; rfl) ?_
        refine x_sld C hX hbl hbA (kk := (1 + 6 * j + 2)) (nI_in (show 1 + 6 * j + 2 < Ls by omega) (by omega)) (nI_clamp (by omega)) dL_law_621 ?_
        refine x_Vi 30 C (k_X10_told l G nR LL ad hF S (xs (1 + 6 * j + 1)) (xs (1 + 6 * j + 2)) n z5 hn12 z0 hR hat) gL_law_X10_told rfl (by decide +kernel) ⟨(Nat.le_of_ble_eq_true rfl), (Nat.le_of_ble_eq_true rfl)⟩ ⟨(by show cz ≤ 600000; omega), (by show sz ≤ 7302250; omega)⟩ (hF 30 (by decide)) (pf_30 G nR ad _) (T := TX10) (N := 45) rfl (n := 2) rfl (st := [.int r1]) (Nat.le_of_ble_eq_true rfl) rfl dL_law_622 (fun r2 _ hy => ?_)
        have heq : r1 = r2 := hx.trans ((se_told hI (xs (1 + 6 * j + 1)) (xs (1 + 6 * j + 2))).trans hy.symm)
        refine x_icmp_eq C (tgt := 940) dL_law_625 (by decide) (fun c625 => ?_) (fun c625 => ?_)
        · skip
          refine x_iinc C (L1 := [(3, .int ((nI (1 + 6 * j)) + 6)), (0, .ref (b)), (1, .ref (ad 0)), (2, .ref (ad 30))]) 3 dL_law_940 rfl rfl (by decide) rfl ?_
          refine x_goto C (tgt := 28) dL_law_943 (by decide) ?_
          have hit : nI (1 + 6 * j) + 6 = nI (1 + 6 * (j + 1)) := by rw [show 1 + 6 * (j + 1) = 1 + 6 * j + 6 by omega, nI_ad (1 + 6 * j) 6]; rfl
          refine x_sub [1, 2, 3, 0] (L1 := [(0, .ref (b)), (1, .ref (ad 0)), (2, .ref (ad 30)), (3, .int ((nI (1 + 6 * j)) + 6))]) rfl ?_
          rw [hit]
          refine x_widen (k := cz + 3) (n := sz + 28) (by show cz ≤ cz + 3; omega) (by show sz ≤ sz + 28; omega) ?_
          exact ih (j + 1) n t nk k d (cz + 3) (sz + 28) LL ad S (by omega) (by omega) (by omega) (by omega) hI hM C
        · skip
          exact absurd heq c625
      · skip
        refine x_tableIn C dL_law_43 (by decide) (by decide) (off := 587) (tgt := 630) rfl (by decide) ?_
        refine x_aload_n C 1 dL_law_630 rfl rfl ?_
        refine x_aload_n C 0 dL_law_631 rfl rfl ?_
        refine x_iload_n C 3 dL_law_632 rfl rfl ?_
        refine x_iconst C dL_law_633 (v := 1) (by decide) ?_
        refine x_iadd C dL_law_634 ?_
        refine x_top C (v2 := nI (1 + 6 * j + 1)) (by rw [nI_ad (1 + 6 * j) 1]; rfl) ?_
        refine x_sld C hX hbl hbA (kk := (1 + 6 * j + 1)) (nI_in (show 1 + 6 * j + 1 < Ls by omega) (by omega)) (nI_clamp (by omega)) dL_law_635 ?_
        refine x_aload_n C 0 dL_law_636 rfl rfl ?_
        refine x_iload_n C 3 dL_law_637 rfl rfl ?_
        refine x_iconst C dL_law_638 (v := 2) (by decide) ?_
        refine x_iadd C dL_law_639 ?_
        refine x_top C (v2 := nI (1 + 6 * j + 2)) (by rw [nI_ad (1 + 6 * j) 2]; rfl) ?_
        refine x_sld C hX hbl hbA (kk := (1 + 6 * j + 2)) (nI_in (show 1 + 6 * j + 2 < Ls by omega) (by omega)) (nI_clamp (by omega)) dL_law_640 ?_
        refine x_Vi 0 C (k_X9_judge l G nR LL ad hF S (xs (1 + 6 * j + 1)) (xs (1 + 6 * j + 2)) n hfl hR t hcd hR1) gL_law_X9_judge rfl (by decide +kernel) ⟨(Nat.le_of_ble_eq_true rfl), (Nat.le_of_ble_eq_true rfl)⟩ ⟨(by show cz ≤ 600000; omega), (by show sz ≤ 7302250; omega)⟩ (hF 0 (by decide)) (pf_0 G nR ad _) (T := TX9) (N := 9) rfl (n := 2) rfl (st := []) (Nat.le_of_ble_eq_true rfl) rfl dL_law_641 (fun r1 _ hx => ?_)
        have hm : ∀ x, 30 ≤ x → x < 100 → S x = S x := fun _ _ _ => rfl
        have z0 : S 30 0 = nI nR := by rw [hm 30 (by decide) (by decide)]; exact X.i2
        have z4 : S 30 4 = nI nk := by rw [hm 30 (by decide) (by decide)]; exact X.i7
        have z5 : S 30 5 = nI n := by rw [hm 30 (by decide) (by decide)]; exact X.i17
        have z29 : S 30 29 = nI k := by rw [hm 30 (by decide) (by decide)]; exact X.i19
        have z33 : S 30 33 = nI t := by rw [hm 30 (by decide) (by decide)]; exact X.i27
        have hst : ∀ i, i < t → ∃ c, c ≤ 16 ∧ S 64 i = nI c := fun i hi => by rw [hm 64 (by decide) (by decide)]; obtain ⟨c, h1, h2, -⟩ := (hI.2.2.2 i hi).tc; exact ⟨c, h1, h2⟩
        have hat : ∀ i, i < n → ∃ r, r < nR ∧ S 47 i = nI r := fun i hi => by rw [hm 47 (by decide) (by decide)]; obtain ⟨r, h1, h2, -⟩ := (hI.2.2.1.1 i hi).qat; exact ⟨r, h1, h2⟩
        refine x_aload_n C 2 dL_law_644 rfl rfl ?_
        refine x_aload_n C 0 dL_law_645 rfl rfl ?_
        refine x_iload_n C 3 dL_law_646 rfl rfl ?_
        refine x_iconst C dL_law_647 (v := 1) (by decide) ?_
        refine x_iadd C dL_law_648 ?_
        refine x_top C (v2 := nI (1 + 6 * j + 1)) (by rw [nI_ad (1 + 6 * j) 1]; rfl) ?_
        refine x_sld C hX hbl hbA (kk := (1 + 6 * j + 1)) (nI_in (show 1 + 6 * j + 1 < Ls by omega) (by omega)) (nI_clamp (by omega)) dL_law_649 ?_
        refine x_aload_n C 0 dL_law_650 rfl rfl ?_
        refine x_iload_n C 3 dL_law_651 rfl rfl ?_
        refine x_iconst C dL_law_652 (v := 2) (by decide) ?_
        refine x_iadd C dL_law_653 ?_
        refine x_top C (v2 := nI (1 + 6 * j + 2)) (by rw [nI_ad (1 + 6 * j) 2]; rfl) ?_
        refine x_sld C hX hbl hbA (kk := (1 + 6 * j + 2)) (nI_in (show 1 + 6 * j + 2 < Ls by omega) (by omega)) (nI_clamp (by omega)) dL_law_654 ?_
        refine x_Vi 30 C (k_X10_judge l G nR LL ad hF S (xs (1 + 6 * j + 1)) (xs (1 + 6 * j + 2)) n z5 hn12 z0 hR hR3 t z33 ht10 hst) gL_law_X10_judge rfl (by decide +kernel) ⟨(Nat.le_of_ble_eq_true rfl), (Nat.le_of_ble_eq_true rfl)⟩ ⟨(by show cz ≤ 600000; omega), (by show sz ≤ 7302250; omega)⟩ (hF 30 (by decide)) (pf_30 G nR ad _) (T := TX10) (N := 45) rfl (n := 2) rfl (st := [.int r1]) (Nat.le_of_ble_eq_true rfl) rfl dL_law_655 (fun r2 _ hy => ?_)
        have heq : r1 = r2 := hx.trans ((se_judge hI (xs (1 + 6 * j + 1)) (xs (1 + 6 * j + 2))).trans hy.symm)
        refine x_icmp_eq C (tgt := 940) dL_law_658 (by decide) (fun c658 => ?_) (fun c658 => ?_)
        · skip
          refine x_iinc C (L1 := [(3, .int ((nI (1 + 6 * j)) + 6)), (0, .ref (b)), (1, .ref (ad 0)), (2, .ref (ad 30))]) 3 dL_law_940 rfl rfl (by decide) rfl ?_
          refine x_goto C (tgt := 28) dL_law_943 (by decide) ?_
          have hit : nI (1 + 6 * j) + 6 = nI (1 + 6 * (j + 1)) := by rw [show 1 + 6 * (j + 1) = 1 + 6 * j + 6 by omega, nI_ad (1 + 6 * j) 6]; rfl
          refine x_sub [1, 2, 3, 0] (L1 := [(0, .ref (b)), (1, .ref (ad 0)), (2, .ref (ad 30)), (3, .int ((nI (1 + 6 * j)) + 6))]) rfl ?_
          rw [hit]
          refine x_widen (k := cz + 3) (n := sz + 28) (by show cz ≤ cz + 3; omega) (by show sz ≤ sz + 28; omega) ?_
          exact ih (j + 1) n t nk k d (cz + 3) (sz + 28) LL ad S (by omega) (by omega) (by omega) (by omega) hI hM C
        · skip
          exact absurd heq c658
      · skip
        refine x_tableIn C dL_law_43 (by decide) (by decide) (off := 620) (tgt := 663) rfl (by decide) ?_
        refine x_aload_n C 1 dL_law_663 rfl rfl ?_
        refine x_aload_n C 0 dL_law_664 rfl rfl ?_
        refine x_iload_n C 3 dL_law_665 rfl rfl ?_
        refine x_iconst C dL_law_666 (v := 1) (by decide) ?_
        refine x_iadd C dL_law_667 ?_
        refine x_top C (v2 := nI (1 + 6 * j + 1)) (by rw [nI_ad (1 + 6 * j) 1]; rfl) ?_
        refine x_sld C hX hbl hbA (kk := (1 + 6 * j + 1)) (nI_in (show 1 + 6 * j + 1 < Ls by omega) (by omega)) (nI_clamp (by omega)) dL_law_668 ?_
        refine x_aload_n C 0 dL_law_669 rfl rfl ?_
        refine x_iload_n C 3 dL_law_670 rfl rfl ?_
        refine x_iconst C dL_law_671 (v := 2) (by decide) ?_
        refine x_iadd C dL_law_672 ?_
        refine x_top C (v2 := nI (1 + 6 * j + 2)) (by rw [nI_ad (1 + 6 * j) 2]; rfl) ?_
        refine x_sld C hX hbl hbA (kk := (1 + 6 * j + 2)) (nI_in (show 1 + 6 * j + 2 < Ls by omega) (by omega)) (nI_clamp (by omega)) dL_law_673 ?_
        refine x_Vi 0 C (k_X9_reach l G nR LL ad hF S (xs (1 + 6 * j + 1)) (xs (1 + 6 * j + 2)) X.i1 hR1 n hfl hR) gL_law_X9_reach rfl (by decide +kernel) ⟨(Nat.le_of_ble_eq_true rfl), (Nat.le_of_ble_eq_true rfl)⟩ ⟨(by show cz ≤ 600000; omega), (by show sz ≤ 7302250; omega)⟩ (hF 0 (by decide)) (pf_0 G nR ad _) (T := TX9) (N := 9) rfl (n := 2) rfl (st := []) (Nat.le_of_ble_eq_true rfl) rfl dL_law_674 (fun r1 _ hx => ?_)
        have hm : ∀ x, 30 ≤ x → x < 100 → S x = S x := fun _ _ _ => rfl
        have z0 : S 30 0 = nI nR := by rw [hm 30 (by decide) (by decide)]; exact X.i2
        have z4 : S 30 4 = nI nk := by rw [hm 30 (by decide) (by decide)]; exact X.i7
        have z5 : S 30 5 = nI n := by rw [hm 30 (by decide) (by decide)]; exact X.i17
        have z29 : S 30 29 = nI k := by rw [hm 30 (by decide) (by decide)]; exact X.i19
        have z33 : S 30 33 = nI t := by rw [hm 30 (by decide) (by decide)]; exact X.i27
        have hst : ∀ i, i < t → ∃ c, c ≤ 16 ∧ S 64 i = nI c := fun i hi => by rw [hm 64 (by decide) (by decide)]; obtain ⟨c, h1, h2, -⟩ := (hI.2.2.2 i hi).tc; exact ⟨c, h1, h2⟩
        have hat : ∀ i, i < n → ∃ r, r < nR ∧ S 47 i = nI r := fun i hi => by rw [hm 47 (by decide) (by decide)]; obtain ⟨r, h1, h2, -⟩ := (hI.2.2.1.1 i hi).qat; exact ⟨r, h1, h2⟩
        refine x_aload_n C 2 dL_law_677 rfl rfl ?_
        refine x_aload_n C 0 dL_law_678 rfl rfl ?_
        refine x_iload_n C 3 dL_law_679 rfl rfl ?_
        refine x_iconst C dL_law_680 (v := 1) (by decide) ?_
        refine x_iadd C dL_law_681 ?_
        refine x_top C (v2 := nI (1 + 6 * j + 1)) (by rw [nI_ad (1 + 6 * j) 1]; rfl) ?_
        refine x_sld C hX hbl hbA (kk := (1 + 6 * j + 1)) (nI_in (show 1 + 6 * j + 1 < Ls by omega) (by omega)) (nI_clamp (by omega)) dL_law_682 ?_
        refine x_aload_n C 0 dL_law_683 rfl rfl ?_
        refine x_iload_n C 3 dL_law_684 rfl rfl ?_
        refine x_iconst C dL_law_685 (v := 2) (by decide) ?_
        refine x_iadd C dL_law_686 ?_
        refine x_top C (v2 := nI (1 + 6 * j + 2)) (by rw [nI_ad (1 + 6 * j) 2]; rfl) ?_
        refine x_sld C hX hbl hbA (kk := (1 + 6 * j + 2)) (nI_in (show 1 + 6 * j + 2 < Ls by omega) (by omega)) (nI_clamp (by omega)) dL_law_687 ?_
        refine x_Vi 30 C (k_X10_reach l G nR LL ad hF S (xs (1 + 6 * j + 1)) (xs (1 + 6 * j + 2)) z0 hR hR3 n z5 hn12) gL_law_X10_reach rfl (by decide +kernel) ⟨(Nat.le_of_ble_eq_true rfl), (Nat.le_of_ble_eq_true rfl)⟩ ⟨(by show cz ≤ 600000; omega), (by show sz ≤ 7302250; omega)⟩ (hF 30 (by decide)) (pf_30 G nR ad _) (T := TX10) (N := 45) rfl (n := 2) rfl (st := [.int r1]) (Nat.le_of_ble_eq_true rfl) rfl dL_law_688 (fun r2 _ hy => ?_)
        have heq : r1 = r2 := hx.trans ((se_reach hI (xs (1 + 6 * j + 1)) (xs (1 + 6 * j + 2))).trans hy.symm)
        refine x_icmp_eq C (tgt := 940) dL_law_691 (by decide) (fun c691 => ?_) (fun c691 => ?_)
        · skip
          refine x_iinc C (L1 := [(3, .int ((nI (1 + 6 * j)) + 6)), (0, .ref (b)), (1, .ref (ad 0)), (2, .ref (ad 30))]) 3 dL_law_940 rfl rfl (by decide) rfl ?_
          refine x_goto C (tgt := 28) dL_law_943 (by decide) ?_
          have hit : nI (1 + 6 * j) + 6 = nI (1 + 6 * (j + 1)) := by rw [show 1 + 6 * (j + 1) = 1 + 6 * j + 6 by omega, nI_ad (1 + 6 * j) 6]; rfl
          refine x_sub [1, 2, 3, 0] (L1 := [(0, .ref (b)), (1, .ref (ad 0)), (2, .ref (ad 30)), (3, .int ((nI (1 + 6 * j)) + 6))]) rfl ?_
          rw [hit]
          refine x_widen (k := cz + 3) (n := sz + 28) (by show cz ≤ cz + 3; omega) (by show sz ≤ sz + 28; omega) ?_
          exact ih (j + 1) n t nk k d (cz + 3) (sz + 28) LL ad S (by omega) (by omega) (by omega) (by omega) hI hM C
        · skip
          exact absurd heq c691
      · skip
        refine x_tableIn C dL_law_43 (by decide) (by decide) (off := 653) (tgt := 696) rfl (by decide) ?_
        refine x_aload_n C 1 dL_law_696 rfl rfl ?_
        refine x_aload_n C 0 dL_law_697 rfl rfl ?_
        refine x_iload_n C 3 dL_law_698 rfl rfl ?_
        refine x_iconst C dL_law_699 (v := 1) (by decide) ?_
        refine x_iadd C dL_law_700 ?_
        refine x_top C (v2 := nI (1 + 6 * j + 1)) (by rw [nI_ad (1 + 6 * j) 1]; rfl) ?_
        refine x_sld C hX hbl hbA (kk := (1 + 6 * j + 1)) (nI_in (show 1 + 6 * j + 1 < Ls by omega) (by omega)) (nI_clamp (by omega)) dL_law_701 ?_
        refine x_Vi 0 C (k_X9_store l G nR LL ad hF S (xs (1 + 6 * j + 1)) nk X.i6 hk4) gL_law_X9_store rfl (by decide +kernel) ⟨(Nat.le_of_ble_eq_true rfl), (Nat.le_of_ble_eq_true rfl)⟩ ⟨(by show cz ≤ 600000; omega), (by show sz ≤ 7302250; omega)⟩ (hF 0 (by decide)) (pf_0 G nR ad _) (T := TX9) (N := 9) rfl (n := 1) rfl (st := []) (Nat.le_of_ble_eq_true rfl) rfl dL_law_702 (fun r1 _ hx => ?_)
        have hm : ∀ x, 30 ≤ x → x < 100 → S x = S x := fun _ _ _ => rfl
        have z0 : S 30 0 = nI nR := by rw [hm 30 (by decide) (by decide)]; exact X.i2
        have z4 : S 30 4 = nI nk := by rw [hm 30 (by decide) (by decide)]; exact X.i7
        have z5 : S 30 5 = nI n := by rw [hm 30 (by decide) (by decide)]; exact X.i17
        have z29 : S 30 29 = nI k := by rw [hm 30 (by decide) (by decide)]; exact X.i19
        have z33 : S 30 33 = nI t := by rw [hm 30 (by decide) (by decide)]; exact X.i27
        have hst : ∀ i, i < t → ∃ c, c ≤ 16 ∧ S 64 i = nI c := fun i hi => by rw [hm 64 (by decide) (by decide)]; obtain ⟨c, h1, h2, -⟩ := (hI.2.2.2 i hi).tc; exact ⟨c, h1, h2⟩
        have hat : ∀ i, i < n → ∃ r, r < nR ∧ S 47 i = nI r := fun i hi => by rw [hm 47 (by decide) (by decide)]; obtain ⟨r, h1, h2, -⟩ := (hI.2.2.1.1 i hi).qat; exact ⟨r, h1, h2⟩
        refine x_aload_n C 2 dL_law_705 rfl rfl ?_
        refine x_aload_n C 0 dL_law_706 rfl rfl ?_
        refine x_iload_n C 3 dL_law_707 rfl rfl ?_
        refine x_iconst C dL_law_708 (v := 1) (by decide) ?_
        refine x_iadd C dL_law_709 ?_
        refine x_top C (v2 := nI (1 + 6 * j + 1)) (by rw [nI_ad (1 + 6 * j) 1]; rfl) ?_
        refine x_sld C hX hbl hbA (kk := (1 + 6 * j + 1)) (nI_in (show 1 + 6 * j + 1 < Ls by omega) (by omega)) (nI_clamp (by omega)) dL_law_710 ?_
        refine x_Vi 30 C (k_X10_store l G nR LL ad hF S (xs (1 + 6 * j + 1)) nk z4 hk4) gL_law_X10_store rfl (by decide +kernel) ⟨(Nat.le_of_ble_eq_true rfl), (Nat.le_of_ble_eq_true rfl)⟩ ⟨(by show cz ≤ 600000; omega), (by show sz ≤ 7302250; omega)⟩ (hF 30 (by decide)) (pf_30 G nR ad _) (T := TX10) (N := 45) rfl (n := 1) rfl (st := [.int r1]) (Nat.le_of_ble_eq_true rfl) rfl dL_law_711 (fun r2 _ hy => ?_)
        have heq : r1 = r2 := hx.trans ((se_store hI (xs (1 + 6 * j + 1))).trans hy.symm)
        refine x_icmp_eq C (tgt := 940) dL_law_714 (by decide) (fun c714 => ?_) (fun c714 => ?_)
        · skip
          refine x_iinc C (L1 := [(3, .int ((nI (1 + 6 * j)) + 6)), (0, .ref (b)), (1, .ref (ad 0)), (2, .ref (ad 30))]) 3 dL_law_940 rfl rfl (by decide) rfl ?_
          refine x_goto C (tgt := 28) dL_law_943 (by decide) ?_
          have hit : nI (1 + 6 * j) + 6 = nI (1 + 6 * (j + 1)) := by rw [show 1 + 6 * (j + 1) = 1 + 6 * j + 6 by omega, nI_ad (1 + 6 * j) 6]; rfl
          refine x_sub [1, 2, 3, 0] (L1 := [(0, .ref (b)), (1, .ref (ad 0)), (2, .ref (ad 30)), (3, .int ((nI (1 + 6 * j)) + 6))]) rfl ?_
          rw [hit]
          refine x_widen (k := cz + 3) (n := sz + 28) (by show cz ≤ cz + 3; omega) (by show sz ≤ sz + 28; omega) ?_
          exact ih (j + 1) n t nk k d (cz + 3) (sz + 28) LL ad S (by omega) (by omega) (by omega) (by omega) hI hM C
        · skip
          exact absurd heq c714
      · skip
        refine x_tableIn C dL_law_43 (by decide) (by decide) (off := 676) (tgt := 719) rfl (by decide) ?_
        refine x_aload_n C 1 dL_law_719 rfl rfl ?_
        refine x_aload_n C 0 dL_law_720 rfl rfl ?_
        refine x_iload_n C 3 dL_law_721 rfl rfl ?_
        refine x_iconst C dL_law_722 (v := 1) (by decide) ?_
        refine x_iadd C dL_law_723 ?_
        refine x_top C (v2 := nI (1 + 6 * j + 1)) (by rw [nI_ad (1 + 6 * j) 1]; rfl) ?_
        refine x_sld C hX hbl hbA (kk := (1 + 6 * j + 1)) (nI_in (show 1 + 6 * j + 1 < Ls by omega) (by omega)) (nI_clamp (by omega)) dL_law_724 ?_
        refine x_aload_n C 0 dL_law_725 rfl rfl ?_
        refine x_iload_n C 3 dL_law_726 rfl rfl ?_
        refine x_iconst C dL_law_727 (v := 2) (by decide) ?_
        refine x_iadd C dL_law_728 ?_
        refine x_top C (v2 := nI (1 + 6 * j + 2)) (by rw [nI_ad (1 + 6 * j) 2]; rfl) ?_
        refine x_sld C hX hbl hbA (kk := (1 + 6 * j + 2)) (nI_in (show 1 + 6 * j + 2 < Ls by omega) (by omega)) (nI_clamp (by omega)) dL_law_729 ?_
        refine x_Vi 0 C (k_X9_allot l G nR LL ad hF S (xs (1 + 6 * j + 1)) (xs (1 + 6 * j + 2)) ) gL_law_X9_allot rfl (by decide +kernel) ⟨(Nat.le_of_ble_eq_true rfl), (Nat.le_of_ble_eq_true rfl)⟩ ⟨(by show cz ≤ 600000; omega), (by show sz ≤ 7302250; omega)⟩ (hF 0 (by decide)) (pf_0 G nR ad _) (T := TX9) (N := 9) rfl (n := 2) rfl (st := []) (Nat.le_of_ble_eq_true rfl) rfl dL_law_730 (fun r1 u hx => ?_)
        have hm : ∀ x, 30 ≤ x → x < 100 → u x = S x := mid_allot hI (xs (1 + 6 * j + 1)) (xs (1 + 6 * j + 2)) hx.2
        have z0 : u 30 0 = nI nR := by rw [hm 30 (by decide) (by decide)]; exact X.i2
        have z4 : u 30 4 = nI nk := by rw [hm 30 (by decide) (by decide)]; exact X.i7
        have z5 : u 30 5 = nI n := by rw [hm 30 (by decide) (by decide)]; exact X.i17
        have z29 : u 30 29 = nI k := by rw [hm 30 (by decide) (by decide)]; exact X.i19
        have z33 : u 30 33 = nI t := by rw [hm 30 (by decide) (by decide)]; exact X.i27
        have hst : ∀ i, i < t → ∃ c, c ≤ 16 ∧ u 64 i = nI c := fun i hi => by rw [hm 64 (by decide) (by decide)]; obtain ⟨c, h1, h2, -⟩ := (hI.2.2.2 i hi).tc; exact ⟨c, h1, h2⟩
        have hat : ∀ i, i < n → ∃ r, r < nR ∧ u 47 i = nI r := fun i hi => by rw [hm 47 (by decide) (by decide)]; obtain ⟨r, h1, h2, -⟩ := (hI.2.2.1.1 i hi).qat; exact ⟨r, h1, h2⟩
        refine x_aload_n C 2 dL_law_733 rfl rfl ?_
        refine x_aload_n C 0 dL_law_734 rfl rfl ?_
        refine x_iload_n C 3 dL_law_735 rfl rfl ?_
        refine x_iconst C dL_law_736 (v := 1) (by decide) ?_
        refine x_iadd C dL_law_737 ?_
        refine x_top C (v2 := nI (1 + 6 * j + 1)) (by rw [nI_ad (1 + 6 * j) 1]; rfl) ?_
        refine x_sld C hX hbl hbA (kk := (1 + 6 * j + 1)) (nI_in (show 1 + 6 * j + 1 < Ls by omega) (by omega)) (nI_clamp (by omega)) dL_law_738 ?_
        refine x_aload_n C 0 dL_law_739 rfl rfl ?_
        refine x_iload_n C 3 dL_law_740 rfl rfl ?_
        refine x_iconst C dL_law_741 (v := 2) (by decide) ?_
        refine x_iadd C dL_law_742 ?_
        refine x_top C (v2 := nI (1 + 6 * j + 2)) (by rw [nI_ad (1 + 6 * j) 2]; rfl) ?_
        refine x_sld C hX hbl hbA (kk := (1 + 6 * j + 2)) (nI_in (show 1 + 6 * j + 2 < Ls by omega) (by omega)) (nI_clamp (by omega)) dL_law_743 ?_
        refine x_Vi 30 C (k_X10_allot l G nR LL ad hF u (xs (1 + 6 * j + 1)) (xs (1 + 6 * j + 2)) ) gL_law_X10_allot rfl (by decide +kernel) ⟨(Nat.le_of_ble_eq_true rfl), (Nat.le_of_ble_eq_true rfl)⟩ ⟨(by show cz ≤ 600000; omega), (by show sz ≤ 7302250; omega)⟩ (hF 30 (by decide)) (pf_30 G nR ad _) (T := TX10) (N := 45) rfl (n := 2) rfl (st := [.int r1]) (Nat.le_of_ble_eq_true rfl) rfl dL_law_744 (fun r2 w hy => ?_)
        have hsw := sw_allot hI (xs (1 + 6 * j + 1)) (xs (1 + 6 * j + 2)) hx hy
        obtain ⟨heq, nk1, k1, d1, hI1⟩ := hsw
        refine x_icmp_eq C (tgt := 940) dL_law_747 (by decide) (fun c747 => ?_) (fun c747 => ?_)
        · skip
          refine x_iinc C (L1 := [(3, .int ((nI (1 + 6 * j)) + 6)), (0, .ref (b)), (1, .ref (ad 0)), (2, .ref (ad 30))]) 3 dL_law_940 rfl rfl (by decide) rfl ?_
          refine x_goto C (tgt := 28) dL_law_943 (by decide) ?_
          have hit : nI (1 + 6 * j) + 6 = nI (1 + 6 * (j + 1)) := by rw [show 1 + 6 * (j + 1) = 1 + 6 * j + 6 by omega, nI_ad (1 + 6 * j) 6]; rfl
          refine x_sub [1, 2, 3, 0] (L1 := [(0, .ref (b)), (1, .ref (ad 0)), (2, .ref (ad 30)), (3, .int ((nI (1 + 6 * j)) + 6))]) rfl ?_
          rw [hit]
          refine x_widen (k := cz + 3) (n := sz + 28) (by show cz ≤ cz + 3; omega) (by show sz ≤ sz + 28; omega) ?_
          exact ih (j + 1) _ _ nk1 k1 d1 (cz + 3) (sz + 28) LL ad w (by omega) (by omega) (by omega) (by omega) hI1 hM C
        · skip
          exact absurd heq c747
      · skip
        refine x_tableIn C dL_law_43 (by decide) (by decide) (off := 709) (tgt := 752) rfl (by decide) ?_
        refine x_aload_n C 1 dL_law_752 rfl rfl ?_
        refine x_aload_n C 0 dL_law_753 rfl rfl ?_
        refine x_iload_n C 3 dL_law_754 rfl rfl ?_
        refine x_iconst C dL_law_755 (v := 1) (by decide) ?_
        refine x_iadd C dL_law_756 ?_
        refine x_top C (v2 := nI (1 + 6 * j + 1)) (by rw [nI_ad (1 + 6 * j) 1]; rfl) ?_
        refine x_sld C hX hbl hbA (kk := (1 + 6 * j + 1)) (nI_in (show 1 + 6 * j + 1 < Ls by omega) (by omega)) (nI_clamp (by omega)) dL_law_757 ?_
        refine x_Vi 0 C (k_X9_rate l G nR LL ad hF S (xs (1 + 6 * j + 1)) ) gL_law_X9_rate rfl (by decide +kernel) ⟨(Nat.le_of_ble_eq_true rfl), (Nat.le_of_ble_eq_true rfl)⟩ ⟨(by show cz ≤ 600000; omega), (by show sz ≤ 7302250; omega)⟩ (hF 0 (by decide)) (pf_0 G nR ad _) (T := TX9) (N := 9) rfl (n := 1) rfl (st := []) (Nat.le_of_ble_eq_true rfl) rfl dL_law_758 (fun r1 u hx => ?_)
        have hm : ∀ x, 30 ≤ x → x < 100 → u x = S x := mid_rate hI (xs (1 + 6 * j + 1)) hx.2
        have z0 : u 30 0 = nI nR := by rw [hm 30 (by decide) (by decide)]; exact X.i2
        have z4 : u 30 4 = nI nk := by rw [hm 30 (by decide) (by decide)]; exact X.i7
        have z5 : u 30 5 = nI n := by rw [hm 30 (by decide) (by decide)]; exact X.i17
        have z29 : u 30 29 = nI k := by rw [hm 30 (by decide) (by decide)]; exact X.i19
        have z33 : u 30 33 = nI t := by rw [hm 30 (by decide) (by decide)]; exact X.i27
        have hst : ∀ i, i < t → ∃ c, c ≤ 16 ∧ u 64 i = nI c := fun i hi => by rw [hm 64 (by decide) (by decide)]; obtain ⟨c, h1, h2, -⟩ := (hI.2.2.2 i hi).tc; exact ⟨c, h1, h2⟩
        have hat : ∀ i, i < n → ∃ r, r < nR ∧ u 47 i = nI r := fun i hi => by rw [hm 47 (by decide) (by decide)]; obtain ⟨r, h1, h2, -⟩ := (hI.2.2.1.1 i hi).qat; exact ⟨r, h1, h2⟩
        refine x_aload_n C 2 dL_law_761 rfl rfl ?_
        refine x_aload_n C 0 dL_law_762 rfl rfl ?_
        refine x_iload_n C 3 dL_law_763 rfl rfl ?_
        refine x_iconst C dL_law_764 (v := 1) (by decide) ?_
        refine x_iadd C dL_law_765 ?_
        refine x_top C (v2 := nI (1 + 6 * j + 1)) (by rw [nI_ad (1 + 6 * j) 1]; rfl) ?_
        refine x_sld C hX hbl hbA (kk := (1 + 6 * j + 1)) (nI_in (show 1 + 6 * j + 1 < Ls by omega) (by omega)) (nI_clamp (by omega)) dL_law_766 ?_
        refine x_Vi 30 C (k_X10_rate l G nR LL ad hF u (xs (1 + 6 * j + 1)) ) gL_law_X10_rate rfl (by decide +kernel) ⟨(Nat.le_of_ble_eq_true rfl), (Nat.le_of_ble_eq_true rfl)⟩ ⟨(by show cz ≤ 600000; omega), (by show sz ≤ 7302250; omega)⟩ (hF 30 (by decide)) (pf_30 G nR ad _) (T := TX10) (N := 45) rfl (n := 1) rfl (st := [.int r1]) (Nat.le_of_ble_eq_true rfl) rfl dL_law_767 (fun r2 w hy => ?_)
        have hsw := sw_rate hI (xs (1 + 6 * j + 1)) hx hy
        obtain ⟨heq, nk1, k1, d1, hI1⟩ := hsw
        refine x_icmp_eq C (tgt := 940) dL_law_770 (by decide) (fun c770 => ?_) (fun c770 => ?_)
        · skip
          refine x_iinc C (L1 := [(3, .int ((nI (1 + 6 * j)) + 6)), (0, .ref (b)), (1, .ref (ad 0)), (2, .ref (ad 30))]) 3 dL_law_940 rfl rfl (by decide) rfl ?_
          refine x_goto C (tgt := 28) dL_law_943 (by decide) ?_
          have hit : nI (1 + 6 * j) + 6 = nI (1 + 6 * (j + 1)) := by rw [show 1 + 6 * (j + 1) = 1 + 6 * j + 6 by omega, nI_ad (1 + 6 * j) 6]; rfl
          refine x_sub [1, 2, 3, 0] (L1 := [(0, .ref (b)), (1, .ref (ad 0)), (2, .ref (ad 30)), (3, .int ((nI (1 + 6 * j)) + 6))]) rfl ?_
          rw [hit]
          refine x_widen (k := cz + 3) (n := sz + 28) (by show cz ≤ cz + 3; omega) (by show sz ≤ sz + 28; omega) ?_
          exact ih (j + 1) _ _ nk1 k1 d1 (cz + 3) (sz + 28) LL ad w (by omega) (by omega) (by omega) (by omega) hI1 hM C
        · skip
          exact absurd heq c770
      · skip
        refine x_tableIn C dL_law_43 (by decide) (by decide) (off := 732) (tgt := 775) rfl (by decide) ?_
        refine x_aload_n C 1 dL_law_775 rfl rfl ?_
        refine x_aload_n C 0 dL_law_776 rfl rfl ?_
        refine x_iload_n C 3 dL_law_777 rfl rfl ?_
        refine x_iconst C dL_law_778 (v := 1) (by decide) ?_
        refine x_iadd C dL_law_779 ?_
        refine x_top C (v2 := nI (1 + 6 * j + 1)) (by rw [nI_ad (1 + 6 * j) 1]; rfl) ?_
        refine x_sld C hX hbl hbA (kk := (1 + 6 * j + 1)) (nI_in (show 1 + 6 * j + 1 < Ls by omega) (by omega)) (nI_clamp (by omega)) dL_law_780 ?_
        refine x_aload_n C 0 dL_law_781 rfl rfl ?_
        refine x_iload_n C 3 dL_law_782 rfl rfl ?_
        refine x_iconst C dL_law_783 (v := 2) (by decide) ?_
        refine x_iadd C dL_law_784 ?_
        refine x_top C (v2 := nI (1 + 6 * j + 2)) (by rw [nI_ad (1 + 6 * j) 2]; rfl) ?_
        refine x_sld C hX hbl hbA (kk := (1 + 6 * j + 2)) (nI_in (show 1 + 6 * j + 2 < Ls by omega) (by omega)) (nI_clamp (by omega)) dL_law_785 ?_
        refine x_Vi 0 C (k_X9_commute l G nR LL ad hF S (xs (1 + 6 * j + 1)) (xs (1 + 6 * j + 2)) ) gL_law_X9_commute rfl (by decide +kernel) ⟨(Nat.le_of_ble_eq_true rfl), (Nat.le_of_ble_eq_true rfl)⟩ ⟨(by show cz ≤ 600000; omega), (by show sz ≤ 7302250; omega)⟩ (hF 0 (by decide)) (pf_0 G nR ad _) (T := TX9) (N := 9) rfl (n := 2) rfl (st := []) (Nat.le_of_ble_eq_true rfl) rfl dL_law_786 (fun r1 u hx => ?_)
        have hm : ∀ x, 30 ≤ x → x < 100 → u x = S x := fun x h1 _ => mid_commute hx.2 x h1
        have z0 : u 30 0 = nI nR := by rw [hm 30 (by decide) (by decide)]; exact X.i2
        have z4 : u 30 4 = nI nk := by rw [hm 30 (by decide) (by decide)]; exact X.i7
        have z5 : u 30 5 = nI n := by rw [hm 30 (by decide) (by decide)]; exact X.i17
        have z29 : u 30 29 = nI k := by rw [hm 30 (by decide) (by decide)]; exact X.i19
        have z33 : u 30 33 = nI t := by rw [hm 30 (by decide) (by decide)]; exact X.i27
        have hst : ∀ i, i < t → ∃ c, c ≤ 16 ∧ u 64 i = nI c := fun i hi => by rw [hm 64 (by decide) (by decide)]; obtain ⟨c, h1, h2, -⟩ := (hI.2.2.2 i hi).tc; exact ⟨c, h1, h2⟩
        have hat : ∀ i, i < n → ∃ r, r < nR ∧ u 47 i = nI r := fun i hi => by rw [hm 47 (by decide) (by decide)]; obtain ⟨r, h1, h2, -⟩ := (hI.2.2.1.1 i hi).qat; exact ⟨r, h1, h2⟩
        refine x_aload_n C 2 dL_law_789 rfl rfl ?_
        refine x_aload_n C 0 dL_law_790 rfl rfl ?_
        refine x_iload_n C 3 dL_law_791 rfl rfl ?_
        refine x_iconst C dL_law_792 (v := 1) (by decide) ?_
        refine x_iadd C dL_law_793 ?_
        refine x_top C (v2 := nI (1 + 6 * j + 1)) (by rw [nI_ad (1 + 6 * j) 1]; rfl) ?_
        refine x_sld C hX hbl hbA (kk := (1 + 6 * j + 1)) (nI_in (show 1 + 6 * j + 1 < Ls by omega) (by omega)) (nI_clamp (by omega)) dL_law_794 ?_
        refine x_aload_n C 0 dL_law_795 rfl rfl ?_
        refine x_iload_n C 3 dL_law_796 rfl rfl ?_
        refine x_iconst C dL_law_797 (v := 2) (by decide) ?_
        refine x_iadd C dL_law_798 ?_
        refine x_top C (v2 := nI (1 + 6 * j + 2)) (by rw [nI_ad (1 + 6 * j) 2]; rfl) ?_
        refine x_sld C hX hbl hbA (kk := (1 + 6 * j + 2)) (nI_in (show 1 + 6 * j + 2 < Ls by omega) (by omega)) (nI_clamp (by omega)) dL_law_799 ?_
        refine x_Vi 30 C (k_X10_commute l G nR LL ad hF u (xs (1 + 6 * j + 1)) (xs (1 + 6 * j + 2)) ) gL_law_X10_commute rfl (by decide +kernel) ⟨(Nat.le_of_ble_eq_true rfl), (Nat.le_of_ble_eq_true rfl)⟩ ⟨(by show cz ≤ 600000; omega), (by show sz ≤ 7302250; omega)⟩ (hF 30 (by decide)) (pf_30 G nR ad _) (T := TX10) (N := 45) rfl (n := 2) rfl (st := [.int r1]) (Nat.le_of_ble_eq_true rfl) rfl dL_law_800 (fun r2 w hy => ?_)
        have hsw := sw_commute hI hx hy
        obtain ⟨heq, nk1, k1, d1, hI1⟩ := hsw
        refine x_icmp_eq C (tgt := 940) dL_law_803 (by decide) (fun c803 => ?_) (fun c803 => ?_)
        · skip
          refine x_iinc C (L1 := [(3, .int ((nI (1 + 6 * j)) + 6)), (0, .ref (b)), (1, .ref (ad 0)), (2, .ref (ad 30))]) 3 dL_law_940 rfl rfl (by decide) rfl ?_
          refine x_goto C (tgt := 28) dL_law_943 (by decide) ?_
          have hit : nI (1 + 6 * j) + 6 = nI (1 + 6 * (j + 1)) := by rw [show 1 + 6 * (j + 1) = 1 + 6 * j + 6 by omega, nI_ad (1 + 6 * j) 6]; rfl
          refine x_sub [1, 2, 3, 0] (L1 := [(0, .ref (b)), (1, .ref (ad 0)), (2, .ref (ad 30)), (3, .int ((nI (1 + 6 * j)) + 6))]) rfl ?_
          rw [hit]
          refine x_widen (k := cz + 3) (n := sz + 28) (by show cz ≤ cz + 3; omega) (by show sz ≤ sz + 28; omega) ?_
          exact ih (j + 1) _ _ nk1 k1 d1 (cz + 3) (sz + 28) LL ad w (by omega) (by omega) (by omega) (by omega) hI1 hM C
        · skip
          exact absurd heq c803
      · skip
        refine x_tableIn C dL_law_43 (by decide) (by decide) (off := 765) (tgt := 808) rfl (by decide) ?_
        refine x_aload_n C 1 dL_law_808 rfl rfl ?_
        refine x_aload_n C 0 dL_law_809 rfl rfl ?_
        refine x_iload_n C 3 dL_law_810 rfl rfl ?_
        refine x_iconst C dL_law_811 (v := 1) (by decide) ?_
        refine x_iadd C dL_law_812 ?_
        refine x_top C (v2 := nI (1 + 6 * j + 1)) (by rw [nI_ad (1 + 6 * j) 1]; rfl) ?_
        refine x_sld C hX hbl hbA (kk := (1 + 6 * j + 1)) (nI_in (show 1 + 6 * j + 1 < Ls by omega) (by omega)) (nI_clamp (by omega)) dL_law_813 ?_
        refine x_aload_n C 0 dL_law_814 rfl rfl ?_
        refine x_iload_n C 3 dL_law_815 rfl rfl ?_
        refine x_iconst C dL_law_816 (v := 2) (by decide) ?_
        refine x_iadd C dL_law_817 ?_
        refine x_top C (v2 := nI (1 + 6 * j + 2)) (by rw [nI_ad (1 + 6 * j) 2]; rfl) ?_
        refine x_sld C hX hbl hbA (kk := (1 + 6 * j + 2)) (nI_in (show 1 + 6 * j + 2 < Ls by omega) (by omega)) (nI_clamp (by omega)) dL_law_818 ?_
        refine x_Vi 0 C (k_X9_county l G nR LL ad hF S (xs (1 + 6 * j + 1)) (xs (1 + 6 * j + 2)) n hfl hR) gL_law_X9_county rfl (by decide +kernel) ⟨(Nat.le_of_ble_eq_true rfl), (Nat.le_of_ble_eq_true rfl)⟩ ⟨(by show cz ≤ 600000; omega), (by show sz ≤ 7302250; omega)⟩ (hF 0 (by decide)) (pf_0 G nR ad _) (T := TX9) (N := 9) rfl (n := 2) rfl (st := []) (Nat.le_of_ble_eq_true rfl) rfl dL_law_819 (fun r1 _ hx => ?_)
        have hm : ∀ x, 30 ≤ x → x < 100 → S x = S x := fun _ _ _ => rfl
        have z0 : S 30 0 = nI nR := by rw [hm 30 (by decide) (by decide)]; exact X.i2
        have z4 : S 30 4 = nI nk := by rw [hm 30 (by decide) (by decide)]; exact X.i7
        have z5 : S 30 5 = nI n := by rw [hm 30 (by decide) (by decide)]; exact X.i17
        have z29 : S 30 29 = nI k := by rw [hm 30 (by decide) (by decide)]; exact X.i19
        have z33 : S 30 33 = nI t := by rw [hm 30 (by decide) (by decide)]; exact X.i27
        have hst : ∀ i, i < t → ∃ c, c ≤ 16 ∧ S 64 i = nI c := fun i hi => by rw [hm 64 (by decide) (by decide)]; obtain ⟨c, h1, h2, -⟩ := (hI.2.2.2 i hi).tc; exact ⟨c, h1, h2⟩
        have hat : ∀ i, i < n → ∃ r, r < nR ∧ S 47 i = nI r := fun i hi => by rw [hm 47 (by decide) (by decide)]; obtain ⟨r, h1, h2, -⟩ := (hI.2.2.1.1 i hi).qat; exact ⟨r, h1, h2⟩
        refine x_aload_n C 2 dL_law_822 rfl rfl ?_
        refine x_aload_n C 0 dL_law_823 rfl rfl ?_
        refine x_iload_n C 3 dL_law_824 rfl rfl ?_
        refine x_iconst C dL_law_825 (v := 1) (by decide) ?_
        refine x_iadd C dL_law_826 ?_
        refine x_top C (v2 := nI (1 + 6 * j + 1)) (by rw [nI_ad (1 + 6 * j) 1]; rfl) ?_
        refine x_sld C hX hbl hbA (kk := (1 + 6 * j + 1)) (nI_in (show 1 + 6 * j + 1 < Ls by omega) (by omega)) (nI_clamp (by omega)) dL_law_827 ?_
        refine x_aload_n C 0 dL_law_828 rfl rfl ?_
        refine x_iload_n C 3 dL_law_829 rfl rfl ?_
        refine x_iconst C dL_law_830 (v := 2) (by decide) ?_
        refine x_iadd C dL_law_831 ?_
        refine x_top C (v2 := nI (1 + 6 * j + 2)) (by rw [nI_ad (1 + 6 * j) 2]; rfl) ?_
        refine x_sld C hX hbl hbA (kk := (1 + 6 * j + 2)) (nI_in (show 1 + 6 * j + 2 < Ls by omega) (by omega)) (nI_clamp (by omega)) dL_law_832 ?_
        refine x_Vi 30 C (k_X10_county l G nR LL ad hF S (xs (1 + 6 * j + 1)) (xs (1 + 6 * j + 2)) n z5 hn12) gL_law_X10_county rfl (by decide +kernel) ⟨(Nat.le_of_ble_eq_true rfl), (Nat.le_of_ble_eq_true rfl)⟩ ⟨(by show cz ≤ 600000; omega), (by show sz ≤ 7302250; omega)⟩ (hF 30 (by decide)) (pf_30 G nR ad _) (T := TX10) (N := 45) rfl (n := 2) rfl (st := [.int r1]) (Nat.le_of_ble_eq_true rfl) rfl dL_law_833 (fun r2 _ hy => ?_)
        have heq : r1 = r2 := hx.trans ((se_county hI (xs (1 + 6 * j + 1)) (xs (1 + 6 * j + 2))).trans hy.symm)
        refine x_icmp_eq C (tgt := 940) dL_law_836 (by decide) (fun c836 => ?_) (fun c836 => ?_)
        · skip
          refine x_iinc C (L1 := [(3, .int ((nI (1 + 6 * j)) + 6)), (0, .ref (b)), (1, .ref (ad 0)), (2, .ref (ad 30))]) 3 dL_law_940 rfl rfl (by decide) rfl ?_
          refine x_goto C (tgt := 28) dL_law_943 (by decide) ?_
          have hit : nI (1 + 6 * j) + 6 = nI (1 + 6 * (j + 1)) := by rw [show 1 + 6 * (j + 1) = 1 + 6 * j + 6 by omega, nI_ad (1 + 6 * j) 6]; rfl
          refine x_sub [1, 2, 3, 0] (L1 := [(0, .ref (b)), (1, .ref (ad 0)), (2, .ref (ad 30)), (3, .int ((nI (1 + 6 * j)) + 6))]) rfl ?_
          rw [hit]
          refine x_widen (k := cz + 3) (n := sz + 28) (by show cz ≤ cz + 3; omega) (by show sz ≤ sz + 28; omega) ?_
          exact ih (j + 1) n t nk k d (cz + 3) (sz + 28) LL ad S (by omega) (by omega) (by omega) (by omega) hI hM C
        · skip
          exact absurd heq c836
      · skip
        refine x_tableIn C dL_law_43 (by decide) (by decide) (off := 798) (tgt := 841) rfl (by decide) ?_
        refine x_aload_n C 1 dL_law_841 rfl rfl ?_
        refine x_aload_n C 0 dL_law_842 rfl rfl ?_
        refine x_iload_n C 3 dL_law_843 rfl rfl ?_
        refine x_iconst C dL_law_844 (v := 1) (by decide) ?_
        refine x_iadd C dL_law_845 ?_
        refine x_top C (v2 := nI (1 + 6 * j + 1)) (by rw [nI_ad (1 + 6 * j) 1]; rfl) ?_
        refine x_sld C hX hbl hbA (kk := (1 + 6 * j + 1)) (nI_in (show 1 + 6 * j + 1 < Ls by omega) (by omega)) (nI_clamp (by omega)) dL_law_846 ?_
        refine x_aload_n C 0 dL_law_847 rfl rfl ?_
        refine x_iload_n C 3 dL_law_848 rfl rfl ?_
        refine x_iconst C dL_law_849 (v := 2) (by decide) ?_
        refine x_iadd C dL_law_850 ?_
        refine x_top C (v2 := nI (1 + 6 * j + 2)) (by rw [nI_ad (1 + 6 * j) 2]; rfl) ?_
        refine x_sld C hX hbl hbA (kk := (1 + 6 * j + 2)) (nI_in (show 1 + 6 * j + 2 < Ls by omega) (by omega)) (nI_clamp (by omega)) dL_law_851 ?_
        refine x_Vi 0 C (k_X9_due l G nR LL ad hF S (xs (1 + 6 * j + 1)) (xs (1 + 6 * j + 2)) n hfl hR) gL_law_X9_due rfl (by decide +kernel) ⟨(Nat.le_of_ble_eq_true rfl), (Nat.le_of_ble_eq_true rfl)⟩ ⟨(by show cz ≤ 600000; omega), (by show sz ≤ 7302250; omega)⟩ (hF 0 (by decide)) (pf_0 G nR ad _) (T := TX9) (N := 9) rfl (n := 2) rfl (st := []) (Nat.le_of_ble_eq_true rfl) rfl dL_law_852 (fun r1 u hx => ?_)
        have hm : ∀ x, 30 ≤ x → x < 100 → u x = S x := fun x _ h2 => mid_due (xs (1 + 6 * j + 1)) (xs (1 + 6 * j + 2)) hx.2 x h2
        have z0 : u 30 0 = nI nR := by rw [hm 30 (by decide) (by decide)]; exact X.i2
        have z4 : u 30 4 = nI nk := by rw [hm 30 (by decide) (by decide)]; exact X.i7
        have z5 : u 30 5 = nI n := by rw [hm 30 (by decide) (by decide)]; exact X.i17
        have z29 : u 30 29 = nI k := by rw [hm 30 (by decide) (by decide)]; exact X.i19
        have z33 : u 30 33 = nI t := by rw [hm 30 (by decide) (by decide)]; exact X.i27
        have hst : ∀ i, i < t → ∃ c, c ≤ 16 ∧ u 64 i = nI c := fun i hi => by rw [hm 64 (by decide) (by decide)]; obtain ⟨c, h1, h2, -⟩ := (hI.2.2.2 i hi).tc; exact ⟨c, h1, h2⟩
        have hat : ∀ i, i < n → ∃ r, r < nR ∧ u 47 i = nI r := fun i hi => by rw [hm 47 (by decide) (by decide)]; obtain ⟨r, h1, h2, -⟩ := (hI.2.2.1.1 i hi).qat; exact ⟨r, h1, h2⟩
        refine x_aload_n C 2 dL_law_855 rfl rfl ?_
        refine x_aload_n C 0 dL_law_856 rfl rfl ?_
        refine x_iload_n C 3 dL_law_857 rfl rfl ?_
        refine x_iconst C dL_law_858 (v := 1) (by decide) ?_
        refine x_iadd C dL_law_859 ?_
        refine x_top C (v2 := nI (1 + 6 * j + 1)) (by rw [nI_ad (1 + 6 * j) 1]; rfl) ?_
        refine x_sld C hX hbl hbA (kk := (1 + 6 * j + 1)) (nI_in (show 1 + 6 * j + 1 < Ls by omega) (by omega)) (nI_clamp (by omega)) dL_law_860 ?_
        refine x_aload_n C 0 dL_law_861 rfl rfl ?_
        refine x_iload_n C 3 dL_law_862 rfl rfl ?_
        refine x_iconst C dL_law_863 (v := 2) (by decide) ?_
        refine x_iadd C dL_law_864 ?_
        refine x_top C (v2 := nI (1 + 6 * j + 2)) (by rw [nI_ad (1 + 6 * j) 2]; rfl) ?_
        refine x_sld C hX hbl hbA (kk := (1 + 6 * j + 2)) (nI_in (show 1 + 6 * j + 2 < Ls by omega) (by omega)) (nI_clamp (by omega)) dL_law_865 ?_
        refine x_Vi 30 C (k_X10_due l G nR LL ad hF u (xs (1 + 6 * j + 1)) (xs (1 + 6 * j + 2)) n z5 hn12) gL_law_X10_due rfl (by decide +kernel) ⟨(Nat.le_of_ble_eq_true rfl), (Nat.le_of_ble_eq_true rfl)⟩ ⟨(by show cz ≤ 600000; omega), (by show sz ≤ 7302250; omega)⟩ (hF 30 (by decide)) (pf_30 G nR ad _) (T := TX10) (N := 45) rfl (n := 2) rfl (st := [.int r1]) (Nat.le_of_ble_eq_true rfl) rfl dL_law_866 (fun r2 w hy => ?_)
        have hsw := sw_due hI (xs (1 + 6 * j + 1)) (xs (1 + 6 * j + 2)) hx hy
        obtain ⟨heq, nk1, k1, d1, hI1⟩ := hsw
        refine x_icmp_eq C (tgt := 940) dL_law_869 (by decide) (fun c869 => ?_) (fun c869 => ?_)
        · skip
          refine x_iinc C (L1 := [(3, .int ((nI (1 + 6 * j)) + 6)), (0, .ref (b)), (1, .ref (ad 0)), (2, .ref (ad 30))]) 3 dL_law_940 rfl rfl (by decide) rfl ?_
          refine x_goto C (tgt := 28) dL_law_943 (by decide) ?_
          have hit : nI (1 + 6 * j) + 6 = nI (1 + 6 * (j + 1)) := by rw [show 1 + 6 * (j + 1) = 1 + 6 * j + 6 by omega, nI_ad (1 + 6 * j) 6]; rfl
          refine x_sub [1, 2, 3, 0] (L1 := [(0, .ref (b)), (1, .ref (ad 0)), (2, .ref (ad 30)), (3, .int ((nI (1 + 6 * j)) + 6))]) rfl ?_
          rw [hit]
          refine x_widen (k := cz + 3) (n := sz + 28) (by show cz ≤ cz + 3; omega) (by show sz ≤ sz + 28; omega) ?_
          exact ih (j + 1) _ _ nk1 k1 d1 (cz + 3) (sz + 28) LL ad w (by omega) (by omega) (by omega) (by omega) hI1 hM C
        · skip
          exact absurd heq c869
      · skip
        refine x_tableIn C dL_law_43 (by decide) (by decide) (off := 831) (tgt := 874) rfl (by decide) ?_
        refine x_aload_n C 1 dL_law_874 rfl rfl ?_
        refine x_aload_n C 0 dL_law_875 rfl rfl ?_
        refine x_iload_n C 3 dL_law_876 rfl rfl ?_
        refine x_iconst C dL_law_877 (v := 1) (by decide) ?_
        refine x_iadd C dL_law_878 ?_
        refine x_top C (v2 := nI (1 + 6 * j + 1)) (by rw [nI_ad (1 + 6 * j) 1]; rfl) ?_
        refine x_sld C hX hbl hbA (kk := (1 + 6 * j + 1)) (nI_in (show 1 + 6 * j + 1 < Ls by omega) (by omega)) (nI_clamp (by omega)) dL_law_879 ?_
        refine x_aload_n C 0 dL_law_880 rfl rfl ?_
        refine x_iload_n C 3 dL_law_881 rfl rfl ?_
        refine x_iconst C dL_law_882 (v := 2) (by decide) ?_
        refine x_iadd C dL_law_883 ?_
        refine x_top C (v2 := nI (1 + 6 * j + 2)) (by rw [nI_ad (1 + 6 * j) 2]; rfl) ?_
        refine x_sld C hX hbl hbA (kk := (1 + 6 * j + 2)) (nI_in (show 1 + 6 * j + 2 < Ls by omega) (by omega)) (nI_clamp (by omega)) dL_law_884 ?_
        refine x_aload_n C 0 dL_law_885 rfl rfl ?_
        refine x_iload_n C 3 dL_law_886 rfl rfl ?_
        refine x_iconst C dL_law_887 (v := 3) (by decide) ?_
        refine x_iadd C dL_law_888 ?_
        refine x_top C (v2 := nI (1 + 6 * j + 3)) (by rw [nI_ad (1 + 6 * j) 3]; rfl) ?_
        refine x_sld C hX hbl hbA (kk := (1 + 6 * j + 3)) (nI_in (show 1 + 6 * j + 3 < Ls by omega) (by omega)) (nI_clamp (by omega)) dL_law_889 ?_
        refine x_Vi 0 C (k_X9_least l G nR LL ad hF S (xs (1 + 6 * j + 1)) (xs (1 + 6 * j + 2)) (xs (1 + 6 * j + 3)) n hfl X.i1 hR hR1) gL_law_X9_least rfl (by decide +kernel) ⟨(Nat.le_of_ble_eq_true rfl), (Nat.le_of_ble_eq_true rfl)⟩ ⟨(by show cz ≤ 600000; omega), (by show sz ≤ 7302250; omega)⟩ (hF 0 (by decide)) (pf_0 G nR ad _) (T := TX9) (N := 9) rfl (n := 3) rfl (st := []) (Nat.le_of_ble_eq_true rfl) rfl dL_law_890 (fun r1 u hx => ?_)
        have hm : ∀ x, 30 ≤ x → x < 100 → u x = S x := mid_least hx.2
        have z0 : u 30 0 = nI nR := by rw [hm 30 (by decide) (by decide)]; exact X.i2
        have z4 : u 30 4 = nI nk := by rw [hm 30 (by decide) (by decide)]; exact X.i7
        have z5 : u 30 5 = nI n := by rw [hm 30 (by decide) (by decide)]; exact X.i17
        have z29 : u 30 29 = nI k := by rw [hm 30 (by decide) (by decide)]; exact X.i19
        have z33 : u 30 33 = nI t := by rw [hm 30 (by decide) (by decide)]; exact X.i27
        have hst : ∀ i, i < t → ∃ c, c ≤ 16 ∧ u 64 i = nI c := fun i hi => by rw [hm 64 (by decide) (by decide)]; obtain ⟨c, h1, h2, -⟩ := (hI.2.2.2 i hi).tc; exact ⟨c, h1, h2⟩
        have hat : ∀ i, i < n → ∃ r, r < nR ∧ u 47 i = nI r := fun i hi => by rw [hm 47 (by decide) (by decide)]; obtain ⟨r, h1, h2, -⟩ := (hI.2.2.1.1 i hi).qat; exact ⟨r, h1, h2⟩
        have hL1 : isP (xs (1 + 6 * j + 2)) (nI (nR - 1)) = true → 1 ≤ u 32 ((xs (1 + 6 * j + 2))).toNatClampNeg := fun h => by rw [hm 32 (by decide) (by decide)]; obtain ⟨b9, h1, h2, h3⟩ := X.i5 _ (show ((xs (1 + 6 * j + 2))).toNatClampNeg < 11 by have := (isP_nat h (by omega)).1; omega); rw [h3]; exact nI_le (a := 1) h1 (by omega)
        refine x_aload_n C 2 dL_law_893 rfl rfl ?_
        refine x_aload_n C 0 dL_law_894 rfl rfl ?_
        refine x_iload_n C 3 dL_law_895 rfl rfl ?_
        refine x_iconst C dL_law_896 (v := 1) (by decide) ?_
        refine x_iadd C dL_law_897 ?_
        refine x_top C (v2 := nI (1 + 6 * j + 1)) (by rw [nI_ad (1 + 6 * j) 1]; rfl) ?_
        refine x_sld C hX hbl hbA (kk := (1 + 6 * j + 1)) (nI_in (show 1 + 6 * j + 1 < Ls by omega) (by omega)) (nI_clamp (by omega)) dL_law_898 ?_
        refine x_aload_n C 0 dL_law_899 rfl rfl ?_
        refine x_iload_n C 3 dL_law_900 rfl rfl ?_
        refine x_iconst C dL_law_901 (v := 2) (by decide) ?_
        refine x_iadd C dL_law_902 ?_
        refine x_top C (v2 := nI (1 + 6 * j + 2)) (by rw [nI_ad (1 + 6 * j) 2]; rfl) ?_
        refine x_sld C hX hbl hbA (kk := (1 + 6 * j + 2)) (nI_in (show 1 + 6 * j + 2 < Ls by omega) (by omega)) (nI_clamp (by omega)) dL_law_903 ?_
        refine x_aload_n C 0 dL_law_904 rfl rfl ?_
        refine x_iload_n C 3 dL_law_905 rfl rfl ?_
        refine x_iconst C dL_law_906 (v := 3) (by decide) ?_
        refine x_iadd C dL_law_907 ?_
        refine x_top C (v2 := nI (1 + 6 * j + 3)) (by rw [nI_ad (1 + 6 * j) 3]; rfl) ?_
        refine x_sld C hX hbl hbA (kk := (1 + 6 * j + 3)) (nI_in (show 1 + 6 * j + 3 < Ls by omega) (by omega)) (nI_clamp (by omega)) dL_law_908 ?_
        refine x_Vi 30 C (k_X10_least l G nR LL ad hF u (xs (1 + 6 * j + 1)) (xs (1 + 6 * j + 2)) (xs (1 + 6 * j + 3)) z0 hR hR3 n z5 hn12 hL1) gL_law_X10_least rfl (by decide +kernel) ⟨(Nat.le_of_ble_eq_true rfl), (Nat.le_of_ble_eq_true rfl)⟩ ⟨(by show cz ≤ 600000; omega), (by show sz ≤ 7302250; omega)⟩ (hF 30 (by decide)) (pf_30 G nR ad _) (T := TX10) (N := 45) rfl (n := 3) rfl (st := [.int r1]) (Nat.le_of_ble_eq_true rfl) rfl dL_law_909 (fun r2 w hy => ?_)
        have hsw := sw_least hI hx hy
        obtain ⟨heq, nk1, k1, d1, hI1⟩ := hsw
        refine x_icmp_eq C (tgt := 940) dL_law_912 (by decide) (fun c912 => ?_) (fun c912 => ?_)
        · skip
          refine x_iinc C (L1 := [(3, .int ((nI (1 + 6 * j)) + 6)), (0, .ref (b)), (1, .ref (ad 0)), (2, .ref (ad 30))]) 3 dL_law_940 rfl rfl (by decide) rfl ?_
          refine x_goto C (tgt := 28) dL_law_943 (by decide) ?_
          have hit : nI (1 + 6 * j) + 6 = nI (1 + 6 * (j + 1)) := by rw [show 1 + 6 * (j + 1) = 1 + 6 * j + 6 by omega, nI_ad (1 + 6 * j) 6]; rfl
          refine x_sub [1, 2, 3, 0] (L1 := [(0, .ref (b)), (1, .ref (ad 0)), (2, .ref (ad 30)), (3, .int ((nI (1 + 6 * j)) + 6))]) rfl ?_
          rw [hit]
          refine x_widen (k := cz + 3) (n := sz + 28) (by show cz ≤ cz + 3; omega) (by show sz ≤ sz + 28; omega) ?_
          exact ih (j + 1) _ _ nk1 k1 d1 (cz + 3) (sz + 28) LL ad w (by omega) (by omega) (by omega) (by omega) hI1 hM C
        · skip
          exact absurd heq c912
      · skip
        refine x_tableIn C dL_law_43 (by decide) (by decide) (off := 874) (tgt := 917) rfl (by decide) ?_
        refine x_aload_n C 1 dL_law_917 rfl rfl ?_
        refine x_aload_n C 0 dL_law_918 rfl rfl ?_
        refine x_iload_n C 3 dL_law_919 rfl rfl ?_
        refine x_iconst C dL_law_920 (v := 1) (by decide) ?_
        refine x_iadd C dL_law_921 ?_
        refine x_top C (v2 := nI (1 + 6 * j + 1)) (by rw [nI_ad (1 + 6 * j) 1]; rfl) ?_
        refine x_sld C hX hbl hbA (kk := (1 + 6 * j + 1)) (nI_in (show 1 + 6 * j + 1 < Ls by omega) (by omega)) (nI_clamp (by omega)) dL_law_922 ?_
        refine x_Vi 0 C (k_X9_count l G nR LL ad hF S (xs (1 + 6 * j + 1)) n hfl hR) gL_law_X9_count rfl (by decide +kernel) ⟨(Nat.le_of_ble_eq_true rfl), (Nat.le_of_ble_eq_true rfl)⟩ ⟨(by show cz ≤ 600000; omega), (by show sz ≤ 7302250; omega)⟩ (hF 0 (by decide)) (pf_0 G nR ad _) (T := TX9) (N := 9) rfl (n := 1) rfl (st := []) (Nat.le_of_ble_eq_true rfl) rfl dL_law_923 (fun r1 _ hx => ?_)
        have hm : ∀ x, 30 ≤ x → x < 100 → S x = S x := fun _ _ _ => rfl
        have z0 : S 30 0 = nI nR := by rw [hm 30 (by decide) (by decide)]; exact X.i2
        have z4 : S 30 4 = nI nk := by rw [hm 30 (by decide) (by decide)]; exact X.i7
        have z5 : S 30 5 = nI n := by rw [hm 30 (by decide) (by decide)]; exact X.i17
        have z29 : S 30 29 = nI k := by rw [hm 30 (by decide) (by decide)]; exact X.i19
        have z33 : S 30 33 = nI t := by rw [hm 30 (by decide) (by decide)]; exact X.i27
        have hst : ∀ i, i < t → ∃ c, c ≤ 16 ∧ S 64 i = nI c := fun i hi => by rw [hm 64 (by decide) (by decide)]; obtain ⟨c, h1, h2, -⟩ := (hI.2.2.2 i hi).tc; exact ⟨c, h1, h2⟩
        have hat : ∀ i, i < n → ∃ r, r < nR ∧ S 47 i = nI r := fun i hi => by rw [hm 47 (by decide) (by decide)]; obtain ⟨r, h1, h2, -⟩ := (hI.2.2.1.1 i hi).qat; exact ⟨r, h1, h2⟩
        refine x_aload_n C 2 dL_law_926 rfl rfl ?_
        refine x_aload_n C 0 dL_law_927 rfl rfl ?_
        refine x_iload_n C 3 dL_law_928 rfl rfl ?_
        refine x_iconst C dL_law_929 (v := 1) (by decide) ?_
        refine x_iadd C dL_law_930 ?_
        refine x_top C (v2 := nI (1 + 6 * j + 1)) (by rw [nI_ad (1 + 6 * j) 1]; rfl) ?_
        refine x_sld C hX hbl hbA (kk := (1 + 6 * j + 1)) (nI_in (show 1 + 6 * j + 1 < Ls by omega) (by omega)) (nI_clamp (by omega)) dL_law_931 ?_
        refine x_Vi 30 C (k_X10_count l G nR LL ad hF S (xs (1 + 6 * j + 1)) n z5 hn12) gL_law_X10_count rfl (by decide +kernel) ⟨(Nat.le_of_ble_eq_true rfl), (Nat.le_of_ble_eq_true rfl)⟩ ⟨(by show cz ≤ 600000; omega), (by show sz ≤ 7302250; omega)⟩ (hF 30 (by decide)) (pf_30 G nR ad _) (T := TX10) (N := 45) rfl (n := 1) rfl (st := [.int r1]) (Nat.le_of_ble_eq_true rfl) rfl dL_law_932 (fun r2 _ hy => ?_)
        have heq : r1 = r2 := hx.trans ((se_count hI (xs (1 + 6 * j + 1))).trans hy.symm)
        refine x_icmp_eq C (tgt := 940) dL_law_935 (by decide) (fun c935 => ?_) (fun c935 => ?_)
        · skip
          refine x_iinc C (L1 := [(3, .int ((nI (1 + 6 * j)) + 6)), (0, .ref (b)), (1, .ref (ad 0)), (2, .ref (ad 30))]) 3 dL_law_940 rfl rfl (by decide) rfl ?_
          refine x_goto C (tgt := 28) dL_law_943 (by decide) ?_
          have hit : nI (1 + 6 * j) + 6 = nI (1 + 6 * (j + 1)) := by rw [show 1 + 6 * (j + 1) = 1 + 6 * j + 6 by omega, nI_ad (1 + 6 * j) 6]; rfl
          refine x_sub [1, 2, 3, 0] (L1 := [(0, .ref (b)), (1, .ref (ad 0)), (2, .ref (ad 30)), (3, .int ((nI (1 + 6 * j)) + 6))]) rfl ?_
          rw [hit]
          refine x_widen (k := cz + 3) (n := sz + 28) (by show cz ≤ cz + 3; omega) (by show sz ≤ sz + 28; omega) ?_
          exact ih (j + 1) n t nk k d (cz + 3) (sz + 28) LL ad S (by omega) (by omega) (by omega) (by omega) hI hM C
        · skip
          exact absurd heq c935
      · skip
        refine x_tableOut C dL_law_43 h9.1 (tgt := 940) (by decide) ?_
        refine x_iinc C (L1 := [(3, .int ((nI (1 + 6 * j)) + 6)), (0, .ref (b)), (1, .ref (ad 0)), (2, .ref (ad 30))]) 3 dL_law_940 rfl rfl (by decide) rfl ?_
        refine x_goto C (tgt := 28) dL_law_943 (by decide) ?_
        have hit : nI (1 + 6 * j) + 6 = nI (1 + 6 * (j + 1)) := by rw [show 1 + 6 * (j + 1) = 1 + 6 * j + 6 by omega, nI_ad (1 + 6 * j) 6]; rfl
        refine x_sub [1, 2, 3, 0] (L1 := [(0, .ref (b)), (1, .ref (ad 0)), (2, .ref (ad 30)), (3, .int ((nI (1 + 6 * j)) + 6))]) rfl ?_
        rw [hit]
        refine x_widen (k := cz + 3) (n := sz + 28) (by show cz ≤ cz + 3; omega) (by show sz ≤ sz + 28; omega) ?_
        exact ih (j + 1) n t nk k d (cz + 3) (sz + 28) LL ad S (by omega) (by omega) (by omega) (by omega) hI hM C
