/-! the law's own rows: the script -/
section XL
variable {p : Program} {l : Launch} {e : Env} {R : Room} {s : State} {m : MethodId} {args : Array Value} {below : List Frame} {meth : Method} {c : Code} {G : tf_G} {A : Nat → Prop} {LL : List Nat} {ad : Nat → Nat} {Q : State → Prop} {nL cells slots : Nat} {P : Nat → va_E} {cc : ByteArray} {own : String} {Ts : List Cond} {pc : Nat} {L : List (Nat × Value)} {st : List Value}
theorem x_sld (C : Cx p s m args meth c cc nL own Ts G A LL ad) {b Ls : Nat} {xs : Nat → Int32} (hX : va_X b Ls xs s s.heap) (hbl : b < s.heap.size) (hbA : ¬ A b) {i : Int32} {kk : Nat} (hin : vp_in i Ls) (hkk : i.toNatClampNeg = kk) (hdg : decode cc pc = .ok (.iaload, 1)) (k : XJ p l e R s m args below meth c G A LL ad Q nL cells slots P (pc + 1) L (.int (xs kk) :: st)) : XJ p l e R s m args below meth c G A LL ad Q nL cells slots P (pc) L (.int i :: .ref b :: st) := fun H locs ls hP hS hl => va_sld C.1.1 C.1.2.1 hX hbl hbA hS hin hdg (by rw [hkk]; exact k H locs ls hP hS hl)
theorem x_slen (C : Cx p s m args meth c cc nL own Ts G A LL ad) {b Ls : Nat} {xs : Nat → Int32} (hX : va_X b Ls xs s s.heap) (hbl : b < s.heap.size) (hbA : ¬ A b) (hdg : decode cc pc = .ok (.arraylength, 1)) (k : XJ p l e R s m args below meth c G A LL ad Q nL cells slots P (pc + 1) L (.int (nI Ls) :: st)) : XJ p l e R s m args below meth c G A LL ad Q nL cells slots P (pc) L (.ref b :: st) := fun H locs ls hP hS hl => va_slen C.1.1 C.1.2.1 hX hbl hbA hS hdg (k H locs ls hP hS hl)
end XL
def law_P0 : Nat → va_E := fun _ => .inr (0, [])
set_option maxHeartbeats 4000000 in
set_option maxRecDepth 100000 in
theorem k_L_cell (l : Launch) (G : tf_G) (b Ls : Nat) (xs : Nat → Int32) (hLs : Ls < 2 ^ 31) (x : Int32) (hx0 : (if 0 < Ls then xs 0 else 0) = x) (sz : Nat) : Met l yL_cell wsL_cell ({ frames := 0, cells := 0, slots := 0, locals := 0 } : Room) (va_Pc [.ref b, .int 0] (fun U => U.heap.size = sz ∧ b < sz ∧ va_X b Ls xs U U.heap ∧ tf_E G (fun q => sz ≤ q) U U.heap)) (va_Qi (fun (r : Int32) (_ : Unit) => r = x) (tf_B G [] (fun _ => 0) (fun (_ : Unit) => law_P0)) (fun q => sz ≤ q)) 0 0 (fun q => sz ≤ q) := by
  refine Met.ofW (cc := cL_cell) (maxL := 2) (ret := some .int) (by decide +kernel) rfl ?_
  intro pv ev sv mv args below meth cv s₁ B hml hv
  obtain ⟨rfl, hsz, hbs, hX, hE⟩ := hv
  have hown : sv.vm.findClass yL_cell.cls = some mv.cls := findClass_of_methodNamed B.named
  subst hsz
  have hl := lv_entry [.ref b, .int 0] (n := 2) (Nat.le_of_ble_eq_true rfl)
  rw [lg_entry_eq]
  have hrt9 := B.returns
  have hbA : ¬ (fun q => sv.heap.size ≤ q) b := Nat.not_le.mpr hbs
  have C : Cx pv sv mv [Value.ref b, .int 0].toArray meth cv cL_cell 2 RL wsL_cell G (fun q => sv.heap.size ≤ q) [] (fun _ => 0) := ⟨⟨B.exec, B.bytes, hml, hown, atoms_spec (ws := wsL_cell) B.pre⟩, B.notSynchronized, hE, fun P => ⟨fun i j x y h => by simp [wl] at h, fun k q h => by simp [wl] at h⟩, fun q h => h⟩
  have key : XJ pv l ev ({ frames := 0, cells := 0, slots := 0, locals := 0 } : Room) sv mv [Value.ref b, .int 0].toArray below meth cv G (fun q => sv.heap.size ≤ q) [] (fun _ => 0) (MQ below (va_Qi (fun (r : Int32) (_ : Unit) => r = x) (tf_B G [] (fun _ => 0) (fun (_ : Unit) => law_P0)) (fun q => sv.heap.size ≤ q)) [Value.ref b, .int 0].toArray sv 0 0 (fun q => sv.heap.size ≤ q)) 2 0 0 law_P0 0 [(0, .ref b), (1, .int 0)] [] := by
    refine x_iload_n C 1 dL_cell_0 rfl rfl ?_
    refine x_aload_n C 0 dL_cell_1 rfl rfl ?_
    refine x_slen C hX hbs hbA dL_cell_2 ?_
    refine x_icmp_ge C (tgt := 12) dL_cell_3 (by decide) (fun c3 => ?_) (fun c3 => ?_)
    · refine x_iconst C dL_cell_12 (v := 0) (by decide) ?_
      refine x_iret C hrt9 () ?_ rfl dL_cell_13
      rw [if_neg (fun h => absurd c3 (nI_nle h hLs))] at hx0
      exact hx0
    · refine x_aload_n C 0 dL_cell_6 rfl rfl ?_
      refine x_iload_n C 1 dL_cell_7 rfl rfl ?_
      have h0 : 0 < Ls := Nat.pos_of_ne_zero fun h => c3 (by rw [h]; decide)
      refine x_sld C hX hbs hbA (kk := 0) (nI_in (c := 0) h0 hLs) rfl dL_cell_8 ?_
      refine x_goto C (tgt := 13) dL_cell_9 (by decide) ?_
      refine x_iret C hrt9 () ?_ rfl dL_cell_13
      rw [if_pos h0] at hx0
      exact hx0
  exact key sv.heap [] _ (fun k q h => by simp [wl] at h) va_S.rf hl
section XL2
variable {p : Program} {l : Launch} {e : Env} {R : Room} {s : State} {m : MethodId} {args : Array Value} {below : List Frame} {meth : Method} {c : Code} {G : tf_G} {A : Nat → Prop} {LL : List Nat} {ad : Nat → Nat} {Q : State → Prop} {nL cells slots : Nat} {P : Nat → va_E} {cc : ByteArray} {own : String} {Ts : List Cond} {pc : Nat} {L : List (Nat × Value)} {st : List Value}
theorem x_cell (C : Cx p s m args meth c cc nL own Ts G A LL ad) {b Ls : Nat} {xs : Nat → Int32} (hX : va_X b Ls xs s s.heap) (hbl : b < s.heap.size) (hbA : ¬ A b) (hLs : Ls < 2 ^ 31) {index : Nat} {x : Int32} (hx0 : (if 0 < Ls then xs 0 else 0) = x) (hG : GoodIn Ts (va_wsS own index yL_cell wsL_cell)) (hR : 1 ≤ R.frames ∧ 8 + (2 + 11) + 0 ≤ R.locals) (hrm : cells ≤ R.cells ∧ slots ≤ R.slots) (hcat : (st.map fun v => v.category).sum ≤ 8) (hdg : decode cc pc = .ok (.invokestatic index, 3)) (k : XJ p l e R s m args below meth c G A LL ad Q nL cells slots P (pc + 3) L (.int x :: st)) : XJ p l e R s m args below meth c G A LL ad Q nL cells slots P (pc) L (.int 0 :: .ref b :: st) := fun H locs ls hP hS hl => by
  have hF : ∀ q, (fun q => H.size ≤ q) q → A q := fun q h => C.2.2.2.2 q (Nat.le_trans hS.1 h)
  have hbH : b < H.size := Nat.lt_of_lt_of_le hbl hS.1
  refine va_calli (va_runS (As := [.ref b, .int 0]) (rest := st) C.1 (k_L_cell l G b Ls xs hLs x hx0 H.size) (va_cwS 2 C.1.2.2.2.2 hG rfl rfl rfl (by decide +kernel) hR) ⟨fun a U g mk q => ?_, fun U hU hW => ⟨rfl, ?_⟩⟩ rfl rfl hl.1 rfl (lv_room hcat) hdg hrm) hS (fun q _ h => hF q h) hF (fun r u t H1 locs1 ht hvm hw1 hB hz1 hk1 hS1 => ?_)
  · obtain ⟨q0, q1, q2, q3, q4⟩ := q
    exact ⟨q0, q1, q2, va_X.moved (Vm.Alike.refl _) q3, q4.same rfl⟩
  · have hp := (tf_pre C hP hS hU hW).2.2.2
    refine ⟨by rw [hU], hbH, ?_, hp.narrow fun q h => Or.inr h⟩
    rw [hU]
    exact va_X.moved hW.alike (hX.kept (hS.2.1 b hbl hbA))
  · rw [hw1]
    exact k H1 locs1 ls (hP.kept fun k x hx => hk1 _ ((hP k x hx).lt) (Nat.not_le.mpr ((hP k x hx).lt))) hS1 hl
end XL2
