/-! methods that make cells -/
section XA
variable {p : Program} {l : Launch} {e : Env} {R : Room} {s : State} {m : MethodId} {args : Array Value} {below : List Frame} {meth : Method} {c : Code} {G : tf_G} {A : Nat → Prop} {LL : List Nat} {ad : Nat → Nat} {Q : State → Prop} {nL cells slots : Nat} {P : Nat → va_E} {cc : ByteArray} {own : String} {Ts : List Cond} {pc : Nat} {L : List (Nat × Value)} {st : List Value}
theorem Cx.to (C : Cx p s m args meth c cc nL own Ts G A LL ad) {LL1 : List Nat} {ad1 : Nat → Nat} {P1 : Nat → va_E} (h : va_D A (wl LL1 ad1 P1)) : Cx p s m args meth c cc nL own Ts G A LL1 ad1 := ⟨C.1, C.2.1, C.2.2.1, fun _ => wl_D h, C.2.2.2.2⟩
theorem x_obj (C : Cx p s m args meth c cc nL own Ts G A LL ad) {index j : Nat} (hlink : Cond.methodLink own index objectInit ∈ Ts) (hi : Cond.instanceMethod objectInit ∈ Ts) (hc : Cond.code objectInit ⟨#[0xb1]⟩ 1 none ∈ Ts) (hfr : 1 ≤ R.frames) (hloc : (st.map fun v => v.category).sum + 12 ≤ R.locals) (hdg : decode cc pc = .ok (.invokespecial index, 3)) (k : XJ p l e R s m args below meth c G A LL ad Q nL cells slots P (pc + 3) L (st)) : XJ p l e R s m args below meth c G A LL ad Q nL cells slots P (pc) L (.ref (ad j) :: st) := fun H locs ls hP hS hl => by
  refine W.objInit C.1.1 C.1.2.1 C.1.2.2.2.1 (C.1.2.2.2.2 _ hlink) (C.1.2.2.2.2 _ hi) (C.1.2.2.2.2 _ hc) rfl (hl.1.trans C.1.2.2.1.symm) rfl hdg hfr (by show 2 * 0 + _ + 12 ≤ _; omega) ?_
  exact k H locs ls hP hS hl
theorem x_new (C : Cx p s m args meth c cc nL own Ts G A LL ad) {Cn : String} {T : u_T} {N ci index : Nat} {fs : List Value} (j : Nat) (hin : ∀ w ∈ u_ws Cn T N, w ∈ Ts) (ty : Nat → FieldType) (hty : ∀ k, k < N → parseFieldDescriptor (T k).2.2.1 = some (ty k)) (hcl : Cond.classLink own index Cn ∈ Ts) (hinst : Cond.instantiable Cn N ∈ Ts) (hini : Cond.initialized Cn ∈ Ts) (hj : j ∉ LL) (hc : vwCl[ci]? = some (Cn, T, N)) (hfs : ∀ i, i < N → defaultValue (ty i) = vp_V fs i) (hcells : cells + 1 ≤ R.cells) (hslots : slots + N ≤ R.slots) (hdg : decode cc pc = .ok (.new index, 3)) (k : ∀ q : Nat, Cx p s m args meth c cc nL own Ts G A (LL ++ [j]) (tf_u ad j q) → XJ p l e R s m args below meth c G A (LL ++ [j]) (tf_u ad j q) Q nL (cells + 1) (slots + N) (tf_u P j (.inr (ci, fs))) (pc + 3) L (.ref (tf_u ad j q j) :: st)) : XJ p l e R s m args below meth c G A LL ad Q nL cells slots P (pc) L (st) := fun H locs ls hP hS hl => by
  refine va_new C.1.1 C.1.2.1 C.1.2.2.2.2 hin ty hty C.1.2.2.2.1 (C.1.2.2.2.2 _ hcl) (C.1.2.2.2.2 _ hinst) (C.1.2.2.2.2 _ hini) C.2.2.1.1 hP (C.2.2.2.1 P) hS C.2.2.2.2 hc hfs hcells hslots hdg (fun q H1 hP1 hD1 hS1 => ?_)
  rw [wl_push _ hj] at hP1 hD1
  have h9 := k q (C.to hD1) H1 locs ls hP1 hS1 hl
  rwa [show tf_u ad j q j = q by simp [tf_u]] at h9
theorem x_newa (C : Cx p s m args meth c cc nL own Ts G A LL ad) {atype : ArrayType} {ty : FieldType} {t0 : Nat} {cA : ClassId} {n : Int32} {N' : Nat} {f : Nat → Int32} (j : Nat) (harr : Cond.arrayClass (newarray.typeOf atype) ∈ Ts) (hty : newarray.typeOf atype = ty) (ht : (tf_tys G.2.1)[t0]? = some (cA, ty)) (hj : j ∉ LL) (ha : ∀ cA : ClassId, vp_cell cA (N', .inl f) = arrV cA N' (fun _ => defaultValue ty)) (hn : ¬ n < 0) (hN : n.toNatClampNeg = N') (hbytes : N' * componentBytes ty ≤ 536870912) (hcells : cells + 1 ≤ R.cells) (hslots : slots + N' ≤ R.slots) (hdg : decode cc pc = .ok (.newarray atype, 2)) (k : ∀ q : Nat, Cx p s m args meth c cc nL own Ts G A (LL ++ [j]) (tf_u ad j q) → XJ p l e R s m args below meth c G A (LL ++ [j]) (tf_u ad j q) Q nL (cells + 1) (slots + N') (tf_u P j (.inl (cA, N', .inl f))) (pc + 2) L (.ref (tf_u ad j q j) :: st)) : XJ p l e R s m args below meth c G A LL ad Q nL cells slots P (pc) L (.int n :: st) := fun H locs ls hP hS hl => by
  refine va_newa C.1.1 C.1.2.1 (C.1.2.2.2.2 _ harr) hty C.2.2.1.1 hP (C.2.2.2.1 P) hS C.2.2.2.2 ha hn hN hbytes hcells hslots hdg (fun q cB H1 hK1 hP1 hD1 hS1 => ?_)
  have e1 := (hK1.2 (tf_tys G.2.1).length (cB, ty) (by simp)).2
  have e2 := (C.2.2.1.1.2 t0 (cA, ty) ht).2
  have hcc : cB = cA := by
    unfold va_RA at e1 e2
    cases ty with
    | object Cn =>
      obtain ⟨_, _, _, _, _, g1⟩ := e1
      obtain ⟨_, _, _, _, _, g2⟩ := e2
      exact Option.some.inj (g1.symm.trans g2)
    | _ => exact Option.some.inj (e1.symm.trans e2)
  subst hcc
  rw [wl_push _ hj] at hP1 hD1
  have h9 := k q (C.to hD1) H1 locs ls hP1 hS1 hl
  rwa [show tf_u ad j q j = q by simp [tf_u]] at h9
theorem x_newq (C : Cx p s m args meth c cc nL own Ts G A LL ad) {Cn : String} {index t0 : Nat} {cA : ClassId} {n : Int32} {N' : Nat} (j : Nat) (hcl : Cond.classLink own index Cn ∈ Ts) (hover : va_AO Cn s) (ht : (tf_tys G.2.1)[t0]? = some (cA, .object Cn)) (hj : j ∉ LL) (hn : ¬ n < 0) (hN : n.toNatClampNeg = N') (hbytes : N' * 4 ≤ 536870912) (hcells : cells + 1 ≤ R.cells) (hslots : slots + N' ≤ R.slots) (hdg : decode cc pc = .ok (.anewarray index, 3)) (k : ∀ q : Nat, Cx p s m args meth c cc nL own Ts G A (LL ++ [j]) (tf_u ad j q) → XJ p l e R s m args below meth c G A (LL ++ [j]) (tf_u ad j q) Q nL (cells + 1) (slots + N') (tf_u P j (.inl (cA, N', .inr (.inr (.inr (.inr (fun _ => none))))))) (pc + 3) L (.ref (tf_u ad j q j) :: st)) : XJ p l e R s m args below meth c G A LL ad Q nL cells slots P (pc) L (.int n :: st) := fun H locs ls hP hS hl => by
  refine va_newq C.1.1 C.1.2.1 C.1.2.2.2.1 (C.1.2.2.2.2 _ hcl) hover C.2.2.1.1 hP (C.2.2.2.1 P) hS C.2.2.2.2 hn hN hbytes hcells hslots hdg (fun q cB H1 hK1 hP1 hD1 hS1 => ?_)
  obtain ⟨_, _, _, _, _, g1⟩ := (hK1.2 (tf_tys G.2.1).length (cB, .object Cn) (by simp)).2
  obtain ⟨_, _, _, _, _, g2⟩ := (C.2.2.1.1.2 t0 (cA, .object Cn) ht).2
  have hcc : cB = cA := Option.some.inj (g1.symm.trans g2)
  subst hcc
  rw [wl_push _ hj] at hP1 hD1
  have h9 := k q (C.to hD1) H1 locs ls hP1 hS1 hl
  rwa [show tf_u ad j q j = q by simp [tf_u]] at h9
def tf_BA (G : tf_G) (A : Nat → Prop) (LL : List Nat) (u : (Nat → Nat) × (Nat → va_E)) (t : State) : Prop := va_P G.1 vwCl (wl LL u.1 u.2) t.heap ∧ va_D A (wl LL u.1 u.2)
variable {y : MethodName} {ws ws' : List Cond} {rm : Room} {maxL : Nat} {ret : Option FieldType} {bytes : ByteArray} {n index : Nat} {Cn host : String} {T : u_T} {N ci : Nat} {fs : List Value} {av As st0 : List Value} {LL1 : List Nat}
def Dv (l : Launch) (y : MethodName) (ws : List Cond) (rm : Room) (G : tf_G) (LL : List Nat) (ad : Nat → Nat) (P : Nat → va_E) (av : List Value) (LL1 : List Nat) (post : (Nat → Nat) × (Nat → va_E) → Prop) : Prop := ∀ sz : Nat, Met l y ws rm (va_Pc av (tf_P G LL ad P sz)) (va_Qv post (tf_BA G (va_A (wl LL ad P) sz) LL1) (va_A (wl LL ad P) sz)) rm.cells rm.slots (va_A (wl LL ad P) sz)
theorem dv_of {post : (Nat → Nat) × (Nat → va_E) → Prop} (hy : plainName y.cls = true) (hw : ws = Cond.code y cc maxL ret :: ws') (hfit : (lg_sl av).length ≤ maxL) (body : ∀ (p : Program) (e : Env) (s : State) (m : MethodId) (args : Array Value) (below : List Frame) (meth : Method) (c : Code) (A : Nat → Prop), Cx p s m args meth c cc maxL y.cls ws G A LL ad → meth.sig.returnType = ret → meth.name = y.name → XJ p l e rm s m args below meth c G A LL ad (MQ below (va_Qv post (tf_BA G A LL1) A) args s rm.cells rm.slots A) maxL 0 0 P 0 (lv_args 0 av) []) : Dv l y ws rm G LL ad P av LL1 post := by
  intro sz
  refine Met.ofW (cc := cc) (maxL := maxL) (ret := ret) hy hw ?_
  intro p e s m args below meth c s₁ B hml hv
  obtain ⟨rfl, hsz, hP, hD0, hE⟩ := hv
  have hown : s.vm.findClass y.cls = some m.cls := findClass_of_methodNamed B.named
  subst hsz
  have hD : ∀ P', va_D (va_A (wl LL ad P) s.heap.size) (wl LL ad P') := fun P' => wl_self hD0
  have hA : ∀ q : Nat, s.heap.size ≤ q → va_A (wl LL ad P) s.heap.size q := fun q h => Or.inr h
  have hl := lv_entry av (n := maxL) hfit
  rw [lg_entry_eq]
  exact body p e s m av.toArray below meth c (va_A (wl LL ad P) s.heap.size) ⟨⟨B.exec, B.bytes, hml, hown, atoms_spec (ws := ws) B.pre⟩, B.notSynchronized, hE, hD, hA⟩ B.returns (name_of_methodNamed B.named B.method).1 s.heap [] _ hP va_S.rf hl
theorem x_I {post : (Nat → Nat) × (Nat → va_E) → Prop} (j : Nat) (C : Cx p s m args meth c cc nL own Ts G A LL ad) (hc : Dv l y ws rm G LL ad P (.ref (ad j) :: As) LL1 post) (hG : GoodIn Ts ws) (hw : ws = Cond.code y bytes maxL none :: ws') (hini : Cond.initialized y.cls ∈ Ts) (hlink : Cond.methodLink own index y ∈ Ts) (hins : Cond.instanceMethod y ∈ Ts) (hy1 : y.name = "<init>") (hd : y.cls ≠ "java/lang/invoke/MethodHandle" ∧ y.cls ≠ "java/lang/invoke/VarHandle" ∧ (parseMethodDescriptor y.desc).map (fun d => d.parameters.length) = some n) (hR : rm.frames + 1 ≤ R.frames ∧ 8 + (maxL + 11) + rm.locals ≤ R.locals) (hrm : cells + rm.cells ≤ R.cells ∧ slots + rm.slots ≤ R.slots) (hn : As.length = n) (hcat : (st.map fun v => v.category).sum ≤ 8) (hst : st0 = As.reverse ++ .ref (ad j) :: st) (hdg : decode cc pc = .ok (.invokespecial index, 3)) (k : ∀ (ad1 : Nat → Nat) (P1 : Nat → va_E), post (ad1, P1) → Cx p s m args meth c cc nL own Ts G A LL1 ad1 → XJ p l e R s m args below meth c G A LL1 ad1 Q nL (cells + rm.cells) (slots + rm.slots) P1 (pc + 3) L (st)) : XJ p l e R s m args below meth c G A LL ad Q nL cells slots P (pc) L (st0) := fun H locs ls hP hS hl => by
  subst hst
  have hF := wl_A (C.2.2.2.1 P) C.2.2.2.2 hS.1
  refine va_callv (va_runI (As := As) (rest := st) C.1 (hc H.size) (cwI n C.1.2.2.2.2 hG hw rfl rfl (C.1.2.2.2.2 _ hini) (C.1.2.2.2.2 _ hlink) (C.1.2.2.2.2 _ hins) hy1 hd hR) ⟨tf_blind, fun U hU hW => ⟨rfl, tf_pre C hP hS hU hW⟩⟩ rfl hn hl.1 rfl (lv_room hcat) hdg hrm) hS (fun q _ h => hF q h) hF (fun u t H1 locs1 ht hvm hw1 hB hz1 hk1 hS1 => ?_)
  exact k u.1 u.2 hw1 (C.to (hB.2.weaken (fun _ q _ h => hF q.1 h))) H1 locs1 ls (by rw [← ht]; exact hB.1) hS1 hl
theorem x_VAv {post : (Nat → Nat) × (Nat → va_E) → Prop} (j : Nat) (C : Cx p s m args meth c cc nL own Ts G A LL ad) (hc : Dv l y ws rm G LL ad P (.ref (ad j) :: As) LL1 post) (hG : GoodIn Ts (wsV own index Cn y ws)) (hw : ws = Cond.code y bytes maxL ret :: ws') (hd : y.cls = Cn ∧ y.cls ≠ "java/lang/invoke/MethodHandle" ∧ y.cls ≠ "java/lang/invoke/VarHandle" ∧ (parseMethodDescriptor y.desc).map (fun d => d.parameters.length) = some n) (hR : rm.frames + 1 ≤ R.frames ∧ 8 + (maxL + 11) + rm.locals ≤ R.locals) (hrm : cells + rm.cells ≤ R.cells ∧ slots + rm.slots ≤ R.slots) (hm : j ∈ LL) (hO : P j = .inr (ci, fs)) (hcl : vwCl[ci]? = some (Cn, T, N)) (hn : As.length = n) (hcat : (st.map fun v => v.category).sum ≤ 8) (hst : st0 = As.reverse ++ .ref (ad j) :: st) (hdg : decode cc pc = .ok (.invokevirtual index, 3)) (k : ∀ (ad1 : Nat → Nat) (P1 : Nat → va_E), post (ad1, P1) → Cx p s m args meth c cc nL own Ts G A LL1 ad1 → XJ p l e R s m args below meth c G A LL1 ad1 Q nL (cells + rm.cells) (slots + rm.slots) P1 (pc + 3) L (st)) : XJ p l e R s m args below meth c G A LL ad Q nL cells slots P (pc) L (st0) := fun H locs ls hP hS hl => by
  subst hst
  obtain ⟨q, -, hq⟩ := wl_get (ad := ad) (P := P) hm
  rw [hO] at hq
  have hF := wl_A (C.2.2.2.1 P) C.2.2.2.2 hS.1
  refine va_callv (va_runV (As := As) (rest := st) C.1 (hc H.size) (cwV n C.1.2.2.2.2 hG hw rfl rfl hd hR) ⟨tf_blind, va_recv C.2.2.1.1 hP hcl hq, fun U hU hW => ⟨rfl, tf_pre C hP hS hU hW⟩⟩ rfl hn hl.1 rfl (lv_room hcat) hdg hrm) hS (fun q _ h => hF q h) hF (fun u t H1 locs1 ht hvm hw1 hB hz1 hk1 hS1 => ?_)
  exact k u.1 u.2 hw1 (C.to (hB.2.weaken (fun _ q _ h => hF q.1 h))) H1 locs1 ls (by rw [← ht]; exact hB.1) hS1 hl
def Di (l : Launch) (y : MethodName) (ws : List Cond) (rm : Room) (G : tf_G) (LL : List Nat) (ad : Nat → Nat) (P : Nat → va_E) (av : List Value) (LL1 : List Nat) (post : Int32 → (Nat → Nat) × (Nat → va_E) → Prop) : Prop := ∀ sz : Nat, Met l y ws rm (va_Pc av (tf_P G LL ad P sz)) (va_Qi post (tf_BA G (va_A (wl LL ad P) sz) LL1) (va_A (wl LL ad P) sz)) rm.cells rm.slots (va_A (wl LL ad P) sz)
theorem di_of {post : Int32 → (Nat → Nat) × (Nat → va_E) → Prop} (hy : plainName y.cls = true) (hw : ws = Cond.code y cc maxL ret :: ws') (hfit : (lg_sl av).length ≤ maxL) (body : ∀ (p : Program) (e : Env) (s : State) (m : MethodId) (args : Array Value) (below : List Frame) (meth : Method) (c : Code) (A : Nat → Prop), Cx p s m args meth c cc maxL y.cls ws G A LL ad → meth.sig.returnType = ret → meth.name = y.name → XJ p l e rm s m args below meth c G A LL ad (MQ below (va_Qi post (tf_BA G A LL1) A) args s rm.cells rm.slots A) maxL 0 0 P 0 (lv_args 0 av) []) : Di l y ws rm G LL ad P av LL1 post := by
  intro sz
  refine Met.ofW (cc := cc) (maxL := maxL) (ret := ret) hy hw ?_
  intro p e s m args below meth c s₁ B hml hv
  obtain ⟨rfl, hsz, hP, hD0, hE⟩ := hv
  have hown : s.vm.findClass y.cls = some m.cls := findClass_of_methodNamed B.named
  subst hsz
  have hD : ∀ P', va_D (va_A (wl LL ad P) s.heap.size) (wl LL ad P') := fun P' => wl_self hD0
  have hA : ∀ q : Nat, s.heap.size ≤ q → va_A (wl LL ad P) s.heap.size q := fun q h => Or.inr h
  have hl := lv_entry av (n := maxL) hfit
  rw [lg_entry_eq]
  exact body p e s m av.toArray below meth c (va_A (wl LL ad P) s.heap.size) ⟨⟨B.exec, B.bytes, hml, hown, atoms_spec (ws := ws) B.pre⟩, B.notSynchronized, hE, hD, hA⟩ B.returns (name_of_methodNamed B.named B.method).1 s.heap [] _ hP va_S.rf hl
theorem x_VAi {post : Int32 → (Nat → Nat) × (Nat → va_E) → Prop} (j : Nat) (C : Cx p s m args meth c cc nL own Ts G A LL ad) (hc : Di l y ws rm G LL ad P (.ref (ad j) :: As) LL1 post) (hG : GoodIn Ts (wsV own index Cn y ws)) (hw : ws = Cond.code y bytes maxL ret :: ws') (hd : y.cls = Cn ∧ y.cls ≠ "java/lang/invoke/MethodHandle" ∧ y.cls ≠ "java/lang/invoke/VarHandle" ∧ (parseMethodDescriptor y.desc).map (fun d => d.parameters.length) = some n) (hR : rm.frames + 1 ≤ R.frames ∧ 8 + (maxL + 11) + rm.locals ≤ R.locals) (hrm : cells + rm.cells ≤ R.cells ∧ slots + rm.slots ≤ R.slots) (hm : j ∈ LL) (hO : P j = .inr (ci, fs)) (hcl : vwCl[ci]? = some (Cn, T, N)) (hn : As.length = n) (hcat : (st.map fun v => v.category).sum ≤ 8) (hst : st0 = As.reverse ++ .ref (ad j) :: st) (hdg : decode cc pc = .ok (.invokevirtual index, 3)) (k : ∀ (r : Int32) (ad1 : Nat → Nat) (P1 : Nat → va_E), post r (ad1, P1) → Cx p s m args meth c cc nL own Ts G A LL1 ad1 → XJ p l e R s m args below meth c G A LL1 ad1 Q nL (cells + rm.cells) (slots + rm.slots) P1 (pc + 3) L (.int r :: st)) : XJ p l e R s m args below meth c G A LL ad Q nL cells slots P (pc) L (st0) := fun H locs ls hP hS hl => by
  subst hst
  obtain ⟨q, -, hq⟩ := wl_get (ad := ad) (P := P) hm
  rw [hO] at hq
  have hF := wl_A (C.2.2.2.1 P) C.2.2.2.2 hS.1
  refine va_calli (va_runV (As := As) (rest := st) C.1 (hc H.size) (cwV n C.1.2.2.2.2 hG hw rfl rfl hd hR) ⟨tf_blind, va_recv C.2.2.1.1 hP hcl hq, fun U hU hW => ⟨rfl, tf_pre C hP hS hU hW⟩⟩ rfl hn hl.1 rfl (lv_room hcat) hdg hrm) hS (fun q _ h => hF q h) hF (fun r u t H1 locs1 ht hvm hw1 hB hz1 hk1 hS1 => ?_)
  exact k r u.1 u.2 hw1 (C.to (hB.2.weaken (fun _ q _ h => hF q.1 h))) H1 locs1 ls (by rw [← ht]; exact hB.1) hS1 hl
theorem x_vretA {post : (Nat → Nat) × (Nat → va_E) → Prop} (C : Cx p s m args meth c cc nL own Ts G A LL ad) (hr : meth.sig.returnType = none) (hq : post (ad, P)) (hdg : decode cc pc = .ok (.return_, 1)) : XJ p l e R s m args below meth c G A LL ad (MQ below (va_Qv post (tf_BA G A LL) A) args s cells slots A) nL cells slots P pc L [] := fun H locs ls hP hS hl => by
  exact W.vret C.1.1 C.1.2.1 hr (fun t ht hW => ⟨⟨(ad, P), rfl, hq, ⟨by rw [ht]; exact hP, C.2.2.2.1 P⟩⟩, hS.F ht⟩) hS.2.2 hdg C.2.1
theorem x_iretA {post : Int32 → (Nat → Nat) × (Nat → va_E) → Prop} (C : Cx p s m args meth c cc nL own Ts G A LL ad) {r : Int32} (hr : meth.sig.returnType = some .int) (hq : post r (ad, P)) (hdg : decode cc pc = .ok (.ireturn, 1)) : XJ p l e R s m args below meth c G A LL ad (MQ below (va_Qi post (tf_BA G A LL) A) args s cells slots A) nL cells slots P pc L [.int r] := fun H locs ls hP hS hl => by
  exact W.iret (v := r) C.1.1 C.1.2.1 hr (fun t ht hW => ⟨⟨r, (ad, P), rfl, hq, ⟨by rw [ht]; exact hP, C.2.2.2.1 P⟩⟩, hS.F ht⟩) hS.2.2 hdg C.2.1
theorem x_widen {k n : Nat} (h1 : cells ≤ k) (h2 : slots ≤ n) (kk : XJ p l e R s m args below meth c G A LL ad Q nL k n P (pc) L (st)) : XJ p l e R s m args below meth c G A LL ad Q nL cells slots P (pc) L (st) := fun H locs ls hP hS hl => W.widen h1 h2 (kk H locs ls hP hS hl)
/-- cells no longer spoken of -/
theorem x_drop {LLx : List Nat} (C : Cx p s m args meth c cc nL own Ts G A (LL ++ LLx) ad) {ad1 : Nat → Nat} {P1 : Nat → va_E} (h : ∀ j ∈ LL, ad1 j = ad j ∧ P1 j = P j) (k : Cx p s m args meth c cc nL own Ts G A LL ad1 → XJ p l e R s m args below meth c G A LL ad1 Q nL cells slots P1 (pc) L (st)) : XJ p l e R s m args below meth c G A (LL ++ LLx) ad Q nL cells slots P (pc) L (st) := fun H locs ls hP hS hl => by
  have e1 : wl LL ad1 P1 = wl LL ad P := wl_congr h
  have key : ∀ (i : Nat) (q : Nat × va_E), (wl LL ad P)[i]? = some q → (wl (LL ++ LLx) ad P)[i]? = some q := by
    intro i q hq
    have hi : i < (wl LL ad P).length := (List.getElem?_eq_some_iff.mp hq).1
    unfold wl at hq hi ⊢
    rw [List.map_append, List.getElem?_append_left hi]
    exact hq
  have hP1 : va_P G.1 vwCl (wl LL ad1 P1) H := by rw [e1]; exact fun i q hq => hP i q (key i q hq)
  have hD1 : va_D A (wl LL ad1 P1) := by
    rw [e1]
    exact ⟨fun i i2 x y hx hy hxy => (C.2.2.2.1 P).1 i i2 x y (key i x hx) (key i2 y hy) hxy, fun i q hq => (C.2.2.2.1 P).2 i q (key i q hq)⟩
  exact k (C.to hD1) H locs ls hP1 hS hl
end XA
