/-! making cells, with facts -/
section XF
variable {p : Program} {l : Launch} {e : Env} {R : Room} {s : State} {m : MethodId} {args : Array Value} {below : List Frame} {meth : Method} {c : Code} {G : tf_G} {A : Nat → Prop} {LL : List Nat} {ad : Nat → Nat} {Q : State → Prop} {nL cells slots : Nat} {P : Nat → va_E} {cc : ByteArray} {own : String} {Ts : List Cond} {pc : Nat} {L : List (Nat × Value)} {st : List Value}
theorem x_newF (C : Cx p s m args meth c cc nL own Ts G A LL ad) {Cn : String} {T : u_T} {N ci index : Nat} {fs : List Value} (j : Nat) (hin : ∀ w ∈ u_ws Cn T N, w ∈ Ts) (ty : Nat → FieldType) (hty : ∀ k, k < N → parseFieldDescriptor (T k).2.2.1 = some (ty k)) (hcl : Cond.classLink own index Cn ∈ Ts) (hinst : Cond.instantiable Cn N ∈ Ts) (hini : Cond.initialized Cn ∈ Ts) (hj : j ∉ LL) (hc : vwCl[ci]? = some (Cn, T, N)) (hfs : ∀ i, i < N → defaultValue (ty i) = vp_V fs i) (hcells : cells + 1 ≤ R.cells) (hslots : slots + N ≤ R.slots) (hdg : decode cc pc = .ok (.new index, 3)) (k : ∀ (ad1 : Nat → Nat) (P1 : Nat → va_E), (∀ i, i ≠ j → ad1 i = ad i) → (∀ i, i ≠ j → P1 i = P i) → P1 j = .inr (ci, fs) → Cx p s m args meth c cc nL own Ts G A (LL ++ [j]) ad1 → XJ p l e R s m args below meth c G A (LL ++ [j]) ad1 Q nL (cells + 1) (slots + N) P1 (pc + 3) L (.ref (ad1 j) :: st)) : XJ p l e R s m args below meth c G A LL ad Q nL cells slots P (pc) L (st) := x_new C j hin ty hty hcl hinst hini hj hc hfs hcells hslots hdg (fun q C1 => k _ _ (fun i hi => by simp [tf_u, hi]) (fun i hi => by simp [tf_u, hi]) (by simp [tf_u]) C1)
theorem x_newaF (C : Cx p s m args meth c cc nL own Ts G A LL ad) {atype : ArrayType} {ty : FieldType} {t0 : Nat} {cA : ClassId} {n : Int32} {N' : Nat} {f : Nat → Int32} (j : Nat) (harr : Cond.arrayClass (newarray.typeOf atype) ∈ Ts) (hty : newarray.typeOf atype = ty) (ht : (tf_tys G.2.1)[t0]? = some (cA, ty)) (hj : j ∉ LL) (ha : ∀ cA : ClassId, vp_cell cA (N', .inl f) = arrV cA N' (fun _ => defaultValue ty)) (hn : ¬ n < 0) (hN : n.toNatClampNeg = N') (hbytes : N' * componentBytes ty ≤ 536870912) (hcells : cells + 1 ≤ R.cells) (hslots : slots + N' ≤ R.slots) (hdg : decode cc pc = .ok (.newarray atype, 2)) (k : ∀ (ad1 : Nat → Nat) (P1 : Nat → va_E), (∀ i, i ≠ j → ad1 i = ad i) → (∀ i, i ≠ j → P1 i = P i) → P1 j = .inl (cA, N', .inl f) → Cx p s m args meth c cc nL own Ts G A (LL ++ [j]) ad1 → XJ p l e R s m args below meth c G A (LL ++ [j]) ad1 Q nL (cells + 1) (slots + N') P1 (pc + 2) L (.ref (ad1 j) :: st)) : XJ p l e R s m args below meth c G A LL ad Q nL cells slots P (pc) L (.int n :: st) := x_newa C j harr hty ht hj ha hn hN hbytes hcells hslots hdg (fun q C1 => k _ _ (fun i hi => by simp [tf_u, hi]) (fun i hi => by simp [tf_u, hi]) (by simp [tf_u]) C1)
theorem x_newqF (C : Cx p s m args meth c cc nL own Ts G A LL ad) {Cn : String} {index t0 : Nat} {cA : ClassId} {n : Int32} {N' : Nat} (j : Nat) (hcl : Cond.classLink own index Cn ∈ Ts) (hover : va_AO Cn s) (ht : (tf_tys G.2.1)[t0]? = some (cA, .object Cn)) (hj : j ∉ LL) (hn : ¬ n < 0) (hN : n.toNatClampNeg = N') (hbytes : N' * 4 ≤ 536870912) (hcells : cells + 1 ≤ R.cells) (hslots : slots + N' ≤ R.slots) (hdg : decode cc pc = .ok (.anewarray index, 3)) (k : ∀ (ad1 : Nat → Nat) (P1 : Nat → va_E), (∀ i, i ≠ j → ad1 i = ad i) → (∀ i, i ≠ j → P1 i = P i) → P1 j = .inl (cA, N', .inr (.inr (.inr (.inr (fun _ => none))))) → Cx p s m args meth c cc nL own Ts G A (LL ++ [j]) ad1 → XJ p l e R s m args below meth c G A (LL ++ [j]) ad1 Q nL (cells + 1) (slots + N') P1 (pc + 3) L (.ref (ad1 j) :: st)) : XJ p l e R s m args below meth c G A LL ad Q nL cells slots P (pc) L (.int n :: st) := x_newq C j hcl hover ht hj hn hN hbytes hcells hslots hdg (fun q C1 => k _ _ (fun i hi => by simp [tf_u, hi]) (fun i hi => by simp [tf_u, hi]) (by simp [tf_u]) C1)
theorem x_putG (C : Cx p s m args meth c cc nL own Ts G A LL ad) {ref Cn : String} {T : u_T} {N ci index : Nat} {fs : List Value} {v : Value} {ty : FieldType} (j k0 : Nat) (hin : ∀ w ∈ u_ws Cn T N, w ∈ Ts) (ty0 : Nat → FieldType) (hty : ∀ k, k < N → parseFieldDescriptor (T k).2.2.1 = some (ty0 k)) (hnm : ∀ a, a < N → ∀ b, b < N → a ≠ b → (T a).2.1 ≠ (T b).2.1) (hm : j ∈ LL) (hO : P j = .inr (ci, fs)) (hc : vwCl[ci]? = some (Cn, T, N)) (hk : k0 < N) (hlink : Cond.fieldLink own index ref (T k0).2.1 (T k0).2.2.1 ∈ Ts) (href : (T k0).1 = ref) (hfin : (T k0).2.2.2 = false) (hd : parseFieldDescriptor (T k0).2.2.1 = some ty) (hn : narrow ty v = v) (hfit : fits ty v = true) (hl0 : k0 < fs.length) (hdg : decode cc pc = .ok (.putfield index, 3)) (k : ∀ P1 : Nat → va_E, (∀ i, i ≠ j → P1 i = P i) → P1 j = .inr (ci, fs.set k0 v) → XJ p l e R s m args below meth c G A LL ad Q nL cells slots P1 (pc + 3) L (st)) : XJ p l e R s m args below meth c G A LL ad Q nL cells slots P (pc) L (v :: .ref (ad j) :: st) := x_put C j k0 hin ty0 hty hnm hm hO hc hk hlink href hfin hd hn hfit hl0 hdg (k _ (fun i hi => by simp [tf_u, hi]) (by simp [tf_u]))
theorem x_putFG (C : Cx p s m args meth c cc nL own Ts G A LL ad) {ref Cn : String} {T : u_T} {N ci index : Nat} {fs : List Value} {v : Value} {ty : FieldType} (j k0 : Nat) (hin : ∀ w ∈ u_ws Cn T N, w ∈ Ts) (ty0 : Nat → FieldType) (hty : ∀ k, k < N → parseFieldDescriptor (T k).2.2.1 = some (ty0 k)) (hnm : ∀ a, a < N → ∀ b, b < N → a ≠ b → (T a).2.1 ≠ (T b).2.1) (hm : j ∈ LL) (hO : P j = .inr (ci, fs)) (hc : vwCl[ci]? = some (Cn, T, N)) (hk : k0 < N) (hlink : Cond.fieldLink own index ref (T k0).2.1 (T k0).2.2.1 ∈ Ts) (href : (T k0).1 = ref) (hfin : (T k0).2.2.2 = true) (hin0 : meth.name = "<init>") (hown0 : (T k0).1 = own) (hd : parseFieldDescriptor (T k0).2.2.1 = some ty) (hn : narrow ty v = v) (hfit : fits ty v = true) (hl0 : k0 < fs.length) (hdg : decode cc pc = .ok (.putfield index, 3)) (k : ∀ P1 : Nat → va_E, (∀ i, i ≠ j → P1 i = P i) → P1 j = .inr (ci, fs.set k0 v) → XJ p l e R s m args below meth c G A LL ad Q nL cells slots P1 (pc + 3) L (st)) : XJ p l e R s m args below meth c G A LL ad Q nL cells slots P (pc) L (v :: .ref (ad j) :: st) := x_putF C j k0 hin ty0 hty hnm hm hO hc hk hlink href hfin hin0 hown0 hd hn hfit hl0 hdg (k _ (fun i hi => by simp [tf_u, hi]) (by simp [tf_u]))
theorem x_iastG (C : Cx p s m args meth c cc nL own Ts G A LL ad) {n : Nat} {f : Nat → Int32} {i x : Int32} (j : Nat) (hm : j ∈ LL) (hO : P j = .inl (G.2.1 0, n, .inl f)) (hin : vp_in i n) (hdg : decode cc pc = .ok (.iastore, 1)) (k : ∀ P1 : Nat → va_E, (∀ i, i ≠ j → P1 i = P i) → P1 j = .inl (G.2.1 0, n, .inl (upd f i.toNatClampNeg x)) → XJ p l e R s m args below meth c G A LL ad Q nL cells slots P1 (pc + 1) L (st)) : XJ p l e R s m args below meth c G A LL ad Q nL cells slots P (pc) L (.int x :: .int i :: .ref (ad j) :: st) := x_iast C j hm hO hin hdg (k _ (fun i hi => by simp [tf_u, hi]) (by simp [tf_u]))
/-- another name of the same pool -/
theorem x_same (C : Cx p s m args meth c cc nL own Ts G A LL ad) {ad1 : Nat → Nat} {P1 : Nat → va_E} (h : ∀ j ∈ LL, ad1 j = ad j ∧ P1 j = P j) (k : Cx p s m args meth c cc nL own Ts G A LL ad1 → XJ p l e R s m args below meth c G A LL ad1 Q nL cells slots P1 (pc) L (st)) : XJ p l e R s m args below meth c G A LL ad Q nL cells slots P (pc) L (st) := fun H locs ls hP hS hl => by
  have e1 : wl LL ad1 P1 = wl LL ad P := wl_congr h
  exact k (C.to (by rw [e1]; exact C.2.2.2.1 P)) H locs ls (by rw [e1]; exact hP) hS hl
end XF
theorem df0 : ∀ i, i < 9 → defaultValue (tyX0 i) = vp_V [.int 0, .null, .null, .null, .null, .null, .int 0, .int 0, .int 0] i := fun i hi => by
  rcases (show i = 0 ∨ i = 1 ∨ i = 2 ∨ i = 3 ∨ i = 4 ∨ i = 5 ∨ i = 6 ∨ i = 7 ∨ i = 8 by omega) with rfl | rfl | rfl | rfl | rfl | rfl | rfl | rfl | rfl <;> rfl
theorem df1 : ∀ i, i < 3 → defaultValue (tyX1 i) = vp_V [.null, .null, .int 0] i := fun i hi => by
  rcases (show i = 0 ∨ i = 1 ∨ i = 2 by omega) with rfl | rfl | rfl <;> rfl
theorem df2 : ∀ i, i < 4 → defaultValue (tyX2 i) = vp_V [.null, .null, .null, .int 0] i := fun i hi => by
  rcases (show i = 0 ∨ i = 1 ∨ i = 2 ∨ i = 3 by omega) with rfl | rfl | rfl | rfl <;> rfl
theorem df3 : ∀ i, i < 3 → defaultValue (tyX3 i) = vp_V [.null, .null, .int 0] i := fun i hi => by
  rcases (show i = 0 ∨ i = 1 ∨ i = 2 by omega) with rfl | rfl | rfl <;> rfl
theorem df4 : ∀ i, i < 5 → defaultValue (tyX4 i) = vp_V [.null, .int 0, .int 0, .int 0, .int 0] i := fun i hi => by
  rcases (show i = 0 ∨ i = 1 ∨ i = 2 ∨ i = 3 ∨ i = 4 by omega) with rfl | rfl | rfl | rfl | rfl <;> rfl
theorem df5 : ∀ i, i < 6 → defaultValue (tyX5 i) = vp_V [.null, .null, .null, .null, .int 0, .int 0] i := fun i hi => by
  rcases (show i = 0 ∨ i = 1 ∨ i = 2 ∨ i = 3 ∨ i = 4 ∨ i = 5 by omega) with rfl | rfl | rfl | rfl | rfl | rfl <;> rfl
theorem df6 : ∀ i, i < 12 → defaultValue (tyX6 i) = vp_V [.int 0, .int 0, .int 0, .int 0, .null, .null, .int 0, .int 0, .int 0, .int 0, .int 0, .int 0] i := fun i hi => by
  rcases (show i = 0 ∨ i = 1 ∨ i = 2 ∨ i = 3 ∨ i = 4 ∨ i = 5 ∨ i = 6 ∨ i = 7 ∨ i = 8 ∨ i = 9 ∨ i = 10 ∨ i = 11 by omega) with rfl | rfl | rfl | rfl | rfl | rfl | rfl | rfl | rfl | rfl | rfl | rfl <;> rfl
theorem df7 : ∀ i, i < 7 → defaultValue (tyX7 i) = vp_V [.int 0, .int 0, .null, .int 0, .int 0, .int 0, .int 0] i := fun i hi => by
  rcases (show i = 0 ∨ i = 1 ∨ i = 2 ∨ i = 3 ∨ i = 4 ∨ i = 5 ∨ i = 6 by omega) with rfl | rfl | rfl | rfl | rfl | rfl | rfl <;> rfl
theorem df8 : ∀ i, i < 2 → defaultValue (tyX8 i) = vp_V [.null, .int 0] i := fun i hi => by
  rcases (show i = 0 ∨ i = 1 by omega) with rfl | rfl <;> rfl
theorem df9 : ∀ i, i < 9 → defaultValue (tyX9 i) = vp_V [.null, .null, .null, .null, .null, .null, .null, .int 0, .int 0] i := fun i hi => by
  rcases (show i = 0 ∨ i = 1 ∨ i = 2 ∨ i = 3 ∨ i = 4 ∨ i = 5 ∨ i = 6 ∨ i = 7 ∨ i = 8 by omega) with rfl | rfl | rfl | rfl | rfl | rfl | rfl | rfl | rfl <;> rfl
theorem df10 : ∀ i, i < 45 → defaultValue (tyX10 i) = vp_V [.int 0, .null, .null, .int 0, .int 0, .int 0, .int 0, .int 0, .int 0, .null, .null, .null, .null, .null, .null, .null, .null, .null, .null, .null, .null, .null, .null, .null, .null, .null, .null, .null, .null, .int 0, .int 0, .int 0, .int 0, .int 0, .null, .null, .null, .null, .null, .int 0, .int 0, .null, .null, .null, .null] i := fun i hi => by
  rcases (show i = 0 ∨ i = 1 ∨ i = 2 ∨ i = 3 ∨ i = 4 ∨ i = 5 ∨ i = 6 ∨ i = 7 ∨ i = 8 ∨ i = 9 ∨ i = 10 ∨ i = 11 ∨ i = 12 ∨ i = 13 ∨ i = 14 ∨ i = 15 ∨ i = 16 ∨ i = 17 ∨ i = 18 ∨ i = 19 ∨ i = 20 ∨ i = 21 ∨ i = 22 ∨ i = 23 ∨ i = 24 ∨ i = 25 ∨ i = 26 ∨ i = 27 ∨ i = 28 ∨ i = 29 ∨ i = 30 ∨ i = 31 ∨ i = 32 ∨ i = 33 ∨ i = 34 ∨ i = 35 ∨ i = 36 ∨ i = 37 ∨ i = 38 ∨ i = 39 ∨ i = 40 ∨ i = 41 ∨ i = 42 ∨ i = 43 ∨ i = 44 by omega) with rfl | rfl | rfl | rfl | rfl | rfl | rfl | rfl | rfl | rfl | rfl | rfl | rfl | rfl | rfl | rfl | rfl | rfl | rfl | rfl | rfl | rfl | rfl | rfl | rfl | rfl | rfl | rfl | rfl | rfl | rfl | rfl | rfl | rfl | rfl | rfl | rfl | rfl | rfl | rfl | rfl | rfl | rfl | rfl | rfl <;> rfl
set_option maxHeartbeats 4000000 in
set_option maxRecDepth 100000 in
theorem k_X0_init (l : Launch) (G : tf_G) (ad : Nat → Nat) (P : Nat → va_E) (x : Int32) (hr : P 1 = .inr (0, [.int 0, .null, .null, .null, .null, .null, .int 0, .int 0, .int 0])) : Dv l yX0_init wsX0_init ({ frames := 1, cells := 5, slots := 36, locals := 12 } : Room) G [0, 1] ad P [.ref (ad 1), .int x] ((((([0, 1] ++ [2]) ++ [3]) ++ [4]) ++ [5]) ++ [6]) (fun u => (∀ i, i ≠ 2 → i ≠ 3 → i ≠ 4 → i ≠ 5 → i ≠ 6 → u.1 i = ad i) ∧ (∀ i, i ≠ 1 → i ≠ 2 → i ≠ 3 → i ≠ 4 → i ≠ 5 → i ≠ 6 → u.2 i = P i) ∧ u.2 1 = .inr (0, [.int x, .ref (u.1 2), .ref (u.1 3), .ref (u.1 4), .ref (u.1 5), .ref (u.1 6), .int 0, .int 401, .int 0]) ∧ u.2 2 = .inl (G.2.1 0, 12, .inl (upd (upd (upd (upd (upd (upd (upd (upd (upd (upd (upd (upd (fun _ => 0) 0 100) 1 100) 2 100) 3 100) 4 100) 5 100) 6 100) 7 100) 8 100) 9 100) 10 100) 11 100)) ∧ u.2 3 = .inl (G.2.1 0, 12, .inl (upd (upd (upd (upd (upd (upd (upd (upd (upd (upd (upd (upd (fun _ => 0) 0 20) 1 20) 2 20) 3 20) 4 20) 5 20) 6 20) 7 20) 8 20) 9 20) 10 20) 11 20)) ∧ u.2 4 = .inl (G.2.1 0, 4, .inl (fun _ => 0)) ∧ u.2 5 = .inl (G.2.1 0, 4, .inl (fun _ => 0)) ∧ u.2 6 = .inl (G.2.1 0, 4, .inl (fun _ => 0))) := by
  have oi1 : Cond.methodLink RX0 3 objectInit ∈ wsX0_init := by decide +kernel
  have oi2 : Cond.instanceMethod objectInit ∈ wsX0_init := by decide +kernel
  have oi3 : Cond.code objectInit ⟨#[0xb1]⟩ 1 none ∈ wsX0_init := by decide +kernel
  have hin0 : ∀ w ∈ u_ws RX0 TX0 9, w ∈ wsX0_init := by decide +kernel
  have lk9 : Cond.fieldLink RX0 9 "TributeFleet$Canal" "reaches" "I" ∈ wsX0_init := by decide +kernel
  have arrint : Cond.arrayClass .int ∈ wsX0_init := by decide +kernel
  have lk15 : Cond.fieldLink RX0 15 "TributeFleet$Canal" "water" "[I" ∈ wsX0_init := by decide +kernel
  have lk19 : Cond.fieldLink RX0 19 "TributeFleet$Canal" "lockBoats" "[I" ∈ wsX0_init := by decide +kernel
  have lk22 : Cond.fieldLink RX0 22 "TributeFleet$Canal" "lakeReach" "[I" ∈ wsX0_init := by decide +kernel
  have lk25 : Cond.fieldLink RX0 25 "TributeFleet$Canal" "lakeStore" "[I" ∈ wsX0_init := by decide +kernel
  have lk28 : Cond.fieldLink RX0 28 "TributeFleet$Canal" "lakeGives" "[I" ∈ wsX0_init := by decide +kernel
  have lk31 : Cond.fieldLink RX0 31 "TributeFleet$Canal" "lakes" "I" ∈ wsX0_init := by decide +kernel
  have lk34 : Cond.fieldLink RX0 34 "TributeFleet$Canal" "iceDay" "I" ∈ wsX0_init := by decide +kernel
  have lk37 : Cond.fieldLink RX0 37 "TributeFleet$Canal" "iceReach" "I" ∈ wsX0_init := by decide +kernel
  refine dv_of (cc := cX0_init) (maxL := 3) (ret := none) (by decide +kernel) rfl (Nat.le_of_ble_eq_true rfl) ?_
  intro pv ev sv mv args below meth cv A C hrt9 hnm9
  have C : Cx pv sv mv args meth cv cX0_init 3 RX0 wsX0_init G A [0, 1] ad := C
  show XJ pv l ev _ sv mv args below meth cv G A [0, 1] ad _ 3 0 0 _ 0 [(0, .ref (ad 1)), (1, .int x)] []
  refine x_aload_n C 0 dX0_init_0 rfl rfl ?_
  refine x_obj C oi1 oi2 oi3 (Nat.le_of_ble_eq_true rfl) (Nat.le_of_ble_eq_true rfl) dX0_init_1 ?_
  refine x_aload_n C 0 dX0_init_4 rfl rfl ?_
  refine x_iload_n C 1 dX0_init_5 rfl rfl ?_
  refine x_putFG C (T := TX0) (N := 9) (ty := .int) 1 0 hin0 tyX0 tyX0_ok nmX0 (by decide) hr rfl (by decide) lk9 rfl rfl hnm9 rfl (by decide +kernel) rfl rfl (Nat.le_of_ble_eq_true rfl) dX0_init_6 (fun p1 B1 N1 => ?_)
  replace N1 : p1 1 = .inr (0, [.int x, .null, .null, .null, .null, .null, .int 0, .int 0, .int 0]) := N1
  refine x_aload_n C 0 dX0_init_9 rfl rfl ?_
  refine x_bipush C dX0_init_10 (v := 12) (by decide) ?_
  refine x_newaF C (atype := .int) (ty := .int) (N' := 12) (f := (fun _ => 0)) 2 arrint rfl (t0 := 0) rfl (by decide) (fun _ => rfl) (by decide) (by decide) (Nat.le_of_ble_eq_true rfl) (Nat.le_of_ble_eq_true rfl) (Nat.le_of_ble_eq_true rfl) dX0_init_12 (fun a2 p2 A2 B2 N2 C => ?_)
  have F3 : p2 1 = .inr (0, [.int x, .null, .null, .null, .null, .null, .int 0, .int 0, .int 0]) := (B2 1 (by decide)).trans N1
  rw [← A2 1 (by decide)]
  refine x_putFG C (T := TX0) (N := 9) (ty := .array .int) 1 1 hin0 tyX0 tyX0_ok nmX0 (by decide) F3 rfl (by decide) lk15 rfl rfl hnm9 rfl (by decide +kernel) rfl rfl (Nat.le_of_ble_eq_true rfl) dX0_init_14 (fun p4 B4 N4 => ?_)
  replace N4 : p4 1 = .inr (0, [.int x, .ref (a2 2), .null, .null, .null, .null, .int 0, .int 0, .int 0]) := N4
  refine x_aload_n C 0 dX0_init_17 rfl rfl ?_
  refine x_bipush C dX0_init_18 (v := 12) (by decide) ?_
  refine x_newaF C (atype := .int) (ty := .int) (N' := 12) (f := (fun _ => 0)) 3 arrint rfl (t0 := 0) rfl (by decide) (fun _ => rfl) (by decide) (by decide) (Nat.le_of_ble_eq_true rfl) (Nat.le_of_ble_eq_true rfl) (Nat.le_of_ble_eq_true rfl) dX0_init_20 (fun a5 p5 A5 B5 N5 C => ?_)
  have F6 : p5 1 = .inr (0, [.int x, .ref (a5 2), .null, .null, .null, .null, .int 0, .int 0, .int 0]) := by rw [A5 2 (by decide)]; exact (B5 1 (by decide)).trans N4
  rw [← A5 1 (by decide)]
  refine x_putFG C (T := TX0) (N := 9) (ty := .array .int) 1 2 hin0 tyX0 tyX0_ok nmX0 (by decide) F6 rfl (by decide) lk19 rfl rfl hnm9 rfl (by decide +kernel) rfl rfl (Nat.le_of_ble_eq_true rfl) dX0_init_22 (fun p7 B7 N7 => ?_)
  replace N7 : p7 1 = .inr (0, [.int x, .ref (a5 2), .ref (a5 3), .null, .null, .null, .int 0, .int 0, .int 0]) := N7
  refine x_iconst C dX0_init_25 (v := 0) (by decide) ?_
  refine x_istore_n C (L1 := [(2, .int 0), (0, .ref (a5 1)), (1, .int x)]) dX0_init_26 rfl (by decide) rfl ?_
  refine x_iload_n C 0 dX0_init_27 rfl rfl ?_
  refine x_bipush C dX0_init_28 (v := 12) (by decide) ?_
  refine x_icmp_ge C (tgt := 55) dX0_init_30 (by decide) (fun c30 => ?_) (fun c30 => ?_)
  · exact absurd c30 (by decide)
  refine x_aload_n C 1 dX0_init_33 rfl rfl ?_
  refine x_get C (T := TX0) (N := 9) (v := .ref (a5 2)) 1 1 hin0 (by decide) N7 rfl (by decide) lk15 rfl rfl dX0_init_34 ?_
  refine x_iload_n C 0 dX0_init_37 rfl rfl ?_
  refine x_bipush C dX0_init_38 (v := 100) (by decide) ?_
  refine x_iastG C 2 (by decide) ((((B7 2 (by decide)).trans (B5 2 (by decide))).trans (B4 2 (by decide))).trans N2) (nI_in (c := 0) (N := 12) (by decide) (by decide)) dX0_init_40 (fun p8 B8 N8 => ?_)
  replace N8 : p8 2 = .inl (G.2.1 0, 12, .inl (upd (fun _ => 0) 0 100)) := N8
  have F9 : p8 1 = .inr (0, [.int x, .ref (a5 2), .ref (a5 3), .null, .null, .null, .int 0, .int 0, .int 0]) := (B8 1 (by decide)).trans N7
  refine x_aload_n C 1 dX0_init_41 rfl rfl ?_
  refine x_get C (T := TX0) (N := 9) (v := .ref (a5 3)) 1 2 hin0 (by decide) F9 rfl (by decide) lk19 rfl rfl dX0_init_42 ?_
  refine x_iload_n C 0 dX0_init_45 rfl rfl ?_
  refine x_bipush C dX0_init_46 (v := 20) (by decide) ?_
  refine x_iastG C 3 (by decide) (((B8 3 (by decide)).trans (B7 3 (by decide))).trans N5) (nI_in (c := 0) (N := 12) (by decide) (by decide)) dX0_init_48 (fun p10 B10 N10 => ?_)
  replace N10 : p10 3 = .inl (G.2.1 0, 12, .inl (upd (fun _ => 0) 0 20)) := N10
  have F11 : p10 1 = .inr (0, [.int x, .ref (a5 2), .ref (a5 3), .null, .null, .null, .int 0, .int 0, .int 0]) := (B10 1 (by decide)).trans F9
  refine x_iinc C (L1 := [(2, .int 1), (0, .ref (a5 1)), (1, .int x)]) 0 dX0_init_49 rfl (by decide) (by decide) rfl ?_
  refine x_goto C (tgt := 27) dX0_init_52 (by decide) ?_
  refine x_iload_n C 0 dX0_init_27 rfl rfl ?_
  refine x_bipush C dX0_init_28 (v := 12) (by decide) ?_
  refine x_icmp_ge C (tgt := 55) dX0_init_30 (by decide) (fun c30 => ?_) (fun c30 => ?_)
  · exact absurd c30 (by decide)
  refine x_aload_n C 1 dX0_init_33 rfl rfl ?_
  refine x_get C (T := TX0) (N := 9) (v := .ref (a5 2)) 1 1 hin0 (by decide) F11 rfl (by decide) lk15 rfl rfl dX0_init_34 ?_
  refine x_iload_n C 0 dX0_init_37 rfl rfl ?_
  refine x_bipush C dX0_init_38 (v := 100) (by decide) ?_
  refine x_iastG C 2 (by decide) ((B10 2 (by decide)).trans N8) (nI_in (c := 1) (N := 12) (by decide) (by decide)) dX0_init_40 (fun p12 B12 N12 => ?_)
  replace N12 : p12 2 = .inl (G.2.1 0, 12, .inl (upd (upd (fun _ => 0) 0 100) 1 100)) := N12
  have F13 : p12 1 = .inr (0, [.int x, .ref (a5 2), .ref (a5 3), .null, .null, .null, .int 0, .int 0, .int 0]) := (B12 1 (by decide)).trans F11
  refine x_aload_n C 1 dX0_init_41 rfl rfl ?_
  refine x_get C (T := TX0) (N := 9) (v := .ref (a5 3)) 1 2 hin0 (by decide) F13 rfl (by decide) lk19 rfl rfl dX0_init_42 ?_
  refine x_iload_n C 0 dX0_init_45 rfl rfl ?_
  refine x_bipush C dX0_init_46 (v := 20) (by decide) ?_
  refine x_iastG C 3 (by decide) ((B12 3 (by decide)).trans N10) (nI_in (c := 1) (N := 12) (by decide) (by decide)) dX0_init_48 (fun p14 B14 N14 => ?_)
  replace N14 : p14 3 = .inl (G.2.1 0, 12, .inl (upd (upd (fun _ => 0) 0 20) 1 20)) := N14
  have F15 : p14 1 = .inr (0, [.int x, .ref (a5 2), .ref (a5 3), .null, .null, .null, .int 0, .int 0, .int 0]) := (B14 1 (by decide)).trans F13
  refine x_iinc C (L1 := [(2, .int 2), (0, .ref (a5 1)), (1, .int x)]) 0 dX0_init_49 rfl (by decide) (by decide) rfl ?_
  refine x_goto C (tgt := 27) dX0_init_52 (by decide) ?_
  refine x_iload_n C 0 dX0_init_27 rfl rfl ?_
  refine x_bipush C dX0_init_28 (v := 12) (by decide) ?_
  refine x_icmp_ge C (tgt := 55) dX0_init_30 (by decide) (fun c30 => ?_) (fun c30 => ?_)
  · exact absurd c30 (by decide)
  refine x_aload_n C 1 dX0_init_33 rfl rfl ?_
  refine x_get C (T := TX0) (N := 9) (v := .ref (a5 2)) 1 1 hin0 (by decide) F15 rfl (by decide) lk15 rfl rfl dX0_init_34 ?_
  refine x_iload_n C 0 dX0_init_37 rfl rfl ?_
  refine x_bipush C dX0_init_38 (v := 100) (by decide) ?_
  refine x_iastG C 2 (by decide) ((B14 2 (by decide)).trans N12) (nI_in (c := 2) (N := 12) (by decide) (by decide)) dX0_init_40 (fun p16 B16 N16 => ?_)
  replace N16 : p16 2 = .inl (G.2.1 0, 12, .inl (upd (upd (upd (fun _ => 0) 0 100) 1 100) 2 100)) := N16
  have F17 : p16 1 = .inr (0, [.int x, .ref (a5 2), .ref (a5 3), .null, .null, .null, .int 0, .int 0, .int 0]) := (B16 1 (by decide)).trans F15
  refine x_aload_n C 1 dX0_init_41 rfl rfl ?_
  refine x_get C (T := TX0) (N := 9) (v := .ref (a5 3)) 1 2 hin0 (by decide) F17 rfl (by decide) lk19 rfl rfl dX0_init_42 ?_
  refine x_iload_n C 0 dX0_init_45 rfl rfl ?_
  refine x_bipush C dX0_init_46 (v := 20) (by decide) ?_
  refine x_iastG C 3 (by decide) ((B16 3 (by decide)).trans N14) (nI_in (c := 2) (N := 12) (by decide) (by decide)) dX0_init_48 (fun p18 B18 N18 => ?_)
  replace N18 : p18 3 = .inl (G.2.1 0, 12, .inl (upd (upd (upd (fun _ => 0) 0 20) 1 20) 2 20)) := N18
  have F19 : p18 1 = .inr (0, [.int x, .ref (a5 2), .ref (a5 3), .null, .null, .null, .int 0, .int 0, .int 0]) := (B18 1 (by decide)).trans F17
  refine x_iinc C (L1 := [(2, .int 3), (0, .ref (a5 1)), (1, .int x)]) 0 dX0_init_49 rfl (by decide) (by decide) rfl ?_
  refine x_goto C (tgt := 27) dX0_init_52 (by decide) ?_
  refine x_iload_n C 0 dX0_init_27 rfl rfl ?_
  refine x_bipush C dX0_init_28 (v := 12) (by decide) ?_
  refine x_icmp_ge C (tgt := 55) dX0_init_30 (by decide) (fun c30 => ?_) (fun c30 => ?_)
  · exact absurd c30 (by decide)
  refine x_aload_n C 1 dX0_init_33 rfl rfl ?_
  refine x_get C (T := TX0) (N := 9) (v := .ref (a5 2)) 1 1 hin0 (by decide) F19 rfl (by decide) lk15 rfl rfl dX0_init_34 ?_
  refine x_iload_n C 0 dX0_init_37 rfl rfl ?_
  refine x_bipush C dX0_init_38 (v := 100) (by decide) ?_
  refine x_iastG C 2 (by decide) ((B18 2 (by decide)).trans N16) (nI_in (c := 3) (N := 12) (by decide) (by decide)) dX0_init_40 (fun p20 B20 N20 => ?_)
  replace N20 : p20 2 = .inl (G.2.1 0, 12, .inl (upd (upd (upd (upd (fun _ => 0) 0 100) 1 100) 2 100) 3 100)) := N20
  have F21 : p20 1 = .inr (0, [.int x, .ref (a5 2), .ref (a5 3), .null, .null, .null, .int 0, .int 0, .int 0]) := (B20 1 (by decide)).trans F19
  refine x_aload_n C 1 dX0_init_41 rfl rfl ?_
  refine x_get C (T := TX0) (N := 9) (v := .ref (a5 3)) 1 2 hin0 (by decide) F21 rfl (by decide) lk19 rfl rfl dX0_init_42 ?_
  refine x_iload_n C 0 dX0_init_45 rfl rfl ?_
  refine x_bipush C dX0_init_46 (v := 20) (by decide) ?_
  refine x_iastG C 3 (by decide) ((B20 3 (by decide)).trans N18) (nI_in (c := 3) (N := 12) (by decide) (by decide)) dX0_init_48 (fun p22 B22 N22 => ?_)
  replace N22 : p22 3 = .inl (G.2.1 0, 12, .inl (upd (upd (upd (upd (fun _ => 0) 0 20) 1 20) 2 20) 3 20)) := N22
  have F23 : p22 1 = .inr (0, [.int x, .ref (a5 2), .ref (a5 3), .null, .null, .null, .int 0, .int 0, .int 0]) := (B22 1 (by decide)).trans F21
  refine x_iinc C (L1 := [(2, .int 4), (0, .ref (a5 1)), (1, .int x)]) 0 dX0_init_49 rfl (by decide) (by decide) rfl ?_
  refine x_goto C (tgt := 27) dX0_init_52 (by decide) ?_
  refine x_iload_n C 0 dX0_init_27 rfl rfl ?_
  refine x_bipush C dX0_init_28 (v := 12) (by decide) ?_
  refine x_icmp_ge C (tgt := 55) dX0_init_30 (by decide) (fun c30 => ?_) (fun c30 => ?_)
  · exact absurd c30 (by decide)
  refine x_aload_n C 1 dX0_init_33 rfl rfl ?_
  refine x_get C (T := TX0) (N := 9) (v := .ref (a5 2)) 1 1 hin0 (by decide) F23 rfl (by decide) lk15 rfl rfl dX0_init_34 ?_
  refine x_iload_n C 0 dX0_init_37 rfl rfl ?_
  refine x_bipush C dX0_init_38 (v := 100) (by decide) ?_
  refine x_iastG C 2 (by decide) ((B22 2 (by decide)).trans N20) (nI_in (c := 4) (N := 12) (by decide) (by decide)) dX0_init_40 (fun p24 B24 N24 => ?_)
  replace N24 : p24 2 = .inl (G.2.1 0, 12, .inl (upd (upd (upd (upd (upd (fun _ => 0) 0 100) 1 100) 2 100) 3 100) 4 100)) := N24
  have F25 : p24 1 = .inr (0, [.int x, .ref (a5 2), .ref (a5 3), .null, .null, .null, .int 0, .int 0, .int 0]) := (B24 1 (by decide)).trans F23
  refine x_aload_n C 1 dX0_init_41 rfl rfl ?_
  refine x_get C (T := TX0) (N := 9) (v := .ref (a5 3)) 1 2 hin0 (by decide) F25 rfl (by decide) lk19 rfl rfl dX0_init_42 ?_
  refine x_iload_n C 0 dX0_init_45 rfl rfl ?_
  refine x_bipush C dX0_init_46 (v := 20) (by decide) ?_
  refine x_iastG C 3 (by decide) ((B24 3 (by decide)).trans N22) (nI_in (c := 4) (N := 12) (by decide) (by decide)) dX0_init_48 (fun p26 B26 N26 => ?_)
  replace N26 : p26 3 = .inl (G.2.1 0, 12, .inl (upd (upd (upd (upd (upd (fun _ => 0) 0 20) 1 20) 2 20) 3 20) 4 20)) := N26
  have F27 : p26 1 = .inr (0, [.int x, .ref (a5 2), .ref (a5 3), .null, .null, .null, .int 0, .int 0, .int 0]) := (B26 1 (by decide)).trans F25
  refine x_iinc C (L1 := [(2, .int 5), (0, .ref (a5 1)), (1, .int x)]) 0 dX0_init_49 rfl (by decide) (by decide) rfl ?_
  refine x_goto C (tgt := 27) dX0_init_52 (by decide) ?_
  refine x_iload_n C 0 dX0_init_27 rfl rfl ?_
  refine x_bipush C dX0_init_28 (v := 12) (by decide) ?_
  refine x_icmp_ge C (tgt := 55) dX0_init_30 (by decide) (fun c30 => ?_) (fun c30 => ?_)
  · exact absurd c30 (by decide)
  refine x_aload_n C 1 dX0_init_33 rfl rfl ?_
  refine x_get C (T := TX0) (N := 9) (v := .ref (a5 2)) 1 1 hin0 (by decide) F27 rfl (by decide) lk15 rfl rfl dX0_init_34 ?_
  refine x_iload_n C 0 dX0_init_37 rfl rfl ?_
  refine x_bipush C dX0_init_38 (v := 100) (by decide) ?_
  refine x_iastG C 2 (by decide) ((B26 2 (by decide)).trans N24) (nI_in (c := 5) (N := 12) (by decide) (by decide)) dX0_init_40 (fun p28 B28 N28 => ?_)
  replace N28 : p28 2 = .inl (G.2.1 0, 12, .inl (upd (upd (upd (upd (upd (upd (fun _ => 0) 0 100) 1 100) 2 100) 3 100) 4 100) 5 100)) := N28
  have F29 : p28 1 = .inr (0, [.int x, .ref (a5 2), .ref (a5 3), .null, .null, .null, .int 0, .int 0, .int 0]) := (B28 1 (by decide)).trans F27
  refine x_aload_n C 1 dX0_init_41 rfl rfl ?_
  refine x_get C (T := TX0) (N := 9) (v := .ref (a5 3)) 1 2 hin0 (by decide) F29 rfl (by decide) lk19 rfl rfl dX0_init_42 ?_
  refine x_iload_n C 0 dX0_init_45 rfl rfl ?_
  refine x_bipush C dX0_init_46 (v := 20) (by decide) ?_
  refine x_iastG C 3 (by decide) ((B28 3 (by decide)).trans N26) (nI_in (c := 5) (N := 12) (by decide) (by decide)) dX0_init_48 (fun p30 B30 N30 => ?_)
  replace N30 : p30 3 = .inl (G.2.1 0, 12, .inl (upd (upd (upd (upd (upd (upd (fun _ => 0) 0 20) 1 20) 2 20) 3 20) 4 20) 5 20)) := N30
  have F31 : p30 1 = .inr (0, [.int x, .ref (a5 2), .ref (a5 3), .null, .null, .null, .int 0, .int 0, .int 0]) := (B30 1 (by decide)).trans F29
  refine x_iinc C (L1 := [(2, .int 6), (0, .ref (a5 1)), (1, .int x)]) 0 dX0_init_49 rfl (by decide) (by decide) rfl ?_
  refine x_goto C (tgt := 27) dX0_init_52 (by decide) ?_
  refine x_iload_n C 0 dX0_init_27 rfl rfl ?_
  refine x_bipush C dX0_init_28 (v := 12) (by decide) ?_
  refine x_icmp_ge C (tgt := 55) dX0_init_30 (by decide) (fun c30 => ?_) (fun c30 => ?_)
  · exact absurd c30 (by decide)
  refine x_aload_n C 1 dX0_init_33 rfl rfl ?_
  refine x_get C (T := TX0) (N := 9) (v := .ref (a5 2)) 1 1 hin0 (by decide) F31 rfl (by decide) lk15 rfl rfl dX0_init_34 ?_
  refine x_iload_n C 0 dX0_init_37 rfl rfl ?_
  refine x_bipush C dX0_init_38 (v := 100) (by decide) ?_
  refine x_iastG C 2 (by decide) ((B30 2 (by decide)).trans N28) (nI_in (c := 6) (N := 12) (by decide) (by decide)) dX0_init_40 (fun p32 B32 N32 => ?_)
  replace N32 : p32 2 = .inl (G.2.1 0, 12, .inl (upd (upd (upd (upd (upd (upd (upd (fun _ => 0) 0 100) 1 100) 2 100) 3 100) 4 100) 5 100) 6 100)) := N32
  have F33 : p32 1 = .inr (0, [.int x, .ref (a5 2), .ref (a5 3), .null, .null, .null, .int 0, .int 0, .int 0]) := (B32 1 (by decide)).trans F31
  refine x_aload_n C 1 dX0_init_41 rfl rfl ?_
  refine x_get C (T := TX0) (N := 9) (v := .ref (a5 3)) 1 2 hin0 (by decide) F33 rfl (by decide) lk19 rfl rfl dX0_init_42 ?_
  refine x_iload_n C 0 dX0_init_45 rfl rfl ?_
  refine x_bipush C dX0_init_46 (v := 20) (by decide) ?_
  refine x_iastG C 3 (by decide) ((B32 3 (by decide)).trans N30) (nI_in (c := 6) (N := 12) (by decide) (by decide)) dX0_init_48 (fun p34 B34 N34 => ?_)
  replace N34 : p34 3 = .inl (G.2.1 0, 12, .inl (upd (upd (upd (upd (upd (upd (upd (fun _ => 0) 0 20) 1 20) 2 20) 3 20) 4 20) 5 20) 6 20)) := N34
  have F35 : p34 1 = .inr (0, [.int x, .ref (a5 2), .ref (a5 3), .null, .null, .null, .int 0, .int 0, .int 0]) := (B34 1 (by decide)).trans F33
  refine x_iinc C (L1 := [(2, .int 7), (0, .ref (a5 1)), (1, .int x)]) 0 dX0_init_49 rfl (by decide) (by decide) rfl ?_
  refine x_goto C (tgt := 27) dX0_init_52 (by decide) ?_
  refine x_iload_n C 0 dX0_init_27 rfl rfl ?_
  refine x_bipush C dX0_init_28 (v := 12) (by decide) ?_
  refine x_icmp_ge C (tgt := 55) dX0_init_30 (by decide) (fun c30 => ?_) (fun c30 => ?_)
  · exact absurd c30 (by decide)
  refine x_aload_n C 1 dX0_init_33 rfl rfl ?_
  refine x_get C (T := TX0) (N := 9) (v := .ref (a5 2)) 1 1 hin0 (by decide) F35 rfl (by decide) lk15 rfl rfl dX0_init_34 ?_
  refine x_iload_n C 0 dX0_init_37 rfl rfl ?_
  refine x_bipush C dX0_init_38 (v := 100) (by decide) ?_
  refine x_iastG C 2 (by decide) ((B34 2 (by decide)).trans N32) (nI_in (c := 7) (N := 12) (by decide) (by decide)) dX0_init_40 (fun p36 B36 N36 => ?_)
  replace N36 : p36 2 = .inl (G.2.1 0, 12, .inl (upd (upd (upd (upd (upd (upd (upd (upd (fun _ => 0) 0 100) 1 100) 2 100) 3 100) 4 100) 5 100) 6 100) 7 100)) := N36
  have F37 : p36 1 = .inr (0, [.int x, .ref (a5 2), .ref (a5 3), .null, .null, .null, .int 0, .int 0, .int 0]) := (B36 1 (by decide)).trans F35
  refine x_aload_n C 1 dX0_init_41 rfl rfl ?_
  refine x_get C (T := TX0) (N := 9) (v := .ref (a5 3)) 1 2 hin0 (by decide) F37 rfl (by decide) lk19 rfl rfl dX0_init_42 ?_
  refine x_iload_n C 0 dX0_init_45 rfl rfl ?_
  refine x_bipush C dX0_init_46 (v := 20) (by decide) ?_
  refine x_iastG C 3 (by decide) ((B36 3 (by decide)).trans N34) (nI_in (c := 7) (N := 12) (by decide) (by decide)) dX0_init_48 (fun p38 B38 N38 => ?_)
  replace N38 : p38 3 = .inl (G.2.1 0, 12, .inl (upd (upd (upd (upd (upd (upd (upd (upd (fun _ => 0) 0 20) 1 20) 2 20) 3 20) 4 20) 5 20) 6 20) 7 20)) := N38
  have F39 : p38 1 = .inr (0, [.int x, .ref (a5 2), .ref (a5 3), .null, .null, .null, .int 0, .int 0, .int 0]) := (B38 1 (by decide)).trans F37
  refine x_iinc C (L1 := [(2, .int 8), (0, .ref (a5 1)), (1, .int x)]) 0 dX0_init_49 rfl (by decide) (by decide) rfl ?_
  refine x_goto C (tgt := 27) dX0_init_52 (by decide) ?_
  refine x_iload_n C 0 dX0_init_27 rfl rfl ?_
  refine x_bipush C dX0_init_28 (v := 12) (by decide) ?_
  refine x_icmp_ge C (tgt := 55) dX0_init_30 (by decide) (fun c30 => ?_) (fun c30 => ?_)
  · exact absurd c30 (by decide)
  refine x_aload_n C 1 dX0_init_33 rfl rfl ?_
  refine x_get C (T := TX0) (N := 9) (v := .ref (a5 2)) 1 1 hin0 (by decide) F39 rfl (by decide) lk15 rfl rfl dX0_init_34 ?_
  refine x_iload_n C 0 dX0_init_37 rfl rfl ?_
  refine x_bipush C dX0_init_38 (v := 100) (by decide) ?_
  refine x_iastG C 2 (by decide) ((B38 2 (by decide)).trans N36) (nI_in (c := 8) (N := 12) (by decide) (by decide)) dX0_init_40 (fun p40 B40 N40 => ?_)
  replace N40 : p40 2 = .inl (G.2.1 0, 12, .inl (upd (upd (upd (upd (upd (upd (upd (upd (upd (fun _ => 0) 0 100) 1 100) 2 100) 3 100) 4 100) 5 100) 6 100) 7 100) 8 100)) := N40
  have F41 : p40 1 = .inr (0, [.int x, .ref (a5 2), .ref (a5 3), .null, .null, .null, .int 0, .int 0, .int 0]) := (B40 1 (by decide)).trans F39
  refine x_aload_n C 1 dX0_init_41 rfl rfl ?_
  refine x_get C (T := TX0) (N := 9) (v := .ref (a5 3)) 1 2 hin0 (by decide) F41 rfl (by decide) lk19 rfl rfl dX0_init_42 ?_
  refine x_iload_n C 0 dX0_init_45 rfl rfl ?_
  refine x_bipush C dX0_init_46 (v := 20) (by decide) ?_
  refine x_iastG C 3 (by decide) ((B40 3 (by decide)).trans N38) (nI_in (c := 8) (N := 12) (by decide) (by decide)) dX0_init_48 (fun p42 B42 N42 => ?_)
  replace N42 : p42 3 = .inl (G.2.1 0, 12, .inl (upd (upd (upd (upd (upd (upd (upd (upd (upd (fun _ => 0) 0 20) 1 20) 2 20) 3 20) 4 20) 5 20) 6 20) 7 20) 8 20)) := N42
  have F43 : p42 1 = .inr (0, [.int x, .ref (a5 2), .ref (a5 3), .null, .null, .null, .int 0, .int 0, .int 0]) := (B42 1 (by decide)).trans F41
  refine x_iinc C (L1 := [(2, .int 9), (0, .ref (a5 1)), (1, .int x)]) 0 dX0_init_49 rfl (by decide) (by decide) rfl ?_
  refine x_goto C (tgt := 27) dX0_init_52 (by decide) ?_
  refine x_iload_n C 0 dX0_init_27 rfl rfl ?_
  refine x_bipush C dX0_init_28 (v := 12) (by decide) ?_
  refine x_icmp_ge C (tgt := 55) dX0_init_30 (by decide) (fun c30 => ?_) (fun c30 => ?_)
  · exact absurd c30 (by decide)
  refine x_aload_n C 1 dX0_init_33 rfl rfl ?_
  refine x_get C (T := TX0) (N := 9) (v := .ref (a5 2)) 1 1 hin0 (by decide) F43 rfl (by decide) lk15 rfl rfl dX0_init_34 ?_
  refine x_iload_n C 0 dX0_init_37 rfl rfl ?_
  refine x_bipush C dX0_init_38 (v := 100) (by decide) ?_
  refine x_iastG C 2 (by decide) ((B42 2 (by decide)).trans N40) (nI_in (c := 9) (N := 12) (by decide) (by decide)) dX0_init_40 (fun p44 B44 N44 => ?_)
  replace N44 : p44 2 = .inl (G.2.1 0, 12, .inl (upd (upd (upd (upd (upd (upd (upd (upd (upd (upd (fun _ => 0) 0 100) 1 100) 2 100) 3 100) 4 100) 5 100) 6 100) 7 100) 8 100) 9 100)) := N44
  have F45 : p44 1 = .inr (0, [.int x, .ref (a5 2), .ref (a5 3), .null, .null, .null, .int 0, .int 0, .int 0]) := (B44 1 (by decide)).trans F43
  refine x_aload_n C 1 dX0_init_41 rfl rfl ?_
  refine x_get C (T := TX0) (N := 9) (v := .ref (a5 3)) 1 2 hin0 (by decide) F45 rfl (by decide) lk19 rfl rfl dX0_init_42 ?_
  refine x_iload_n C 0 dX0_init_45 rfl rfl ?_
  refine x_bipush C dX0_init_46 (v := 20) (by decide) ?_
  refine x_iastG C 3 (by decide) ((B44 3 (by decide)).trans N42) (nI_in (c := 9) (N := 12) (by decide) (by decide)) dX0_init_48 (fun p46 B46 N46 => ?_)
  replace N46 : p46 3 = .inl (G.2.1 0, 12, .inl (upd (upd (upd (upd (upd (upd (upd (upd (upd (upd (fun _ => 0) 0 20) 1 20) 2 20) 3 20) 4 20) 5 20) 6 20) 7 20) 8 20) 9 20)) := N46
  have F47 : p46 1 = .inr (0, [.int x, .ref (a5 2), .ref (a5 3), .null, .null, .null, .int 0, .int 0, .int 0]) := (B46 1 (by decide)).trans F45
  refine x_iinc C (L1 := [(2, .int 10), (0, .ref (a5 1)), (1, .int x)]) 0 dX0_init_49 rfl (by decide) (by decide) rfl ?_
  refine x_goto C (tgt := 27) dX0_init_52 (by decide) ?_
  refine x_iload_n C 0 dX0_init_27 rfl rfl ?_
  refine x_bipush C dX0_init_28 (v := 12) (by decide) ?_
  refine x_icmp_ge C (tgt := 55) dX0_init_30 (by decide) (fun c30 => ?_) (fun c30 => ?_)
  · exact absurd c30 (by decide)
  refine x_aload_n C 1 dX0_init_33 rfl rfl ?_
  refine x_get C (T := TX0) (N := 9) (v := .ref (a5 2)) 1 1 hin0 (by decide) F47 rfl (by decide) lk15 rfl rfl dX0_init_34 ?_
  refine x_iload_n C 0 dX0_init_37 rfl rfl ?_
  refine x_bipush C dX0_init_38 (v := 100) (by decide) ?_
  refine x_iastG C 2 (by decide) ((B46 2 (by decide)).trans N44) (nI_in (c := 10) (N := 12) (by decide) (by decide)) dX0_init_40 (fun p48 B48 N48 => ?_)
  replace N48 : p48 2 = .inl (G.2.1 0, 12, .inl (upd (upd (upd (upd (upd (upd (upd (upd (upd (upd (upd (fun _ => 0) 0 100) 1 100) 2 100) 3 100) 4 100) 5 100) 6 100) 7 100) 8 100) 9 100) 10 100)) := N48
  have F49 : p48 1 = .inr (0, [.int x, .ref (a5 2), .ref (a5 3), .null, .null, .null, .int 0, .int 0, .int 0]) := (B48 1 (by decide)).trans F47
  refine x_aload_n C 1 dX0_init_41 rfl rfl ?_
  refine x_get C (T := TX0) (N := 9) (v := .ref (a5 3)) 1 2 hin0 (by decide) F49 rfl (by decide) lk19 rfl rfl dX0_init_42 ?_
  refine x_iload_n C 0 dX0_init_45 rfl rfl ?_
  refine x_bipush C dX0_init_46 (v := 20) (by decide) ?_
  refine x_iastG C 3 (by decide) ((B48 3 (by decide)).trans N46) (nI_in (c := 10) (N := 12) (by decide) (by decide)) dX0_init_48 (fun p50 B50 N50 => ?_)
  replace N50 : p50 3 = .inl (G.2.1 0, 12, .inl (upd (upd (upd (upd (upd (upd (upd (upd (upd (upd (upd (fun _ => 0) 0 20) 1 20) 2 20) 3 20) 4 20) 5 20) 6 20) 7 20) 8 20) 9 20) 10 20)) := N50
  have F51 : p50 1 = .inr (0, [.int x, .ref (a5 2), .ref (a5 3), .null, .null, .null, .int 0, .int 0, .int 0]) := (B50 1 (by decide)).trans F49
  refine x_iinc C (L1 := [(2, .int 11), (0, .ref (a5 1)), (1, .int x)]) 0 dX0_init_49 rfl (by decide) (by decide) rfl ?_
  refine x_goto C (tgt := 27) dX0_init_52 (by decide) ?_
  refine x_iload_n C 0 dX0_init_27 rfl rfl ?_
  refine x_bipush C dX0_init_28 (v := 12) (by decide) ?_
  refine x_icmp_ge C (tgt := 55) dX0_init_30 (by decide) (fun c30 => ?_) (fun c30 => ?_)
  · exact absurd c30 (by decide)
  refine x_aload_n C 1 dX0_init_33 rfl rfl ?_
  refine x_get C (T := TX0) (N := 9) (v := .ref (a5 2)) 1 1 hin0 (by decide) F51 rfl (by decide) lk15 rfl rfl dX0_init_34 ?_
  refine x_iload_n C 0 dX0_init_37 rfl rfl ?_
  refine x_bipush C dX0_init_38 (v := 100) (by decide) ?_
  refine x_iastG C 2 (by decide) ((B50 2 (by decide)).trans N48) (nI_in (c := 11) (N := 12) (by decide) (by decide)) dX0_init_40 (fun p52 B52 N52 => ?_)
  replace N52 : p52 2 = .inl (G.2.1 0, 12, .inl (upd (upd (upd (upd (upd (upd (upd (upd (upd (upd (upd (upd (fun _ => 0) 0 100) 1 100) 2 100) 3 100) 4 100) 5 100) 6 100) 7 100) 8 100) 9 100) 10 100) 11 100)) := N52
  have F53 : p52 1 = .inr (0, [.int x, .ref (a5 2), .ref (a5 3), .null, .null, .null, .int 0, .int 0, .int 0]) := (B52 1 (by decide)).trans F51
  refine x_aload_n C 1 dX0_init_41 rfl rfl ?_
  refine x_get C (T := TX0) (N := 9) (v := .ref (a5 3)) 1 2 hin0 (by decide) F53 rfl (by decide) lk19 rfl rfl dX0_init_42 ?_
  refine x_iload_n C 0 dX0_init_45 rfl rfl ?_
  refine x_bipush C dX0_init_46 (v := 20) (by decide) ?_
  refine x_iastG C 3 (by decide) ((B52 3 (by decide)).trans N50) (nI_in (c := 11) (N := 12) (by decide) (by decide)) dX0_init_48 (fun p54 B54 N54 => ?_)
  replace N54 : p54 3 = .inl (G.2.1 0, 12, .inl (upd (upd (upd (upd (upd (upd (upd (upd (upd (upd (upd (upd (fun _ => 0) 0 20) 1 20) 2 20) 3 20) 4 20) 5 20) 6 20) 7 20) 8 20) 9 20) 10 20) 11 20)) := N54
  have F55 : p54 1 = .inr (0, [.int x, .ref (a5 2), .ref (a5 3), .null, .null, .null, .int 0, .int 0, .int 0]) := (B54 1 (by decide)).trans F53
  refine x_iinc C (L1 := [(2, .int 12), (0, .ref (a5 1)), (1, .int x)]) 0 dX0_init_49 rfl (by decide) (by decide) rfl ?_
  refine x_goto C (tgt := 27) dX0_init_52 (by decide) ?_
  refine x_iload_n C 0 dX0_init_27 rfl rfl ?_
  refine x_bipush C dX0_init_28 (v := 12) (by decide) ?_
  refine x_icmp_ge C (tgt := 55) dX0_init_30 (by decide) (fun c30 => ?_) (fun c30 => ?_)
  rotate_left
  · exact absurd (by decide) c30
  refine x_aload_n C 1 dX0_init_55 rfl rfl ?_
  refine x_iconst C dX0_init_56 (v := 4) (by decide) ?_
  refine x_newaF C (atype := .int) (ty := .int) (N' := 4) (f := (fun _ => 0)) 4 arrint rfl (t0 := 0) rfl (by decide) (fun _ => rfl) (by decide) (by decide) (Nat.le_of_ble_eq_true rfl) (Nat.le_of_ble_eq_true rfl) (Nat.le_of_ble_eq_true rfl) dX0_init_57 (fun a56 p56 A56 B56 N56 C => ?_)
  have F57 : p56 1 = .inr (0, [.int x, .ref (a56 2), .ref (a56 3), .null, .null, .null, .int 0, .int 0, .int 0]) := by rw [A56 2 (by decide), A56 3 (by decide)]; exact (B56 1 (by decide)).trans F55
  rw [← A56 1 (by decide)]
  refine x_putFG C (T := TX0) (N := 9) (ty := .array .int) 1 3 hin0 tyX0 tyX0_ok nmX0 (by decide) F57 rfl (by decide) lk22 rfl rfl hnm9 rfl (by decide +kernel) rfl rfl (Nat.le_of_ble_eq_true rfl) dX0_init_59 (fun p58 B58 N58 => ?_)
  replace N58 : p58 1 = .inr (0, [.int x, .ref (a56 2), .ref (a56 3), .ref (a56 4), .null, .null, .int 0, .int 0, .int 0]) := N58
  refine x_aload_n C 1 dX0_init_62 rfl rfl ?_
  refine x_iconst C dX0_init_63 (v := 4) (by decide) ?_
  refine x_newaF C (atype := .int) (ty := .int) (N' := 4) (f := (fun _ => 0)) 5 arrint rfl (t0 := 0) rfl (by decide) (fun _ => rfl) (by decide) (by decide) (Nat.le_of_ble_eq_true rfl) (Nat.le_of_ble_eq_true rfl) (Nat.le_of_ble_eq_true rfl) dX0_init_64 (fun a59 p59 A59 B59 N59 C => ?_)
  have F60 : p59 1 = .inr (0, [.int x, .ref (a59 2), .ref (a59 3), .ref (a59 4), .null, .null, .int 0, .int 0, .int 0]) := by rw [A59 2 (by decide), A59 3 (by decide), A59 4 (by decide)]; exact (B59 1 (by decide)).trans N58
  rw [← A59 1 (by decide)]
  refine x_putFG C (T := TX0) (N := 9) (ty := .array .int) 1 4 hin0 tyX0 tyX0_ok nmX0 (by decide) F60 rfl (by decide) lk25 rfl rfl hnm9 rfl (by decide +kernel) rfl rfl (Nat.le_of_ble_eq_true rfl) dX0_init_66 (fun p61 B61 N61 => ?_)
  replace N61 : p61 1 = .inr (0, [.int x, .ref (a59 2), .ref (a59 3), .ref (a59 4), .ref (a59 5), .null, .int 0, .int 0, .int 0]) := N61
  refine x_aload_n C 1 dX0_init_69 rfl rfl ?_
  refine x_iconst C dX0_init_70 (v := 4) (by decide) ?_
  refine x_newaF C (atype := .int) (ty := .int) (N' := 4) (f := (fun _ => 0)) 6 arrint rfl (t0 := 0) rfl (by decide) (fun _ => rfl) (by decide) (by decide) (Nat.le_of_ble_eq_true rfl) (Nat.le_of_ble_eq_true rfl) (Nat.le_of_ble_eq_true rfl) dX0_init_71 (fun a62 p62 A62 B62 N62 C => ?_)
  have F63 : p62 1 = .inr (0, [.int x, .ref (a62 2), .ref (a62 3), .ref (a62 4), .ref (a62 5), .null, .int 0, .int 0, .int 0]) := by rw [A62 2 (by decide), A62 3 (by decide), A62 4 (by decide), A62 5 (by decide)]; exact (B62 1 (by decide)).trans N61
  rw [← A62 1 (by decide)]
  refine x_putFG C (T := TX0) (N := 9) (ty := .array .int) 1 5 hin0 tyX0 tyX0_ok nmX0 (by decide) F63 rfl (by decide) lk28 rfl rfl hnm9 rfl (by decide +kernel) rfl rfl (Nat.le_of_ble_eq_true rfl) dX0_init_73 (fun p64 B64 N64 => ?_)
  replace N64 : p64 1 = .inr (0, [.int x, .ref (a62 2), .ref (a62 3), .ref (a62 4), .ref (a62 5), .ref (a62 6), .int 0, .int 0, .int 0]) := N64
  refine x_aload_n C 1 dX0_init_76 rfl rfl ?_
  refine x_iconst C dX0_init_77 (v := 0) (by decide) ?_
  refine x_putG C (T := TX0) (N := 9) (ty := .int) 1 6 hin0 tyX0 tyX0_ok nmX0 (by decide) N64 rfl (by decide) lk31 rfl rfl (by decide +kernel) rfl rfl (Nat.le_of_ble_eq_true rfl) dX0_init_78 (fun p65 B65 N65 => ?_)
  replace N65 : p65 1 = .inr (0, [.int x, .ref (a62 2), .ref (a62 3), .ref (a62 4), .ref (a62 5), .ref (a62 6), .int 0, .int 0, .int 0]) := N65
  refine x_aload_n C 1 dX0_init_81 rfl rfl ?_
  refine x_sipush C dX0_init_82 (v := 401) (by decide) ?_
  refine x_putG C (T := TX0) (N := 9) (ty := .int) 1 7 hin0 tyX0 tyX0_ok nmX0 (by decide) N65 rfl (by decide) lk34 rfl rfl (by decide +kernel) rfl rfl (Nat.le_of_ble_eq_true rfl) dX0_init_85 (fun p66 B66 N66 => ?_)
  replace N66 : p66 1 = .inr (0, [.int x, .ref (a62 2), .ref (a62 3), .ref (a62 4), .ref (a62 5), .ref (a62 6), .int 0, .int 401, .int 0]) := N66
  refine x_aload_n C 1 dX0_init_88 rfl rfl ?_
  refine x_iconst C dX0_init_89 (v := 0) (by decide) ?_
  refine x_putG C (T := TX0) (N := 9) (ty := .int) 1 8 hin0 tyX0 tyX0_ok nmX0 (by decide) N66 rfl (by decide) lk37 rfl rfl (by decide +kernel) rfl rfl (Nat.le_of_ble_eq_true rfl) dX0_init_90 (fun p67 B67 N67 => ?_)
  replace N67 : p67 1 = .inr (0, [.int x, .ref (a62 2), .ref (a62 3), .ref (a62 4), .ref (a62 5), .ref (a62 6), .int 0, .int 401, .int 0]) := N67
  refine x_vretA C hrt9 ?_ dX0_init_93
  refine ⟨fun i h1 h2 h3 h4 h5 => (((((A62 i h5).trans (A59 i h4)).trans (A56 i h3)).trans (A5 i h2)).trans (A2 i h1)), fun i h0 h1 h2 h3 h4 h5 => ((((((((((((((((((((((((((((((((((((((B67 i h0).trans (B66 i h0)).trans (B65 i h0)).trans (B64 i h0)).trans (B62 i h5)).trans (B61 i h0)).trans (B59 i h4)).trans (B58 i h0)).trans (B56 i h3)).trans (B54 i h2)).trans (B52 i h1)).trans (B50 i h2)).trans (B48 i h1)).trans (B46 i h2)).trans (B44 i h1)).trans (B42 i h2)).trans (B40 i h1)).trans (B38 i h2)).trans (B36 i h1)).trans (B34 i h2)).trans (B32 i h1)).trans (B30 i h2)).trans (B28 i h1)).trans (B26 i h2)).trans (B24 i h1)).trans (B22 i h2)).trans (B20 i h1)).trans (B18 i h2)).trans (B16 i h1)).trans (B14 i h2)).trans (B12 i h1)).trans (B10 i h2)).trans (B8 i h1)).trans (B7 i h0)).trans (B5 i h2)).trans (B4 i h0)).trans (B2 i h1)).trans (B1 i h0)), N67, (((((((((((B67 2 (by decide)).trans (B66 2 (by decide))).trans (B65 2 (by decide))).trans (B64 2 (by decide))).trans (B62 2 (by decide))).trans (B61 2 (by decide))).trans (B59 2 (by decide))).trans (B58 2 (by decide))).trans (B56 2 (by decide))).trans (B54 2 (by decide))).trans N52), ((((((((((B67 3 (by decide)).trans (B66 3 (by decide))).trans (B65 3 (by decide))).trans (B64 3 (by decide))).trans (B62 3 (by decide))).trans (B61 3 (by decide))).trans (B59 3 (by decide))).trans (B58 3 (by decide))).trans (B56 3 (by decide))).trans N54), (((((((((B67 4 (by decide)).trans (B66 4 (by decide))).trans (B65 4 (by decide))).trans (B64 4 (by decide))).trans (B62 4 (by decide))).trans (B61 4 (by decide))).trans (B59 4 (by decide))).trans (B58 4 (by decide))).trans N56), (((((((B67 5 (by decide)).trans (B66 5 (by decide))).trans (B65 5 (by decide))).trans (B64 5 (by decide))).trans (B62 5 (by decide))).trans (B61 5 (by decide))).trans N59), (((((B67 6 (by decide)).trans (B66 6 (by decide))).trans (B65 6 (by decide))).trans (B64 6 (by decide))).trans N62)⟩

set_option maxHeartbeats 4000000 in
set_option maxRecDepth 100000 in
theorem k_X3_init (l : Launch) (G : tf_G) (ad : Nat → Nat) (P : Nat → va_E)  (hr : P 7 = .inr (3, [.null, .null, .int 0])) : Dv l yX3_init wsX3_init ({ frames := 1, cells := 2, slots := 24, locals := 12 } : Room) G [0, 1, 2, 3, 4, 5, 6, 7] ad P [.ref (ad 7)] (([0, 1, 2, 3, 4, 5, 6, 7] ++ [8]) ++ [9]) (fun u => (∀ i, i ≠ 8 → i ≠ 9 → u.1 i = ad i) ∧ (∀ i, i ≠ 7 → i ≠ 8 → i ≠ 9 → u.2 i = P i) ∧ u.2 7 = .inr (3, [.ref (u.1 8), .ref (u.1 9), .int 0]) ∧ u.2 8 = .inl (G.2.1 3, 12, .inr (.inr (.inr (.inr (fun _ => none))))) ∧ u.2 9 = .inl (G.2.1 0, 12, .inl (fun _ => 0))) := by
  have oi1 : Cond.methodLink RX3 3 objectInit ∈ wsX3_init := by decide +kernel
  have oi2 : Cond.instanceMethod objectInit ∈ wsX3_init := by decide +kernel
  have oi3 : Cond.code objectInit ⟨#[0xb1]⟩ 1 none ∈ wsX3_init := by decide +kernel
  have cl11 : Cond.classLink RX3 11 RX6 ∈ wsX3_init := by decide +kernel
  have hin3 : ∀ w ∈ u_ws RX3 TX3 3, w ∈ wsX3_init := by decide +kernel
  have lk13 : Cond.fieldLink RX3 13 "TributeFleet$Fleet" "squadrons" "[LTributeFleet$Squadron;" ∈ wsX3_init := by decide +kernel
  have arrint : Cond.arrayClass .int ∈ wsX3_init := by decide +kernel
  have lk17 : Cond.fieldLink RX3 17 "TributeFleet$Fleet" "line" "[I" ∈ wsX3_init := by decide +kernel
  have lk21 : Cond.fieldLink RX3 21 "TributeFleet$Fleet" "size" "I" ∈ wsX3_init := by decide +kernel
  refine dv_of (cc := cX3_init) (maxL := 1) (ret := none) (by decide +kernel) rfl (Nat.le_of_ble_eq_true rfl) ?_
  intro pv ev sv mv args below meth cv A C hrt9 hnm9
  have C : Cx pv sv mv args meth cv cX3_init 1 RX3 wsX3_init G A [0, 1, 2, 3, 4, 5, 6, 7] ad := C
  show XJ pv l ev _ sv mv args below meth cv G A [0, 1, 2, 3, 4, 5, 6, 7] ad _ 1 0 0 _ 0 [(0, .ref (ad 7))] []
  refine x_aload_n C 0 dX3_init_0 rfl rfl ?_
  refine x_obj C oi1 oi2 oi3 (Nat.le_of_ble_eq_true rfl) (Nat.le_of_ble_eq_true rfl) dX3_init_1 ?_
  refine x_aload_n C 0 dX3_init_4 rfl rfl ?_
  refine x_bipush C dX3_init_5 (v := 12) (by decide) ?_
  refine x_newqF C (N' := 12) 8 cl11 C.2.2.1.2.2.2.2.1 (t0 := 3) rfl (by decide) (by decide) (by decide) (Nat.le_of_ble_eq_true rfl) (Nat.le_of_ble_eq_true rfl) (Nat.le_of_ble_eq_true rfl) dX3_init_7 (fun a1 p1 A1 B1 N1 C => ?_)
  have F2 : p1 7 = .inr (3, [.null, .null, .int 0]) := (B1 7 (by decide)).trans hr
  rw [← A1 7 (by decide)]
  refine x_putFG C (T := TX3) (N := 3) (ty := .array (.object "TributeFleet$Squadron")) 7 0 hin3 tyX3 tyX3_ok nmX3 (by decide) F2 rfl (by decide) lk13 rfl rfl hnm9 rfl (by decide +kernel) rfl rfl (Nat.le_of_ble_eq_true rfl) dX3_init_10 (fun p3 B3 N3 => ?_)
  replace N3 : p3 7 = .inr (3, [.ref (a1 8), .null, .int 0]) := N3
  refine x_aload_n C 0 dX3_init_13 rfl rfl ?_
  refine x_bipush C dX3_init_14 (v := 12) (by decide) ?_
  refine x_newaF C (atype := .int) (ty := .int) (N' := 12) (f := (fun _ => 0)) 9 arrint rfl (t0 := 0) rfl (by decide) (fun _ => rfl) (by decide) (by decide) (Nat.le_of_ble_eq_true rfl) (Nat.le_of_ble_eq_true rfl) (Nat.le_of_ble_eq_true rfl) dX3_init_16 (fun a4 p4 A4 B4 N4 C => ?_)
  have F5 : p4 7 = .inr (3, [.ref (a4 8), .null, .int 0]) := by rw [A4 8 (by decide)]; exact (B4 7 (by decide)).trans N3
  rw [← A4 7 (by decide)]
  refine x_putFG C (T := TX3) (N := 3) (ty := .array .int) 7 1 hin3 tyX3 tyX3_ok nmX3 (by decide) F5 rfl (by decide) lk17 rfl rfl hnm9 rfl (by decide +kernel) rfl rfl (Nat.le_of_ble_eq_true rfl) dX3_init_18 (fun p6 B6 N6 => ?_)
  replace N6 : p6 7 = .inr (3, [.ref (a4 8), .ref (a4 9), .int 0]) := N6
  refine x_aload_n C 0 dX3_init_21 rfl rfl ?_
  refine x_iconst C dX3_init_22 (v := 0) (by decide) ?_
  refine x_putG C (T := TX3) (N := 3) (ty := .int) 7 2 hin3 tyX3 tyX3_ok nmX3 (by decide) N6 rfl (by decide) lk21 rfl rfl (by decide +kernel) rfl rfl (Nat.le_of_ble_eq_true rfl) dX3_init_23 (fun p7 B7 N7 => ?_)
  replace N7 : p7 7 = .inr (3, [.ref (a4 8), .ref (a4 9), .int 0]) := N7
  refine x_vretA C hrt9 ?_ dX3_init_26
  refine ⟨fun i h1 h2 => ((A4 i h2).trans (A1 i h1)), fun i h0 h1 h2 => (((((B7 i h0).trans (B6 i h0)).trans (B4 i h2)).trans (B3 i h0)).trans (B1 i h1)), N7, (((((B7 8 (by decide)).trans (B6 8 (by decide))).trans (B4 8 (by decide))).trans (B3 8 (by decide))).trans N1), (((B7 9 (by decide)).trans (B6 9 (by decide))).trans N4)⟩

set_option maxHeartbeats 4000000 in
set_option maxRecDepth 100000 in
theorem k_X8_init (l : Launch) (G : tf_G) (ad : Nat → Nat) (P : Nat → va_E)  (hr : P 10 = .inr (8, [.null, .int 0])) : Dv l yX8_init wsX8_init ({ frames := 1, cells := 1, slots := 400, locals := 12 } : Room) G [0, 1, 2, 3, 4, 5, 6, 7, 8, 9, 10] ad P [.ref (ad 10)] ([0, 1, 2, 3, 4, 5, 6, 7, 8, 9, 10] ++ [11]) (fun u => (∀ i, i ≠ 11 → u.1 i = ad i) ∧ (∀ i, i ≠ 10 → i ≠ 11 → u.2 i = P i) ∧ u.2 10 = .inr (8, [.ref (u.1 11), .int 0]) ∧ u.2 11 = .inl (G.2.1 1, 400, .inl (fun _ => 0))) := by
  have oi1 : Cond.methodLink RX8 3 objectInit ∈ wsX8_init := by decide +kernel
  have oi2 : Cond.instanceMethod objectInit ∈ wsX8_init := by decide +kernel
  have oi3 : Cond.code objectInit ⟨#[0xb1]⟩ 1 none ∈ wsX8_init := by decide +kernel
  have arrbyte : Cond.arrayClass .byte ∈ wsX8_init := by decide +kernel
  have hin8 : ∀ w ∈ u_ws RX8 TX8 2, w ∈ wsX8_init := by decide +kernel
  have lk11 : Cond.fieldLink RX8 11 "TributeFleet$Tape" "bytes" "[B" ∈ wsX8_init := by decide +kernel
  have lk15 : Cond.fieldLink RX8 15 "TributeFleet$Tape" "size" "I" ∈ wsX8_init := by decide +kernel
  refine dv_of (cc := cX8_init) (maxL := 1) (ret := none) (by decide +kernel) rfl (Nat.le_of_ble_eq_true rfl) ?_
  intro pv ev sv mv args below meth cv A C hrt9 hnm9
  have C : Cx pv sv mv args meth cv cX8_init 1 RX8 wsX8_init G A [0, 1, 2, 3, 4, 5, 6, 7, 8, 9, 10] ad := C
  show XJ pv l ev _ sv mv args below meth cv G A [0, 1, 2, 3, 4, 5, 6, 7, 8, 9, 10] ad _ 1 0 0 _ 0 [(0, .ref (ad 10))] []
  refine x_aload_n C 0 dX8_init_0 rfl rfl ?_
  refine x_obj C oi1 oi2 oi3 (Nat.le_of_ble_eq_true rfl) (Nat.le_of_ble_eq_true rfl) dX8_init_1 ?_
  refine x_aload_n C 0 dX8_init_4 rfl rfl ?_
  refine x_sipush C dX8_init_5 (v := 400) (by decide) ?_
  refine x_newaF C (atype := .byte) (ty := .byte) (N' := 400) (f := (fun _ => 0)) 11 arrbyte rfl (t0 := 1) rfl (by decide) (fun _ => rfl) (by decide) (by decide) (Nat.le_of_ble_eq_true rfl) (Nat.le_of_ble_eq_true rfl) (Nat.le_of_ble_eq_true rfl) dX8_init_8 (fun a1 p1 A1 B1 N1 C => ?_)
  have F2 : p1 10 = .inr (8, [.null, .int 0]) := (B1 10 (by decide)).trans hr
  rw [← A1 10 (by decide)]
  refine x_putFG C (T := TX8) (N := 2) (ty := .array .byte) 10 0 hin8 tyX8 tyX8_ok nmX8 (by decide) F2 rfl (by decide) lk11 rfl rfl hnm9 rfl (by decide +kernel) rfl rfl (Nat.le_of_ble_eq_true rfl) dX8_init_10 (fun p3 B3 N3 => ?_)
  replace N3 : p3 10 = .inr (8, [.ref (a1 11), .int 0]) := N3
  refine x_aload_n C 0 dX8_init_13 rfl rfl ?_
  refine x_iconst C dX8_init_14 (v := 0) (by decide) ?_
  refine x_putG C (T := TX8) (N := 2) (ty := .int) 10 1 hin8 tyX8 tyX8_ok nmX8 (by decide) N3 rfl (by decide) lk15 rfl rfl (by decide +kernel) rfl rfl (Nat.le_of_ble_eq_true rfl) dX8_init_15 (fun p4 B4 N4 => ?_)
  replace N4 : p4 10 = .inr (8, [.ref (a1 11), .int 0]) := N4
  refine x_vretA C hrt9 ?_ dX8_init_18
  refine ⟨fun i h1 => (A1 i h1), fun i h0 h1 => (((B4 i h0).trans (B3 i h0)).trans (B1 i h1)), N4, (((B4 11 (by decide)).trans (B3 11 (by decide))).trans N1)⟩

set_option maxHeartbeats 4000000 in
set_option maxRecDepth 100000 in
theorem k_X4_init (l : Launch) (G : tf_G) (ad : Nat → Nat) (P : Nat → va_E)  (hr : P 12 = .inr (4, [.null, .int 0, .int 0, .int 0, .int 0])) : Dv l yX4_init wsX4_init ({ frames := 1, cells := 0, slots := 0, locals := 12 } : Room) G [0, 1, 2, 3, 4, 5, 6, 7, 8, 9, 10, 11, 12] ad P [.ref (ad 12), .ref (ad 10)] [0, 1, 2, 3, 4, 5, 6, 7, 8, 9, 10, 11, 12] (fun u => (∀ i, u.1 i = ad i) ∧ (∀ i, i ≠ 12 → u.2 i = P i) ∧ u.2 12 = .inr (4, [.ref (u.1 10), .int 0, .int 0, .int 0, .int 0])) := by
  have oi1 : Cond.methodLink RX4 3 objectInit ∈ wsX4_init := by decide +kernel
  have oi2 : Cond.instanceMethod objectInit ∈ wsX4_init := by decide +kernel
  have oi3 : Cond.code objectInit ⟨#[0xb1]⟩ 1 none ∈ wsX4_init := by decide +kernel
  have hin4 : ∀ w ∈ u_ws RX4 TX4 5, w ∈ wsX4_init := by decide +kernel
  have lk9 : Cond.fieldLink RX4 9 "TributeFleet$Reader" "tape" "LTributeFleet$Tape;" ∈ wsX4_init := by decide +kernel
  have lk15 : Cond.fieldLink RX4 15 "TributeFleet$Reader" "length" "I" ∈ wsX4_init := by decide +kernel
  have lk19 : Cond.fieldLink RX4 19 "TributeFleet$Reader" "start" "I" ∈ wsX4_init := by decide +kernel
  have lk22 : Cond.fieldLink RX4 22 "TributeFleet$Reader" "end" "I" ∈ wsX4_init := by decide +kernel
  have lk25 : Cond.fieldLink RX4 25 "TributeFleet$Reader" "kind" "I" ∈ wsX4_init := by decide +kernel
  refine dv_of (cc := cX4_init) (maxL := 2) (ret := none) (by decide +kernel) rfl (Nat.le_of_ble_eq_true rfl) ?_
  intro pv ev sv mv args below meth cv A C hrt9 hnm9
  have C : Cx pv sv mv args meth cv cX4_init 2 RX4 wsX4_init G A [0, 1, 2, 3, 4, 5, 6, 7, 8, 9, 10, 11, 12] ad := C
  show XJ pv l ev _ sv mv args below meth cv G A [0, 1, 2, 3, 4, 5, 6, 7, 8, 9, 10, 11, 12] ad _ 2 0 0 _ 0 [(0, .ref (ad 12)), (1, .ref (ad 10))] []
  refine x_aload_n C 0 dX4_init_0 rfl rfl ?_
  refine x_obj C oi1 oi2 oi3 (Nat.le_of_ble_eq_true rfl) (Nat.le_of_ble_eq_true rfl) dX4_init_1 ?_
  refine x_aload_n C 0 dX4_init_4 rfl rfl ?_
  refine x_aload_n C 1 dX4_init_5 rfl rfl ?_
  refine x_putFG C (T := TX4) (N := 5) (ty := .object "TributeFleet$Tape") 12 0 hin4 tyX4 tyX4_ok nmX4 (by decide) hr rfl (by decide) lk9 rfl rfl hnm9 rfl (by decide +kernel) rfl rfl (Nat.le_of_ble_eq_true rfl) dX4_init_6 (fun p1 B1 N1 => ?_)
  replace N1 : p1 12 = .inr (4, [.ref (ad 10), .int 0, .int 0, .int 0, .int 0]) := N1
  refine x_aload_n C 0 dX4_init_9 rfl rfl ?_
  refine x_iconst C dX4_init_10 (v := 0) (by decide) ?_
  refine x_putG C (T := TX4) (N := 5) (ty := .int) 12 1 hin4 tyX4 tyX4_ok nmX4 (by decide) N1 rfl (by decide) lk15 rfl rfl (by decide +kernel) rfl rfl (Nat.le_of_ble_eq_true rfl) dX4_init_11 (fun p2 B2 N2 => ?_)
  replace N2 : p2 12 = .inr (4, [.ref (ad 10), .int 0, .int 0, .int 0, .int 0]) := N2
  refine x_aload_n C 0 dX4_init_14 rfl rfl ?_
  refine x_iconst C dX4_init_15 (v := 0) (by decide) ?_
  refine x_putG C (T := TX4) (N := 5) (ty := .int) 12 2 hin4 tyX4 tyX4_ok nmX4 (by decide) N2 rfl (by decide) lk19 rfl rfl (by decide +kernel) rfl rfl (Nat.le_of_ble_eq_true rfl) dX4_init_16 (fun p3 B3 N3 => ?_)
  replace N3 : p3 12 = .inr (4, [.ref (ad 10), .int 0, .int 0, .int 0, .int 0]) := N3
  refine x_aload_n C 0 dX4_init_19 rfl rfl ?_
  refine x_iconst C dX4_init_20 (v := 0) (by decide) ?_
  refine x_putG C (T := TX4) (N := 5) (ty := .int) 12 3 hin4 tyX4 tyX4_ok nmX4 (by decide) N3 rfl (by decide) lk22 rfl rfl (by decide +kernel) rfl rfl (Nat.le_of_ble_eq_true rfl) dX4_init_21 (fun p4 B4 N4 => ?_)
  replace N4 : p4 12 = .inr (4, [.ref (ad 10), .int 0, .int 0, .int 0, .int 0]) := N4
  refine x_aload_n C 0 dX4_init_24 rfl rfl ?_
  refine x_iconst C dX4_init_25 (v := 0) (by decide) ?_
  refine x_putG C (T := TX4) (N := 5) (ty := .int) 12 4 hin4 tyX4 tyX4_ok nmX4 (by decide) N4 rfl (by decide) lk25 rfl rfl (by decide +kernel) rfl rfl (Nat.le_of_ble_eq_true rfl) dX4_init_26 (fun p5 B5 N5 => ?_)
  replace N5 : p5 12 = .inr (4, [.ref (ad 10), .int 0, .int 0, .int 0, .int 0]) := N5
  refine x_vretA C hrt9 ?_ dX4_init_29
  refine ⟨fun i  => rfl, fun i h0 => (((((B5 i h0).trans (B4 i h0)).trans (B3 i h0)).trans (B2 i h0)).trans (B1 i h0)), N5⟩

def al3 : Nat → Nat → Int32
  | 0 => fun _ => 0
  | i + 1 => upd (al3 i) i 3
theorem al3_3 : ∀ n k, k < n → al3 n k = 3 := by
  intro n
  induction n with
  | zero => intro k hk; exact absurd hk (Nat.not_lt_zero k)
  | succ n ih =>
    intro k hk
    show upd (al3 n) n 3 k = 3
    by_cases h : k = n
    · simp [upd, h]
    · simp only [upd, if_neg h]; exact ih k (by omega)
set_option maxHeartbeats 4000000 in
set_option maxRecDepth 100000 in
theorem k_X7_init (l : Launch) (G : tf_G) (ad : Nat → Nat) (P : Nat → va_E) (LL : List Nat) (o w : Nat) (how : o ≠ w) (ho : o ∈ LL) (hw : w ∉ LL) (nR : Nat) (hR12 : nR ≤ 12) (a1 a2 : Int32) (hr : P o = .inr (7, [.int 0, .int 0, .null, .int 0, .int 0, .int 0, .int 0])) : Dv l yX7_init wsX7_init ({ frames := 1, cells := 1, slots := 12, locals := 12 } : Room) G LL ad P [.ref (ad o), .int (nI nR), .int a1, .int a2] (LL ++ [w]) (fun u => (∀ i, i ≠ w → u.1 i = ad i) ∧ (∀ i, i ≠ o → i ≠ w → u.2 i = P i) ∧ u.2 o = .inr (7, [.int a1, .int a2, .ref (u.1 w), .int 2, .int 20, .int 2, .int 1]) ∧ u.2 w = .inl (G.2.1 0, nR, .inl (al3 nR))) := by
  have oi1 : Cond.methodLink RX7 3 objectInit ∈ wsX7_init := by decide +kernel
  have oi2 : Cond.instanceMethod objectInit ∈ wsX7_init := by decide +kernel
  have oi3 : Cond.code objectInit ⟨#[0xb1]⟩ 1 none ∈ wsX7_init := by decide +kernel
  have hin7 : ∀ w ∈ u_ws RX7 TX7 7, w ∈ wsX7_init := by decide +kernel
  have lk9 : Cond.fieldLink RX7 9 "TributeFleet$Statute" "number" "I" ∈ wsX7_init := by decide +kernel
  have lk15 : Cond.fieldLink RX7 15 "TributeFleet$Statute" "fromDay" "I" ∈ wsX7_init := by decide +kernel
  have arrint : Cond.arrayClass .int ∈ wsX7_init := by decide +kernel
  have lk18 : Cond.fieldLink RX7 18 "TributeFleet$Statute" "allowed" "[I" ∈ wsX7_init := by decide +kernel
  have lk22 : Cond.fieldLink RX7 22 "TributeFleet$Statute" "order" "I" ∈ wsX7_init := by decide +kernel
  have lk25 : Cond.fieldLink RX7 25 "TributeFleet$Statute" "loss" "I" ∈ wsX7_init := by decide +kernel
  have lk28 : Cond.fieldLink RX7 28 "TributeFleet$Statute" "goodsABoat" "I" ∈ wsX7_init := by decide +kernel
  have lk31 : Cond.fieldLink RX7 31 "TributeFleet$Statute" "fine" "I" ∈ wsX7_init := by decide +kernel
  refine dv_of (cc := cX7_init) (maxL := 5) (ret := none) (by decide +kernel) rfl (Nat.le_of_ble_eq_true rfl) ?_
  intro pv ev sv mv args below meth cv A C hrt9 hnm9
  have C : Cx pv sv mv args meth cv cX7_init 5 RX7 wsX7_init G A LL ad := C
  show XJ pv l ev _ sv mv args below meth cv G A LL ad _ 5 0 0 _ 0 [(0, .ref (ad o)), (1, .int (nI nR)), (2, .int a1), (3, .int a2)] []
  refine x_aload_n C 0 dX7_init_0 rfl rfl ?_
  refine x_obj C oi1 oi2 oi3 (Nat.le_of_ble_eq_true rfl) (Nat.le_of_ble_eq_true rfl) dX7_init_1 ?_
  refine x_aload_n C 0 dX7_init_4 rfl rfl ?_
  refine x_iload_n C 2 dX7_init_5 rfl rfl ?_
  refine x_putFG C (T := TX7) (N := 7) (ty := .int) o 0 hin7 tyX7 tyX7_ok nmX7 ho hr rfl (by decide) lk9 rfl rfl hnm9 rfl (by decide +kernel) rfl rfl (Nat.le_of_ble_eq_true rfl) dX7_init_6 (fun p1 B1 N1 => ?_)
  replace N1 : p1 o = .inr (7, [.int a1, .int 0, .null, .int 0, .int 0, .int 0, .int 0]) := N1
  refine x_aload_n C 0 dX7_init_9 rfl rfl ?_
  refine x_iload_n C 3 dX7_init_10 rfl rfl ?_
  refine x_putFG C (T := TX7) (N := 7) (ty := .int) o 1 hin7 tyX7 tyX7_ok nmX7 ho N1 rfl (by decide) lk15 rfl rfl hnm9 rfl (by decide +kernel) rfl rfl (Nat.le_of_ble_eq_true rfl) dX7_init_11 (fun p2 B2 N2 => ?_)
  replace N2 : p2 o = .inr (7, [.int a1, .int a2, .null, .int 0, .int 0, .int 0, .int 0]) := N2
  refine x_aload_n C 0 dX7_init_14 rfl rfl ?_
  refine x_iload_n C 1 dX7_init_15 rfl rfl ?_
  refine x_newaF C (atype := .int) (ty := .int) (N' := nR) (f := (fun _ => 0)) w arrint rfl (t0 := 0) rfl hw (fun _ => rfl) (nI_pos (by omega)) (nI_clamp (by omega)) (by show nR * 4 ≤ _; omega) (Nat.le_of_ble_eq_true rfl) (Nat.le_trans (Nat.add_le_add_left hR12 _) (Nat.le_of_ble_eq_true rfl)) dX7_init_16 (fun a3 p3 A3 B3 N3 C => ?_)
  have F4 : p3 o = .inr (7, [.int a1, .int a2, .null, .int 0, .int 0, .int 0, .int 0]) := (B3 o (by omega)).trans N2
  rw [← A3 o (by omega)]
  refine x_widen (k := 1) (n := 12) (Nat.le_refl _) (Nat.le_trans (Nat.add_le_add_left hR12 _) (Nat.le_of_ble_eq_true rfl)) ?_
  refine x_putFG C (T := TX7) (N := 7) (ty := .array .int) o 2 hin7 tyX7 tyX7_ok nmX7 (List.mem_append_left _ ho) F4 rfl (by decide) lk18 rfl rfl hnm9 rfl (by decide +kernel) rfl rfl (Nat.le_of_ble_eq_true rfl) dX7_init_18 (fun p5 B5 N5 => ?_)
  replace N5 : p5 o = .inr (7, [.int a1, .int a2, .ref (a3 w), .int 0, .int 0, .int 0, .int 0]) := N5
  refine x_iconst C dX7_init_21 (v := 0) (by decide) ?_
  refine x_istore C (L1 := [(4, .int 0), (0, .ref (a3 o)), (1, .int (nI nR)), (2, .int a1), (3, .int a2)]) dX7_init_22 (by decide) rfl ?_
  suffices hk24 : ∀ P1 : Nat → va_E, (∀ x, x ≠ w → P1 x = p5 x) → P1 w = .inl (G.2.1 0, nR, .inl (al3 nR)) → XJ pv l ev ({ frames := 1, cells := 1, slots := 12, locals := 12 } : Room) sv mv args below meth cv G A (LL ++ [w]) a3 (MQ below (va_Qv (fun u => (∀ i, i ≠ w → u.1 i = ad i) ∧ (∀ i, i ≠ o → i ≠ w → u.2 i = P i) ∧ u.2 o = .inr (7, [.int a1, .int a2, .ref (u.1 w), .int 2, .int 20, .int 2, .int 1]) ∧ u.2 w = .inl (G.2.1 0, nR, .inl (al3 nR))) (tf_BA G A (LL ++ [w])) A) args sv 1 12 A) 5 1 12 P1 44 [(4, .int (nI nR)), (0, .ref (a3 o)), (1, .int (nI nR)), (2, .int a1), (3, .int a2)] [] from by
    have lp : ∀ (k i : Nat) (P1 : Nat → va_E), i + k = nR → (∀ x, x ≠ w → P1 x = p5 x) → P1 w = .inl (G.2.1 0, nR, .inl (al3 i)) → XJ pv l ev ({ frames := 1, cells := 1, slots := 12, locals := 12 } : Room) sv mv args below meth cv G A (LL ++ [w]) a3 (MQ below (va_Qv (fun u => (∀ i, i ≠ w → u.1 i = ad i) ∧ (∀ i, i ≠ o → i ≠ w → u.2 i = P i) ∧ u.2 o = .inr (7, [.int a1, .int a2, .ref (u.1 w), .int 2, .int 20, .int 2, .int 1]) ∧ u.2 w = .inl (G.2.1 0, nR, .inl (al3 nR))) (tf_BA G A (LL ++ [w])) A) args sv 1 12 A) 5 1 12 P1 24 [(4, .int (nI i)), (0, .ref (a3 o)), (1, .int (nI nR)), (2, .int a1), (3, .int a2)] [] := by
      intro k
      induction k with
      | zero =>
        intro i P1 hi h1 h2
        refine x_iload C 0 dX7_init_24 rfl ?_
        refine x_iload_n C 2 dX7_init_26 rfl rfl ?_
        refine x_icmp_ge C (tgt := 44) dX7_init_27 (by decide) (fun c27 => ?_) (fun c27 => ?_)
        · rw [show i = nR by omega] at h2 ⊢
          exact hk24 P1 h1 h2
        · exact absurd (nI_le (show nR ≤ i by omega) (by omega)) c27
      | succ k ih =>
        intro i P1 hi h1 h2
        refine x_iload C 0 dX7_init_24 rfl ?_
        refine x_iload_n C 2 dX7_init_26 rfl rfl ?_
        refine x_icmp_ge C (tgt := 44) dX7_init_27 (by decide) (fun c27 => ?_) (fun c27 => ?_)
        · exact absurd (nI_ge' c27 (by omega)) (by omega)
        have ho1 : P1 o = .inr (7, [.int a1, .int a2, .ref (a3 w), .int 0, .int 0, .int 0, .int 0]) := (h1 o (by omega)).trans N5
        refine x_aload_n C 1 dX7_init_30 rfl rfl ?_
        refine x_get C (T := TX7) (N := 7) (v := .ref (a3 w)) o 2 hin7 (List.mem_append_left _ ho) ho1 rfl (by decide) lk18 rfl rfl dX7_init_31 ?_
        refine x_iload C 0 dX7_init_34 rfl ?_
        refine x_iconst C dX7_init_36 (v := 3) (by decide) ?_
        refine x_iastG C w (List.mem_append_right _ (List.mem_singleton.mpr rfl)) h2 (nI_in (show i < nR by omega) (by omega)) dX7_init_37 (fun P2 B2 N2 => ?_)
        rw [nI_clamp (show i < 2 ^ 31 by omega)] at N2
        refine x_iinc C (L1 := [(4, .int (nI i + 1)), (0, .ref (a3 o)), (1, .int (nI nR)), (2, .int a1), (3, .int a2)]) 0 dX7_init_38 rfl rfl (by decide) rfl ?_
        refine x_goto C (tgt := 24) dX7_init_41 (by decide) ?_
        rw [← nI_succ]
        exact ih (i + 1) P2 (by omega) (fun x hx => (B2 x hx).trans (h1 x hx)) N2
    exact lp nR 0 p5 (by omega) (fun _ _ => rfl) ((B5 w (by omega)).trans N3)
  intro p24 B24 N24
  have F6 : p24 o = .inr (7, [.int a1, .int a2, .ref (a3 w), .int 0, .int 0, .int 0, .int 0]) := (B24 o (by omega)).trans N5
  refine x_aload_n C 1 dX7_init_44 rfl rfl ?_
  refine x_iconst C dX7_init_45 (v := 2) (by decide) ?_
  refine x_putG C (T := TX7) (N := 7) (ty := .int) o 3 hin7 tyX7 tyX7_ok nmX7 (List.mem_append_left _ ho) F6 rfl (by decide) lk22 rfl rfl (by decide +kernel) rfl rfl (Nat.le_of_ble_eq_true rfl) dX7_init_46 (fun p7 B7 N7 => ?_)
  replace N7 : p7 o = .inr (7, [.int a1, .int a2, .ref (a3 w), .int 2, .int 0, .int 0, .int 0]) := N7
  refine x_aload_n C 1 dX7_init_49 rfl rfl ?_
  refine x_bipush C dX7_init_50 (v := 20) (by decide) ?_
  refine x_putG C (T := TX7) (N := 7) (ty := .int) o 4 hin7 tyX7 tyX7_ok nmX7 (List.mem_append_left _ ho) N7 rfl (by decide) lk25 rfl rfl (by decide +kernel) rfl rfl (Nat.le_of_ble_eq_true rfl) dX7_init_52 (fun p8 B8 N8 => ?_)
  replace N8 : p8 o = .inr (7, [.int a1, .int a2, .ref (a3 w), .int 2, .int 20, .int 0, .int 0]) := N8
  refine x_aload_n C 1 dX7_init_55 rfl rfl ?_
  refine x_iconst C dX7_init_56 (v := 2) (by decide) ?_
  refine x_putG C (T := TX7) (N := 7) (ty := .int) o 5 hin7 tyX7 tyX7_ok nmX7 (List.mem_append_left _ ho) N8 rfl (by decide) lk28 rfl rfl (by decide +kernel) rfl rfl (Nat.le_of_ble_eq_true rfl) dX7_init_57 (fun p9 B9 N9 => ?_)
  replace N9 : p9 o = .inr (7, [.int a1, .int a2, .ref (a3 w), .int 2, .int 20, .int 2, .int 0]) := N9
  refine x_aload_n C 1 dX7_init_60 rfl rfl ?_
  refine x_iconst C dX7_init_61 (v := 1) (by decide) ?_
  refine x_putG C (T := TX7) (N := 7) (ty := .int) o 6 hin7 tyX7 tyX7_ok nmX7 (List.mem_append_left _ ho) N9 rfl (by decide) lk31 rfl rfl (by decide +kernel) rfl rfl (Nat.le_of_ble_eq_true rfl) dX7_init_62 (fun p10 B10 N10 => ?_)
  replace N10 : p10 o = .inr (7, [.int a1, .int a2, .ref (a3 w), .int 2, .int 20, .int 2, .int 1]) := N10
  refine x_vretA C hrt9 ?_ dX7_init_65
  refine ⟨fun i h1 => (A3 i h1), fun i h0 h1 => (((((((((B10 i h0).trans (B9 i h0)).trans (B8 i h0)).trans (B7 i h0)).trans (B24 i h1)).trans (B5 i h0)).trans (B3 i h1)).trans (B2 i h0)).trans (B1 i h0)), N10, (((((B10 w (by omega)).trans (B9 w (by omega))).trans (B8 w (by omega))).trans (B7 w (by omega))).trans N24)⟩

set_option maxHeartbeats 4000000 in
set_option maxRecDepth 100000 in
theorem k_X6_init (l : Launch) (G : tf_G) (ad : Nat → Nat) (P : Nat → va_E) (LL : List Nat) (o d b : Nat) (hod : o ≠ d) (hob : o ≠ b) (hdb : d ≠ b) (ho : o ∈ LL) (hd : d ∉ LL) (hb : b ∉ LL) (nR : Nat) (hR12 : nR ≤ 12) (a1 a2 a3 a4 : Int32) (hr : P o = .inr (6, [.int 0, .int 0, .int 0, .int 0, .null, .null, .int 0, .int 0, .int 0, .int 0, .int 0, .int 0])) : Dv l yX6_init wsX6_init ({ frames := 1, cells := 2, slots := 16, locals := 12 } : Room) G LL ad P [.ref (ad o), .int (nI nR), .int a1, .int a2, .int a3, .int a4] ((LL ++ [d]) ++ [b]) (fun u => (∀ i, i ≠ d → i ≠ b → u.1 i = ad i) ∧ (∀ i, i ≠ o → i ≠ d → i ≠ b → u.2 i = P i) ∧ u.2 o = .inr (6, [.int a1, .int a2, .int a3, .int a4, .ref (u.1 d), .ref (u.1 b), .int 0, .int (-1), .int 0, .int 0, .int 400, .int 0]) ∧ u.2 d = .inl (G.2.1 0, nR, .inl (fun _ => 0)) ∧ u.2 b = .inl (G.2.1 0, 4, .inl (fun _ => 0))) := by
  have oi1 : Cond.methodLink RX6 3 objectInit ∈ wsX6_init := by decide +kernel
  have oi2 : Cond.instanceMethod objectInit ∈ wsX6_init := by decide +kernel
  have oi3 : Cond.code objectInit ⟨#[0xb1]⟩ 1 none ∈ wsX6_init := by decide +kernel
  have hin6 : ∀ w ∈ u_ws RX6 TX6 12, w ∈ wsX6_init := by decide +kernel
  have lk9 : Cond.fieldLink RX6 9 "TributeFleet$Squadron" "county" "I" ∈ wsX6_init := by decide +kernel
  have lk15 : Cond.fieldLink RX6 15 "TributeFleet$Squadron" "boats" "I" ∈ wsX6_init := by decide +kernel
  have lk18 : Cond.fieldLink RX6 18 "TributeFleet$Squadron" "bags" "I" ∈ wsX6_init := by decide +kernel
  have lk21 : Cond.fieldLink RX6 21 "TributeFleet$Squadron" "goods" "I" ∈ wsX6_init := by decide +kernel
  have arrint : Cond.arrayClass .int ∈ wsX6_init := by decide +kernel
  have lk24 : Cond.fieldLink RX6 24 "TributeFleet$Squadron" "daysIn" "[I" ∈ wsX6_init := by decide +kernel
  have lk28 : Cond.fieldLink RX6 28 "TributeFleet$Squadron" "daysBy" "[I" ∈ wsX6_init := by decide +kernel
  have lk31 : Cond.fieldLink RX6 31 "TributeFleet$Squadron" "reach" "I" ∈ wsX6_init := by decide +kernel
  have lk34 : Cond.fieldLink RX6 34 "TributeFleet$Squadron" "cameOn" "I" ∈ wsX6_init := by decide +kernel
  have lk37 : Cond.fieldLink RX6 37 "TributeFleet$Squadron" "lost" "I" ∈ wsX6_init := by decide +kernel
  have lk40 : Cond.fieldLink RX6 40 "TributeFleet$Squadron" "why" "I" ∈ wsX6_init := by decide +kernel
  have lk43 : Cond.fieldLink RX6 43 "TributeFleet$Squadron" "dueDay" "I" ∈ wsX6_init := by decide +kernel
  have lk46 : Cond.fieldLink RX6 46 "TributeFleet$Squadron" "hasLeave" "Z" ∈ wsX6_init := by decide +kernel
  refine dv_of (cc := cX6_init) (maxL := 6) (ret := none) (by decide +kernel) rfl (Nat.le_of_ble_eq_true rfl) ?_
  intro pv ev sv mv args below meth cv A C hrt9 hnm9
  have C : Cx pv sv mv args meth cv cX6_init 6 RX6 wsX6_init G A LL ad := C
  show XJ pv l ev _ sv mv args below meth cv G A LL ad _ 6 0 0 _ 0 [(0, .ref (ad o)), (1, .int (nI nR)), (2, .int a1), (3, .int a2), (4, .int a3), (5, .int a4)] []
  refine x_aload_n C 0 dX6_init_0 rfl rfl ?_
  refine x_obj C oi1 oi2 oi3 (Nat.le_of_ble_eq_true rfl) (Nat.le_of_ble_eq_true rfl) dX6_init_1 ?_
  refine x_aload_n C 0 dX6_init_4 rfl rfl ?_
  refine x_iload_n C 2 dX6_init_5 rfl rfl ?_
  refine x_putFG C (T := TX6) (N := 12) (ty := .int) o 0 hin6 tyX6 tyX6_ok nmX6 ho hr rfl (by decide) lk9 rfl rfl hnm9 rfl (by decide +kernel) rfl rfl (Nat.le_of_ble_eq_true rfl) dX6_init_6 (fun p1 B1 N1 => ?_)
  replace N1 : p1 o = .inr (6, [.int a1, .int 0, .int 0, .int 0, .null, .null, .int 0, .int 0, .int 0, .int 0, .int 0, .int 0]) := N1
  refine x_aload_n C 0 dX6_init_9 rfl rfl ?_
  refine x_iload_n C 3 dX6_init_10 rfl rfl ?_
  refine x_putFG C (T := TX6) (N := 12) (ty := .int) o 1 hin6 tyX6 tyX6_ok nmX6 ho N1 rfl (by decide) lk15 rfl rfl hnm9 rfl (by decide +kernel) rfl rfl (Nat.le_of_ble_eq_true rfl) dX6_init_11 (fun p2 B2 N2 => ?_)
  replace N2 : p2 o = .inr (6, [.int a1, .int a2, .int 0, .int 0, .null, .null, .int 0, .int 0, .int 0, .int 0, .int 0, .int 0]) := N2
  refine x_aload_n C 0 dX6_init_14 rfl rfl ?_
  refine x_iload C 4 dX6_init_15 rfl ?_
  refine x_putFG C (T := TX6) (N := 12) (ty := .int) o 2 hin6 tyX6 tyX6_ok nmX6 ho N2 rfl (by decide) lk18 rfl rfl hnm9 rfl (by decide +kernel) rfl rfl (Nat.le_of_ble_eq_true rfl) dX6_init_17 (fun p3 B3 N3 => ?_)
  replace N3 : p3 o = .inr (6, [.int a1, .int a2, .int a3, .int 0, .null, .null, .int 0, .int 0, .int 0, .int 0, .int 0, .int 0]) := N3
  refine x_aload_n C 0 dX6_init_20 rfl rfl ?_
  refine x_iload C 5 dX6_init_21 rfl ?_
  refine x_putFG C (T := TX6) (N := 12) (ty := .int) o 3 hin6 tyX6 tyX6_ok nmX6 ho N3 rfl (by decide) lk21 rfl rfl hnm9 rfl (by decide +kernel) rfl rfl (Nat.le_of_ble_eq_true rfl) dX6_init_23 (fun p4 B4 N4 => ?_)
  replace N4 : p4 o = .inr (6, [.int a1, .int a2, .int a3, .int a4, .null, .null, .int 0, .int 0, .int 0, .int 0, .int 0, .int 0]) := N4
  refine x_aload_n C 0 dX6_init_26 rfl rfl ?_
  refine x_iload_n C 1 dX6_init_27 rfl rfl ?_
  refine x_newaF C (atype := .int) (ty := .int) (N' := nR) (f := (fun _ => 0)) d arrint rfl (t0 := 0) rfl hd (fun _ => rfl) (nI_pos (by omega)) (nI_clamp (by omega)) (by show nR * 4 ≤ _; omega) (Nat.le_of_ble_eq_true rfl) (Nat.le_trans (Nat.add_le_add_left hR12 _) (Nat.le_of_ble_eq_true rfl)) dX6_init_28 (fun a5 p5 A5 B5 N5 C => ?_)
  have F6 : p5 o = .inr (6, [.int a1, .int a2, .int a3, .int a4, .null, .null, .int 0, .int 0, .int 0, .int 0, .int 0, .int 0]) := (B5 o (by omega)).trans N4
  rw [← A5 o (by omega)]
  refine x_widen (k := 1) (n := 12) (Nat.le_refl _) (Nat.le_trans (Nat.add_le_add_left hR12 _) (Nat.le_of_ble_eq_true rfl)) ?_
  refine x_putFG C (T := TX6) (N := 12) (ty := .array .int) o 4 hin6 tyX6 tyX6_ok nmX6 (List.mem_append_left _ ho) F6 rfl (by decide) lk24 rfl rfl hnm9 rfl (by decide +kernel) rfl rfl (Nat.le_of_ble_eq_true rfl) dX6_init_30 (fun p7 B7 N7 => ?_)
  replace N7 : p7 o = .inr (6, [.int a1, .int a2, .int a3, .int a4, .ref (a5 d), .null, .int 0, .int 0, .int 0, .int 0, .int 0, .int 0]) := N7
  refine x_aload_n C 0 dX6_init_33 rfl rfl ?_
  refine x_iconst C dX6_init_34 (v := 4) (by decide) ?_
  refine x_newaF C (atype := .int) (ty := .int) (N' := 4) (f := (fun _ => 0)) b arrint rfl (t0 := 0) rfl (fun h => (List.mem_append.mp h).elim hb (fun h => hdb (List.mem_singleton.mp h).symm)) (fun _ => rfl) (by decide) (by decide) (Nat.le_of_ble_eq_true rfl) (Nat.le_of_ble_eq_true rfl) (Nat.le_of_ble_eq_true rfl) dX6_init_35 (fun a8 p8 A8 B8 N8 C => ?_)
  have F9 : p8 o = .inr (6, [.int a1, .int a2, .int a3, .int a4, .ref (a8 d), .null, .int 0, .int 0, .int 0, .int 0, .int 0, .int 0]) := by rw [A8 d (by omega)]; exact (B8 o (by omega)).trans N7
  rw [← A8 o (by omega)]
  refine x_putFG C (T := TX6) (N := 12) (ty := .array .int) o 5 hin6 tyX6 tyX6_ok nmX6 (List.mem_append_left _ (List.mem_append_left _ ho)) F9 rfl (by decide) lk28 rfl rfl hnm9 rfl (by decide +kernel) rfl rfl (Nat.le_of_ble_eq_true rfl) dX6_init_37 (fun p10 B10 N10 => ?_)
  replace N10 : p10 o = .inr (6, [.int a1, .int a2, .int a3, .int a4, .ref (a8 d), .ref (a8 b), .int 0, .int 0, .int 0, .int 0, .int 0, .int 0]) := N10
  refine x_aload_n C 0 dX6_init_40 rfl rfl ?_
  refine x_iconst C dX6_init_41 (v := 0) (by decide) ?_
  refine x_putG C (T := TX6) (N := 12) (ty := .int) o 6 hin6 tyX6 tyX6_ok nmX6 (List.mem_append_left _ (List.mem_append_left _ ho)) N10 rfl (by decide) lk31 rfl rfl (by decide +kernel) rfl rfl (Nat.le_of_ble_eq_true rfl) dX6_init_42 (fun p11 B11 N11 => ?_)
  replace N11 : p11 o = .inr (6, [.int a1, .int a2, .int a3, .int a4, .ref (a8 d), .ref (a8 b), .int 0, .int 0, .int 0, .int 0, .int 0, .int 0]) := N11
  refine x_aload_n C 0 dX6_init_45 rfl rfl ?_
  refine x_iconst C dX6_init_46 (v := -1) (by decide) ?_
  refine x_putG C (T := TX6) (N := 12) (ty := .int) o 7 hin6 tyX6 tyX6_ok nmX6 (List.mem_append_left _ (List.mem_append_left _ ho)) N11 rfl (by decide) lk34 rfl rfl (by decide +kernel) rfl rfl (Nat.le_of_ble_eq_true rfl) dX6_init_47 (fun p12 B12 N12 => ?_)
  replace N12 : p12 o = .inr (6, [.int a1, .int a2, .int a3, .int a4, .ref (a8 d), .ref (a8 b), .int 0, .int (-1), .int 0, .int 0, .int 0, .int 0]) := N12
  refine x_aload_n C 0 dX6_init_50 rfl rfl ?_
  refine x_iconst C dX6_init_51 (v := 0) (by decide) ?_
  refine x_putG C (T := TX6) (N := 12) (ty := .int) o 8 hin6 tyX6 tyX6_ok nmX6 (List.mem_append_left _ (List.mem_append_left _ ho)) N12 rfl (by decide) lk37 rfl rfl (by decide +kernel) rfl rfl (Nat.le_of_ble_eq_true rfl) dX6_init_52 (fun p13 B13 N13 => ?_)
  replace N13 : p13 o = .inr (6, [.int a1, .int a2, .int a3, .int a4, .ref (a8 d), .ref (a8 b), .int 0, .int (-1), .int 0, .int 0, .int 0, .int 0]) := N13
  refine x_aload_n C 0 dX6_init_55 rfl rfl ?_
  refine x_iconst C dX6_init_56 (v := 0) (by decide) ?_
  refine x_putG C (T := TX6) (N := 12) (ty := .int) o 9 hin6 tyX6 tyX6_ok nmX6 (List.mem_append_left _ (List.mem_append_left _ ho)) N13 rfl (by decide) lk40 rfl rfl (by decide +kernel) rfl rfl (Nat.le_of_ble_eq_true rfl) dX6_init_57 (fun p14 B14 N14 => ?_)
  replace N14 : p14 o = .inr (6, [.int a1, .int a2, .int a3, .int a4, .ref (a8 d), .ref (a8 b), .int 0, .int (-1), .int 0, .int 0, .int 0, .int 0]) := N14
  refine x_aload_n C 0 dX6_init_60 rfl rfl ?_
  refine x_sipush C dX6_init_61 (v := 400) (by decide) ?_
  refine x_putG C (T := TX6) (N := 12) (ty := .int) o 10 hin6 tyX6 tyX6_ok nmX6 (List.mem_append_left _ (List.mem_append_left _ ho)) N14 rfl (by decide) lk43 rfl rfl (by decide +kernel) rfl rfl (Nat.le_of_ble_eq_true rfl) dX6_init_64 (fun p15 B15 N15 => ?_)
  replace N15 : p15 o = .inr (6, [.int a1, .int a2, .int a3, .int a4, .ref (a8 d), .ref (a8 b), .int 0, .int (-1), .int 0, .int 0, .int 400, .int 0]) := N15
  refine x_aload_n C 0 dX6_init_67 rfl rfl ?_
  refine x_iconst C dX6_init_68 (v := 0) (by decide) ?_
  refine x_putG C (T := TX6) (N := 12) (ty := .boolean) o 11 hin6 tyX6 tyX6_ok nmX6 (List.mem_append_left _ (List.mem_append_left _ ho)) N15 rfl (by decide) lk46 rfl rfl (by decide +kernel) rfl rfl (Nat.le_of_ble_eq_true rfl) dX6_init_69 (fun p16 B16 N16 => ?_)
  replace N16 : p16 o = .inr (6, [.int a1, .int a2, .int a3, .int a4, .ref (a8 d), .ref (a8 b), .int 0, .int (-1), .int 0, .int 0, .int 400, .int 0]) := N16
  refine x_vretA C hrt9 ?_ dX6_init_72
  refine ⟨fun i h1 h2 => ((A8 i h2).trans (A5 i h1)), fun i h0 h1 h2 => ((((((((((((((B16 i h0).trans (B15 i h0)).trans (B14 i h0)).trans (B13 i h0)).trans (B12 i h0)).trans (B11 i h0)).trans (B10 i h0)).trans (B8 i h2)).trans (B7 i h0)).trans (B5 i h1)).trans (B4 i h0)).trans (B3 i h0)).trans (B2 i h0)).trans (B1 i h0)), N16, ((((((((((B16 d (by omega)).trans (B15 d (by omega))).trans (B14 d (by omega))).trans (B13 d (by omega))).trans (B12 d (by omega))).trans (B11 d (by omega))).trans (B10 d (by omega))).trans (B8 d (by omega))).trans (B7 d (by omega))).trans N5), ((((((((B16 b (by omega)).trans (B15 b (by omega))).trans (B14 b (by omega))).trans (B13 b (by omega))).trans (B12 b (by omega))).trans (B11 b (by omega))).trans (B10 b (by omega))).trans N8)⟩

set_option maxHeartbeats 4000000 in
set_option maxRecDepth 100000 in
theorem k_X1_init (l : Launch) (G : tf_G) (ad : Nat → Nat) (P : Nat → va_E) (nR : Nat) (hR12 : nR ≤ 12) (hr : P 13 = .inr (1, [.null, .null, .int 0])) : Dv l yX1_init wsX1_init ({ frames := 2, cells := 3, slots := 29, locals := 36 } : Room) G [0, 1, 2, 3, 4, 5, 6, 7, 8, 9, 10, 11, 12, 13] ad P [.ref (ad 13), .int (nI nR)] ((([0, 1, 2, 3, 4, 5, 6, 7, 8, 9, 10, 11, 12, 13] ++ [14]) ++ [15]) ++ [16]) (fun u => (∀ i, i ≠ 14 → i ≠ 15 → i ≠ 16 → u.1 i = ad i) ∧ (∀ i, i ≠ 13 → i ≠ 14 → i ≠ 15 → i ≠ 16 → u.2 i = P i) ∧ u.2 13 = .inr (1, [.ref (u.1 14), .ref (u.1 15), .int 0]) ∧ u.2 14 = .inl (G.2.1 4, 10, .inr (.inr (.inr (.inr (fun _ => none))))) ∧ u.2 15 = .inr (7, [.int (-1), .int 0, .ref (u.1 16), .int 2, .int 20, .int 2, .int 1]) ∧ u.2 16 = .inl (G.2.1 0, nR, .inl (al3 nR))) := by
  have oi1 : Cond.methodLink RX1 3 objectInit ∈ wsX1_init := by decide +kernel
  have oi2 : Cond.instanceMethod objectInit ∈ wsX1_init := by decide +kernel
  have oi3 : Cond.code objectInit ⟨#[0xb1]⟩ 1 none ∈ wsX1_init := by decide +kernel
  have cl11 : Cond.classLink RX1 11 RX7 ∈ wsX1_init := by decide +kernel
  have hin1 : ∀ w ∈ u_ws RX1 TX1 3, w ∈ wsX1_init := by decide +kernel
  have lk13 : Cond.fieldLink RX1 13 "TributeFleet$Code" "taken" "[LTributeFleet$Statute;" ∈ wsX1_init := by decide +kernel
  have inst7 : Cond.instantiable RX7 7 ∈ wsX1_init := by decide +kernel
  have init7 : Cond.initialized RX7 ∈ wsX1_init := by decide +kernel
  have hin7 : ∀ w ∈ u_ws RX7 TX7 7, w ∈ wsX1_init := by decide +kernel
  have ml17 : Cond.methodLink RX1 17 yX7_init ∈ wsX1_init := by decide +kernel
  have imX7_init : Cond.instanceMethod yX7_init ∈ wsX1_init := by decide +kernel
  have lk20 : Cond.fieldLink RX1 20 "TributeFleet$Code" "unwritten" "LTributeFleet$Statute;" ∈ wsX1_init := by decide +kernel
  have lk24 : Cond.fieldLink RX1 24 "TributeFleet$Code" "size" "I" ∈ wsX1_init := by decide +kernel
  refine dv_of (cc := cX1_init) (maxL := 2) (ret := none) (by decide +kernel) rfl (Nat.le_of_ble_eq_true rfl) ?_
  intro pv ev sv mv args below meth cv A C hrt9 hnm9
  have C : Cx pv sv mv args meth cv cX1_init 2 RX1 wsX1_init G A [0, 1, 2, 3, 4, 5, 6, 7, 8, 9, 10, 11, 12, 13] ad := C
  show XJ pv l ev _ sv mv args below meth cv G A [0, 1, 2, 3, 4, 5, 6, 7, 8, 9, 10, 11, 12, 13] ad _ 2 0 0 _ 0 [(0, .ref (ad 13)), (1, .int (nI nR))] []
  refine x_aload_n C 0 dX1_init_0 rfl rfl ?_
  refine x_obj C oi1 oi2 oi3 (Nat.le_of_ble_eq_true rfl) (Nat.le_of_ble_eq_true rfl) dX1_init_1 ?_
  refine x_aload_n C 0 dX1_init_4 rfl rfl ?_
  refine x_bipush C dX1_init_5 (v := 10) (by decide) ?_
  refine x_newqF C (N' := 10) 14 cl11 C.2.2.1.2.2.2.2.2 (t0 := 4) rfl (by decide) (by decide) (by decide) (Nat.le_of_ble_eq_true rfl) (Nat.le_of_ble_eq_true rfl) (Nat.le_of_ble_eq_true rfl) dX1_init_7 (fun a1 p1 A1 B1 N1 C => ?_)
  have F2 : p1 13 = .inr (1, [.null, .null, .int 0]) := (B1 13 (by decide)).trans hr
  rw [← A1 13 (by decide)]
  refine x_putFG C (T := TX1) (N := 3) (ty := .array (.object "TributeFleet$Statute")) 13 0 hin1 tyX1 tyX1_ok nmX1 (by decide) F2 rfl (by decide) lk13 rfl rfl hnm9 rfl (by decide +kernel) rfl rfl (Nat.le_of_ble_eq_true rfl) dX1_init_10 (fun p3 B3 N3 => ?_)
  replace N3 : p3 13 = .inr (1, [.ref (a1 14), .null, .int 0]) := N3
  refine x_aload_n C 0 dX1_init_13 rfl rfl ?_
  refine x_newF C (ci := 7) (fs := [.int 0, .int 0, .null, .int 0, .int 0, .int 0, .int 0]) 15 hin7 tyX7 tyX7_ok cl11 inst7 init7 (by decide) rfl df7 (Nat.le_of_ble_eq_true rfl) (Nat.le_of_ble_eq_true rfl) dX1_init_14 (fun a4 p4 A4 B4 N4 C => ?_)
  have F5 : p4 13 = .inr (1, [.ref (a4 14), .null, .int 0]) := by rw [A4 14 (by decide)]; exact (B4 13 (by decide)).trans N3
  rw [← A4 13 (by decide)]
  refine x_dup C dX1_init_17 rfl ?_
  refine x_iload_n C 1 dX1_init_18 rfl rfl ?_
  refine x_iconst C dX1_init_19 (v := -1) (by decide) ?_
  refine x_iconst C dX1_init_20 (v := 0) (by decide) ?_
  refine x_I 15 C (k_X7_init l G a4 p4 (([0, 1, 2, 3, 4, 5, 6, 7, 8, 9, 10, 11, 12, 13] ++ [14]) ++ [15]) 15 16 (by omega) (by decide) (by decide) nR hR12 (-1) 0 N4) gX1_init_X7_init rfl init7 ml17 imX7_init rfl (by decide +kernel) ⟨(Nat.le_of_ble_eq_true rfl), (Nat.le_of_ble_eq_true rfl)⟩ ⟨(Nat.le_of_ble_eq_true rfl), (Nat.le_of_ble_eq_true rfl)⟩ (n := 3) rfl (st := [.ref (a4 15), .ref (a4 13)]) (Nat.le_of_ble_eq_true rfl) rfl dX1_init_21 (fun a6 p6 Q6 C => ?_)
  obtain ⟨A6, B6, N6_0, N6_1⟩ := Q6
  replace A6 : ∀ i, i ≠ 16 → a6 i = a4 i := A6
  replace B6 : ∀ i, i ≠ 15 → i ≠ 16 → p6 i = p4 i := B6
  replace N6_0 : p6 15 = .inr (7, [.int (-1), .int 0, .ref (a6 16), .int 2, .int 20, .int 2, .int 1]) := N6_0
  replace N6_1 : p6 16 = .inl (G.2.1 0, nR, .inl (al3 nR)) := N6_1
  have F7 : p6 13 = .inr (1, [.ref (a6 14), .null, .int 0]) := by rw [A6 14 (by decide)]; exact (B6 13 (by decide) (by decide)).trans F5
  rw [← A6 13 (by decide)]
  rw [← A6 15 (by decide)]
  refine x_putFG C (T := TX1) (N := 3) (ty := .object "TributeFleet$Statute") 13 1 hin1 tyX1 tyX1_ok nmX1 (by decide) F7 rfl (by decide) lk20 rfl rfl hnm9 rfl (by decide +kernel) rfl rfl (Nat.le_of_ble_eq_true rfl) dX1_init_24 (fun p8 B8 N8 => ?_)
  replace N8 : p8 13 = .inr (1, [.ref (a6 14), .ref (a6 15), .int 0]) := N8
  have F9 : p8 15 = .inr (7, [.int (-1), .int 0, .ref (a6 16), .int 2, .int 20, .int 2, .int 1]) := (B8 15 (by decide)).trans N6_0
  refine x_aload_n C 0 dX1_init_27 rfl rfl ?_
  refine x_iconst C dX1_init_28 (v := 0) (by decide) ?_
  refine x_putG C (T := TX1) (N := 3) (ty := .int) 13 2 hin1 tyX1 tyX1_ok nmX1 (by decide) N8 rfl (by decide) lk24 rfl rfl (by decide +kernel) rfl rfl (Nat.le_of_ble_eq_true rfl) dX1_init_29 (fun p10 B10 N10 => ?_)
  replace N10 : p10 13 = .inr (1, [.ref (a6 14), .ref (a6 15), .int 0]) := N10
  have F11 : p10 15 = .inr (7, [.int (-1), .int 0, .ref (a6 16), .int 2, .int 20, .int 2, .int 1]) := (B10 15 (by decide)).trans F9
  refine x_vretA C hrt9 ?_ dX1_init_32
  refine ⟨fun i h1 h2 h3 => (((A6 i h3).trans (A4 i h2)).trans (A1 i h1)), fun i h0 h1 h2 h3 => ((((((B10 i h0).trans (B8 i h0)).trans (B6 i h2 h3)).trans (B4 i h2)).trans (B3 i h0)).trans (B1 i h1)), N10, ((((((B10 14 (by decide)).trans (B8 14 (by decide))).trans (B6 14 (by decide) (by decide))).trans (B4 14 (by decide))).trans (B3 14 (by decide))).trans N1), F11, (((B10 16 (by decide)).trans (B8 16 (by decide))).trans N6_1)⟩

set_option maxHeartbeats 4000000 in
set_option maxRecDepth 100000 in
theorem k_X2_init (l : Launch) (G : tf_G) (ad : Nat → Nat) (P : Nat → va_E)  (hr : P 17 = .inr (2, [.null, .null, .null, .int 0])) : Dv l yX2_init wsX2_init ({ frames := 1, cells := 3, slots := 18, locals := 12 } : Room) G [0, 1, 2, 3, 4, 5, 6, 7, 8, 9, 10, 11, 12, 13, 14, 15, 16, 17] ad P [.ref (ad 17)] ((([0, 1, 2, 3, 4, 5, 6, 7, 8, 9, 10, 11, 12, 13, 14, 15, 16, 17] ++ [18]) ++ [19]) ++ [20]) (fun u => (∀ i, i ≠ 18 → i ≠ 19 → i ≠ 20 → u.1 i = ad i) ∧ (∀ i, i ≠ 17 → i ≠ 18 → i ≠ 19 → i ≠ 20 → u.2 i = P i) ∧ u.2 17 = .inr (2, [.ref (u.1 18), .ref (u.1 19), .ref (u.1 20), .int 0]) ∧ u.2 18 = .inl (G.2.1 0, 6, .inl (fun _ => 0)) ∧ u.2 19 = .inl (G.2.1 0, 6, .inl (fun _ => 0)) ∧ u.2 20 = .inl (G.2.1 0, 6, .inl (fun _ => 0))) := by
  have oi1 : Cond.methodLink RX2 3 objectInit ∈ wsX2_init := by decide +kernel
  have oi2 : Cond.instanceMethod objectInit ∈ wsX2_init := by decide +kernel
  have oi3 : Cond.code objectInit ⟨#[0xb1]⟩ 1 none ∈ wsX2_init := by decide +kernel
  have arrint : Cond.arrayClass .int ∈ wsX2_init := by decide +kernel
  have hin2 : ∀ w ∈ u_ws RX2 TX2 4, w ∈ wsX2_init := by decide +kernel
  have lk9 : Cond.fieldLink RX2 9 "TributeFleet$Counties" "allotted" "[I" ∈ wsX2_init := by decide +kernel
  have lk15 : Cond.fieldLink RX2 15 "TributeFleet$Counties" "commuted" "[I" ∈ wsX2_init := by decide +kernel
  have lk18 : Cond.fieldLink RX2 18 "TributeFleet$Counties" "paid" "[I" ∈ wsX2_init := by decide +kernel
  have lk21 : Cond.fieldLink RX2 21 "TributeFleet$Counties" "coinsABag" "I" ∈ wsX2_init := by decide +kernel
  refine dv_of (cc := cX2_init) (maxL := 1) (ret := none) (by decide +kernel) rfl (Nat.le_of_ble_eq_true rfl) ?_
  intro pv ev sv mv args below meth cv A C hrt9 hnm9
  have C : Cx pv sv mv args meth cv cX2_init 1 RX2 wsX2_init G A [0, 1, 2, 3, 4, 5, 6, 7, 8, 9, 10, 11, 12, 13, 14, 15, 16, 17] ad := C
  show XJ pv l ev _ sv mv args below meth cv G A [0, 1, 2, 3, 4, 5, 6, 7, 8, 9, 10, 11, 12, 13, 14, 15, 16, 17] ad _ 1 0 0 _ 0 [(0, .ref (ad 17))] []
  refine x_aload_n C 0 dX2_init_0 rfl rfl ?_
  refine x_obj C oi1 oi2 oi3 (Nat.le_of_ble_eq_true rfl) (Nat.le_of_ble_eq_true rfl) dX2_init_1 ?_
  refine x_aload_n C 0 dX2_init_4 rfl rfl ?_
  refine x_bipush C dX2_init_5 (v := 6) (by decide) ?_
  refine x_newaF C (atype := .int) (ty := .int) (N' := 6) (f := (fun _ => 0)) 18 arrint rfl (t0 := 0) rfl (by decide) (fun _ => rfl) (by decide) (by decide) (Nat.le_of_ble_eq_true rfl) (Nat.le_of_ble_eq_true rfl) (Nat.le_of_ble_eq_true rfl) dX2_init_7 (fun a1 p1 A1 B1 N1 C => ?_)
  have F2 : p1 17 = .inr (2, [.null, .null, .null, .int 0]) := (B1 17 (by decide)).trans hr
  rw [← A1 17 (by decide)]
  refine x_putFG C (T := TX2) (N := 4) (ty := .array .int) 17 0 hin2 tyX2 tyX2_ok nmX2 (by decide) F2 rfl (by decide) lk9 rfl rfl hnm9 rfl (by decide +kernel) rfl rfl (Nat.le_of_ble_eq_true rfl) dX2_init_9 (fun p3 B3 N3 => ?_)
  replace N3 : p3 17 = .inr (2, [.ref (a1 18), .null, .null, .int 0]) := N3
  refine x_aload_n C 0 dX2_init_12 rfl rfl ?_
  refine x_bipush C dX2_init_13 (v := 6) (by decide) ?_
  refine x_newaF C (atype := .int) (ty := .int) (N' := 6) (f := (fun _ => 0)) 19 arrint rfl (t0 := 0) rfl (by decide) (fun _ => rfl) (by decide) (by decide) (Nat.le_of_ble_eq_true rfl) (Nat.le_of_ble_eq_true rfl) (Nat.le_of_ble_eq_true rfl) dX2_init_15 (fun a4 p4 A4 B4 N4 C => ?_)
  have F5 : p4 17 = .inr (2, [.ref (a4 18), .null, .null, .int 0]) := by rw [A4 18 (by decide)]; exact (B4 17 (by decide)).trans N3
  rw [← A4 17 (by decide)]
  refine x_putFG C (T := TX2) (N := 4) (ty := .array .int) 17 1 hin2 tyX2 tyX2_ok nmX2 (by decide) F5 rfl (by decide) lk15 rfl rfl hnm9 rfl (by decide +kernel) rfl rfl (Nat.le_of_ble_eq_true rfl) dX2_init_17 (fun p6 B6 N6 => ?_)
  replace N6 : p6 17 = .inr (2, [.ref (a4 18), .ref (a4 19), .null, .int 0]) := N6
  refine x_aload_n C 0 dX2_init_20 rfl rfl ?_
  refine x_bipush C dX2_init_21 (v := 6) (by decide) ?_
  refine x_newaF C (atype := .int) (ty := .int) (N' := 6) (f := (fun _ => 0)) 20 arrint rfl (t0 := 0) rfl (by decide) (fun _ => rfl) (by decide) (by decide) (Nat.le_of_ble_eq_true rfl) (Nat.le_of_ble_eq_true rfl) (Nat.le_of_ble_eq_true rfl) dX2_init_23 (fun a7 p7 A7 B7 N7 C => ?_)
  have F8 : p7 17 = .inr (2, [.ref (a7 18), .ref (a7 19), .null, .int 0]) := by rw [A7 18 (by decide), A7 19 (by decide)]; exact (B7 17 (by decide)).trans N6
  rw [← A7 17 (by decide)]
  refine x_putFG C (T := TX2) (N := 4) (ty := .array .int) 17 2 hin2 tyX2 tyX2_ok nmX2 (by decide) F8 rfl (by decide) lk18 rfl rfl hnm9 rfl (by decide +kernel) rfl rfl (Nat.le_of_ble_eq_true rfl) dX2_init_25 (fun p9 B9 N9 => ?_)
  replace N9 : p9 17 = .inr (2, [.ref (a7 18), .ref (a7 19), .ref (a7 20), .int 0]) := N9
  refine x_aload_n C 0 dX2_init_28 rfl rfl ?_
  refine x_iconst C dX2_init_29 (v := 0) (by decide) ?_
  refine x_putG C (T := TX2) (N := 4) (ty := .int) 17 3 hin2 tyX2 tyX2_ok nmX2 (by decide) N9 rfl (by decide) lk21 rfl rfl (by decide +kernel) rfl rfl (Nat.le_of_ble_eq_true rfl) dX2_init_30 (fun p10 B10 N10 => ?_)
  replace N10 : p10 17 = .inr (2, [.ref (a7 18), .ref (a7 19), .ref (a7 20), .int 0]) := N10
  refine x_vretA C hrt9 ?_ dX2_init_33
  refine ⟨fun i h1 h2 h3 => (((A7 i h3).trans (A4 i h2)).trans (A1 i h1)), fun i h0 h1 h2 h3 => (((((((B10 i h0).trans (B9 i h0)).trans (B7 i h3)).trans (B6 i h0)).trans (B4 i h2)).trans (B3 i h0)).trans (B1 i h1)), N10, (((((((B10 18 (by decide)).trans (B9 18 (by decide))).trans (B7 18 (by decide))).trans (B6 18 (by decide))).trans (B4 18 (by decide))).trans (B3 18 (by decide))).trans N1), (((((B10 19 (by decide)).trans (B9 19 (by decide))).trans (B7 19 (by decide))).trans (B6 19 (by decide))).trans N4), (((B10 20 (by decide)).trans (B9 20 (by decide))).trans N7)⟩

set_option maxHeartbeats 4000000 in
set_option maxRecDepth 100000 in
theorem k_X5_init (l : Launch) (G : tf_G) (ad : Nat → Nat) (P : Nat → va_E)  (hr : P 21 = .inr (5, [.null, .null, .null, .null, .int 0, .int 0])) : Dv l yX5_init wsX5_init ({ frames := 1, cells := 4, slots := 82, locals := 12 } : Room) G [0, 1, 2, 3, 4, 5, 6, 7, 8, 9, 10, 11, 12, 13, 14, 15, 16, 17, 18, 19, 20, 21] ad P [.ref (ad 21)] (((([0, 1, 2, 3, 4, 5, 6, 7, 8, 9, 10, 11, 12, 13, 14, 15, 16, 17, 18, 19, 20, 21] ++ [22]) ++ [23]) ++ [24]) ++ [25]) (fun u => (∀ i, i ≠ 22 → i ≠ 23 → i ≠ 24 → i ≠ 25 → u.1 i = ad i) ∧ (∀ i, i ≠ 21 → i ≠ 22 → i ≠ 23 → i ≠ 24 → i ≠ 25 → u.2 i = P i) ∧ u.2 21 = .inr (5, [.ref (u.1 22), .ref (u.1 23), .ref (u.1 24), .ref (u.1 25), .int 0, .int 0]) ∧ u.2 22 = .inl (G.2.1 0, 6, .inl (fun _ => 0)) ∧ u.2 23 = .inl (G.2.1 0, 6, .inl (fun _ => 0)) ∧ u.2 24 = .inl (G.2.1 0, 6, .inl (fun _ => 0)) ∧ u.2 25 = .inl (G.2.1 0, 64, .inl (fun _ => 0))) := by
  have oi1 : Cond.methodLink RX5 3 objectInit ∈ wsX5_init := by decide +kernel
  have oi2 : Cond.instanceMethod objectInit ∈ wsX5_init := by decide +kernel
  have oi3 : Cond.code objectInit ⟨#[0xb1]⟩ 1 none ∈ wsX5_init := by decide +kernel
  have arrint : Cond.arrayClass .int ∈ wsX5_init := by decide +kernel
  have hin5 : ∀ w ∈ u_ws RX5 TX5 6, w ∈ wsX5_init := by decide +kernel
  have lk11 : Cond.fieldLink RX5 11 "TributeFleet$Schedule" "numbers" "[I" ∈ wsX5_init := by decide +kernel
  have lk15 : Cond.fieldLink RX5 15 "TributeFleet$Schedule" "takes" "[I" ∈ wsX5_init := by decide +kernel
  have lk18 : Cond.fieldLink RX5 18 "TributeFleet$Schedule" "dueDays" "[I" ∈ wsX5_init := by decide +kernel
  have lk21 : Cond.fieldLink RX5 21 "TributeFleet$Schedule" "rest" "[I" ∈ wsX5_init := by decide +kernel
  have lk24 : Cond.fieldLink RX5 24 "TributeFleet$Schedule" "size" "I" ∈ wsX5_init := by decide +kernel
  have lk28 : Cond.fieldLink RX5 28 "TributeFleet$Schedule" "firstDay" "I" ∈ wsX5_init := by decide +kernel
  refine dv_of (cc := cX5_init) (maxL := 1) (ret := none) (by decide +kernel) rfl (Nat.le_of_ble_eq_true rfl) ?_
  intro pv ev sv mv args below meth cv A C hrt9 hnm9
  have C : Cx pv sv mv args meth cv cX5_init 1 RX5 wsX5_init G A [0, 1, 2, 3, 4, 5, 6, 7, 8, 9, 10, 11, 12, 13, 14, 15, 16, 17, 18, 19, 20, 21] ad := C
  show XJ pv l ev _ sv mv args below meth cv G A [0, 1, 2, 3, 4, 5, 6, 7, 8, 9, 10, 11, 12, 13, 14, 15, 16, 17, 18, 19, 20, 21] ad _ 1 0 0 _ 0 [(0, .ref (ad 21))] []
  refine x_aload_n C 0 dX5_init_0 rfl rfl ?_
  refine x_obj C oi1 oi2 oi3 (Nat.le_of_ble_eq_true rfl) (Nat.le_of_ble_eq_true rfl) dX5_init_1 ?_
  refine x_aload_n C 0 dX5_init_4 rfl rfl ?_
  refine x_bipush C dX5_init_5 (v := 6) (by decide) ?_
  refine x_newaF C (atype := .int) (ty := .int) (N' := 6) (f := (fun _ => 0)) 22 arrint rfl (t0 := 0) rfl (by decide) (fun _ => rfl) (by decide) (by decide) (Nat.le_of_ble_eq_true rfl) (Nat.le_of_ble_eq_true rfl) (Nat.le_of_ble_eq_true rfl) dX5_init_7 (fun a1 p1 A1 B1 N1 C => ?_)
  have F2 : p1 21 = .inr (5, [.null, .null, .null, .null, .int 0, .int 0]) := (B1 21 (by decide)).trans hr
  rw [← A1 21 (by decide)]
  refine x_putFG C (T := TX5) (N := 6) (ty := .array .int) 21 0 hin5 tyX5 tyX5_ok nmX5 (by decide) F2 rfl (by decide) lk11 rfl rfl hnm9 rfl (by decide +kernel) rfl rfl (Nat.le_of_ble_eq_true rfl) dX5_init_9 (fun p3 B3 N3 => ?_)
  replace N3 : p3 21 = .inr (5, [.ref (a1 22), .null, .null, .null, .int 0, .int 0]) := N3
  refine x_aload_n C 0 dX5_init_12 rfl rfl ?_
  refine x_bipush C dX5_init_13 (v := 6) (by decide) ?_
  refine x_newaF C (atype := .int) (ty := .int) (N' := 6) (f := (fun _ => 0)) 23 arrint rfl (t0 := 0) rfl (by decide) (fun _ => rfl) (by decide) (by decide) (Nat.le_of_ble_eq_true rfl) (Nat.le_of_ble_eq_true rfl) (Nat.le_of_ble_eq_true rfl) dX5_init_15 (fun a4 p4 A4 B4 N4 C => ?_)
  have F5 : p4 21 = .inr (5, [.ref (a4 22), .null, .null, .null, .int 0, .int 0]) := by rw [A4 22 (by decide)]; exact (B4 21 (by decide)).trans N3
  rw [← A4 21 (by decide)]
  refine x_putFG C (T := TX5) (N := 6) (ty := .array .int) 21 1 hin5 tyX5 tyX5_ok nmX5 (by decide) F5 rfl (by decide) lk15 rfl rfl hnm9 rfl (by decide +kernel) rfl rfl (Nat.le_of_ble_eq_true rfl) dX5_init_17 (fun p6 B6 N6 => ?_)
  replace N6 : p6 21 = .inr (5, [.ref (a4 22), .ref (a4 23), .null, .null, .int 0, .int 0]) := N6
  refine x_aload_n C 0 dX5_init_20 rfl rfl ?_
  refine x_bipush C dX5_init_21 (v := 6) (by decide) ?_
  refine x_newaF C (atype := .int) (ty := .int) (N' := 6) (f := (fun _ => 0)) 24 arrint rfl (t0 := 0) rfl (by decide) (fun _ => rfl) (by decide) (by decide) (Nat.le_of_ble_eq_true rfl) (Nat.le_of_ble_eq_true rfl) (Nat.le_of_ble_eq_true rfl) dX5_init_23 (fun a7 p7 A7 B7 N7 C => ?_)
  have F8 : p7 21 = .inr (5, [.ref (a7 22), .ref (a7 23), .null, .null, .int 0, .int 0]) := by rw [A7 22 (by decide), A7 23 (by decide)]; exact (B7 21 (by decide)).trans N6
  rw [← A7 21 (by decide)]
  refine x_putFG C (T := TX5) (N := 6) (ty := .array .int) 21 2 hin5 tyX5 tyX5_ok nmX5 (by decide) F8 rfl (by decide) lk18 rfl rfl hnm9 rfl (by decide +kernel) rfl rfl (Nat.le_of_ble_eq_true rfl) dX5_init_25 (fun p9 B9 N9 => ?_)
  replace N9 : p9 21 = .inr (5, [.ref (a7 22), .ref (a7 23), .ref (a7 24), .null, .int 0, .int 0]) := N9
  refine x_aload_n C 0 dX5_init_28 rfl rfl ?_
  refine x_bipush C dX5_init_29 (v := 64) (by decide) ?_
  refine x_newaF C (atype := .int) (ty := .int) (N' := 64) (f := (fun _ => 0)) 25 arrint rfl (t0 := 0) rfl (by decide) (fun _ => rfl) (by decide) (by decide) (Nat.le_of_ble_eq_true rfl) (Nat.le_of_ble_eq_true rfl) (Nat.le_of_ble_eq_true rfl) dX5_init_31 (fun a10 p10 A10 B10 N10 C => ?_)
  have F11 : p10 21 = .inr (5, [.ref (a10 22), .ref (a10 23), .ref (a10 24), .null, .int 0, .int 0]) := by rw [A10 22 (by decide), A10 23 (by decide), A10 24 (by decide)]; exact (B10 21 (by decide)).trans N9
  rw [← A10 21 (by decide)]
  refine x_putFG C (T := TX5) (N := 6) (ty := .array .int) 21 3 hin5 tyX5 tyX5_ok nmX5 (by decide) F11 rfl (by decide) lk21 rfl rfl hnm9 rfl (by decide +kernel) rfl rfl (Nat.le_of_ble_eq_true rfl) dX5_init_33 (fun p12 B12 N12 => ?_)
  replace N12 : p12 21 = .inr (5, [.ref (a10 22), .ref (a10 23), .ref (a10 24), .ref (a10 25), .int 0, .int 0]) := N12
  refine x_aload_n C 0 dX5_init_36 rfl rfl ?_
  refine x_iconst C dX5_init_37 (v := 0) (by decide) ?_
  refine x_putG C (T := TX5) (N := 6) (ty := .int) 21 4 hin5 tyX5 tyX5_ok nmX5 (by decide) N12 rfl (by decide) lk24 rfl rfl (by decide +kernel) rfl rfl (Nat.le_of_ble_eq_true rfl) dX5_init_38 (fun p13 B13 N13 => ?_)
  replace N13 : p13 21 = .inr (5, [.ref (a10 22), .ref (a10 23), .ref (a10 24), .ref (a10 25), .int 0, .int 0]) := N13
  refine x_aload_n C 0 dX5_init_41 rfl rfl ?_
  refine x_iconst C dX5_init_42 (v := 0) (by decide) ?_
  refine x_putG C (T := TX5) (N := 6) (ty := .int) 21 5 hin5 tyX5 tyX5_ok nmX5 (by decide) N13 rfl (by decide) lk28 rfl rfl (by decide +kernel) rfl rfl (Nat.le_of_ble_eq_true rfl) dX5_init_43 (fun p14 B14 N14 => ?_)
  replace N14 : p14 21 = .inr (5, [.ref (a10 22), .ref (a10 23), .ref (a10 24), .ref (a10 25), .int 0, .int 0]) := N14
  refine x_vretA C hrt9 ?_ dX5_init_46
  refine ⟨fun i h1 h2 h3 h4 => ((((A10 i h4).trans (A7 i h3)).trans (A4 i h2)).trans (A1 i h1)), fun i h0 h1 h2 h3 h4 => ((((((((((B14 i h0).trans (B13 i h0)).trans (B12 i h0)).trans (B10 i h4)).trans (B9 i h0)).trans (B7 i h3)).trans (B6 i h0)).trans (B4 i h2)).trans (B3 i h0)).trans (B1 i h1)), N14, ((((((((((B14 22 (by decide)).trans (B13 22 (by decide))).trans (B12 22 (by decide))).trans (B10 22 (by decide))).trans (B9 22 (by decide))).trans (B7 22 (by decide))).trans (B6 22 (by decide))).trans (B4 22 (by decide))).trans (B3 22 (by decide))).trans N1), ((((((((B14 23 (by decide)).trans (B13 23 (by decide))).trans (B12 23 (by decide))).trans (B10 23 (by decide))).trans (B9 23 (by decide))).trans (B7 23 (by decide))).trans (B6 23 (by decide))).trans N4), ((((((B14 24 (by decide)).trans (B13 24 (by decide))).trans (B12 24 (by decide))).trans (B10 24 (by decide))).trans (B9 24 (by decide))).trans N7), ((((B14 25 (by decide)).trans (B13 25 (by decide))).trans (B12 25 (by decide))).trans N10)⟩

set_option maxHeartbeats 4000000 in
set_option maxRecDepth 100000 in
theorem k_X9_init (l : Launch) (G : tf_G) (ad : Nat → Nat) (P : Nat → va_E) (x : Int32) (nR : Nat) (hx : imax 3 (imin 12 x) = nI nR) (hR12 : nR ≤ 12) (hr : P 0 = .inr (9, [.null, .null, .null, .null, .null, .null, .null, .int 0, .int 0])) : Dv l yX9_init wsX9_init ({ frames := 3, cells := 25, slots := 621, locals := 57 } : Room) G [0] ad P [.ref (ad 0), .int x] ((((((((((((((((((((((((([0] ++ [1]) ++ [2]) ++ [3]) ++ [4]) ++ [5]) ++ [6]) ++ [7]) ++ [8]) ++ [9]) ++ [10]) ++ [11]) ++ [12]) ++ [13]) ++ [14]) ++ [15]) ++ [16]) ++ [17]) ++ [18]) ++ [19]) ++ [20]) ++ [21]) ++ [22]) ++ [23]) ++ [24]) ++ [25]) (fun u => (∀ i, i ≠ 1 → i ≠ 2 → i ≠ 3 → i ≠ 4 → i ≠ 5 → i ≠ 6 → i ≠ 7 → i ≠ 8 → i ≠ 9 → i ≠ 10 → i ≠ 11 → i ≠ 12 → i ≠ 13 → i ≠ 14 → i ≠ 15 → i ≠ 16 → i ≠ 17 → i ≠ 18 → i ≠ 19 → i ≠ 20 → i ≠ 21 → i ≠ 22 → i ≠ 23 → i ≠ 24 → i ≠ 25 → u.1 i = ad i) ∧ (∀ i, i ≠ 0 → i ≠ 1 → i ≠ 2 → i ≠ 3 → i ≠ 4 → i ≠ 5 → i ≠ 6 → i ≠ 7 → i ≠ 8 → i ≠ 9 → i ≠ 10 → i ≠ 11 → i ≠ 12 → i ≠ 13 → i ≠ 14 → i ≠ 15 → i ≠ 16 → i ≠ 17 → i ≠ 18 → i ≠ 19 → i ≠ 20 → i ≠ 21 → i ≠ 22 → i ≠ 23 → i ≠ 24 → i ≠ 25 → u.2 i = P i) ∧ u.2 0 = .inr (9, [.ref (u.1 1), .ref (u.1 7), .ref (u.1 10), .ref (u.1 12), .ref (u.1 13), .ref (u.1 17), .ref (u.1 21), .int 0, .int (-1)]) ∧ u.2 1 = .inr (0, [.int ((nI nR)), .ref (u.1 2), .ref (u.1 3), .ref (u.1 4), .ref (u.1 5), .ref (u.1 6), .int 0, .int 401, .int 0]) ∧ u.2 2 = .inl (G.2.1 0, 12, .inl (upd (upd (upd (upd (upd (upd (upd (upd (upd (upd (upd (upd (fun _ => 0) 0 100) 1 100) 2 100) 3 100) 4 100) 5 100) 6 100) 7 100) 8 100) 9 100) 10 100) 11 100)) ∧ u.2 3 = .inl (G.2.1 0, 12, .inl (upd (upd (upd (upd (upd (upd (upd (upd (upd (upd (upd (upd (fun _ => 0) 0 20) 1 20) 2 20) 3 20) 4 20) 5 20) 6 20) 7 20) 8 20) 9 20) 10 20) 11 20)) ∧ u.2 4 = .inl (G.2.1 0, 4, .inl (fun _ => 0)) ∧ u.2 5 = .inl (G.2.1 0, 4, .inl (fun _ => 0)) ∧ u.2 6 = .inl (G.2.1 0, 4, .inl (fun _ => 0)) ∧ u.2 7 = .inr (3, [.ref (u.1 8), .ref (u.1 9), .int 0]) ∧ u.2 8 = .inl (G.2.1 3, 12, .inr (.inr (.inr (.inr (fun _ => none))))) ∧ u.2 9 = .inl (G.2.1 0, 12, .inl (fun _ => 0)) ∧ u.2 10 = .inr (8, [.ref (u.1 11), .int 0]) ∧ u.2 11 = .inl (G.2.1 1, 400, .inl (fun _ => 0)) ∧ u.2 12 = .inr (4, [.ref (u.1 10), .int 0, .int 0, .int 0, .int 0]) ∧ u.2 13 = .inr (1, [.ref (u.1 14), .ref (u.1 15), .int 0]) ∧ u.2 14 = .inl (G.2.1 4, 10, .inr (.inr (.inr (.inr (fun _ => none))))) ∧ u.2 15 = .inr (7, [.int (-1), .int 0, .ref (u.1 16), .int 2, .int 20, .int 2, .int 1]) ∧ u.2 16 = .inl (G.2.1 0, nR, .inl (al3 nR)) ∧ u.2 17 = .inr (2, [.ref (u.1 18), .ref (u.1 19), .ref (u.1 20), .int 0]) ∧ u.2 18 = .inl (G.2.1 0, 6, .inl (fun _ => 0)) ∧ u.2 19 = .inl (G.2.1 0, 6, .inl (fun _ => 0)) ∧ u.2 20 = .inl (G.2.1 0, 6, .inl (fun _ => 0)) ∧ u.2 21 = .inr (5, [.ref (u.1 22), .ref (u.1 23), .ref (u.1 24), .ref (u.1 25), .int 0, .int 0]) ∧ u.2 22 = .inl (G.2.1 0, 6, .inl (fun _ => 0)) ∧ u.2 23 = .inl (G.2.1 0, 6, .inl (fun _ => 0)) ∧ u.2 24 = .inl (G.2.1 0, 6, .inl (fun _ => 0)) ∧ u.2 25 = .inl (G.2.1 0, 64, .inl (fun _ => 0))) := by
  have oi1 : Cond.methodLink RX9 1 objectInit ∈ wsX9_init := by decide +kernel
  have oi2 : Cond.instanceMethod objectInit ∈ wsX9_init := by decide +kernel
  have oi3 : Cond.code objectInit ⟨#[0xb1]⟩ 1 none ∈ wsX9_init := by decide +kernel
  have hm1min : Cond.methodLink RX9 9 Lib.Math.min.name ∈ wsX9_init := by decide +kernel
  have hm2min : Cond.static Lib.Math.min.name ∈ wsX9_init := by decide +kernel
  have hm3 : Cond.initialized "java/lang/Math" ∈ wsX9_init := by decide +kernel
  have hm4min : Cond.code Lib.Math.min.name Lib.Math.min.code 2 (some .int) ∈ wsX9_init := by decide +kernel
  have hm1max : Cond.methodLink RX9 15 Lib.Math.max.name ∈ wsX9_init := by decide +kernel
  have hm2max : Cond.static Lib.Math.max.name ∈ wsX9_init := by decide +kernel
  have hm4max : Cond.code Lib.Math.max.name Lib.Math.max.code 2 (some .int) ∈ wsX9_init := by decide +kernel
  have cl18 : Cond.classLink RX9 18 RX0 ∈ wsX9_init := by decide +kernel
  have inst0 : Cond.instantiable RX0 9 ∈ wsX9_init := by decide +kernel
  have init0 : Cond.initialized RX0 ∈ wsX9_init := by decide +kernel
  have hin0 : ∀ w ∈ u_ws RX0 TX0 9, w ∈ wsX9_init := by decide +kernel
  have ml20 : Cond.methodLink RX9 20 yX0_init ∈ wsX9_init := by decide +kernel
  have imX0_init : Cond.instanceMethod yX0_init ∈ wsX9_init := by decide +kernel
  have hin9 : ∀ w ∈ u_ws RX9 TX9 9, w ∈ wsX9_init := by decide +kernel
  have lk23 : Cond.fieldLink RX9 23 "TributeFleet" "canal" "LTributeFleet$Canal;" ∈ wsX9_init := by decide +kernel
  have cl27 : Cond.classLink RX9 27 RX3 ∈ wsX9_init := by decide +kernel
  have inst3 : Cond.instantiable RX3 3 ∈ wsX9_init := by decide +kernel
  have init3 : Cond.initialized RX3 ∈ wsX9_init := by decide +kernel
  have hin3 : ∀ w ∈ u_ws RX3 TX3 3, w ∈ wsX9_init := by decide +kernel
  have ml29 : Cond.methodLink RX9 29 yX3_init ∈ wsX9_init := by decide +kernel
  have imX3_init : Cond.instanceMethod yX3_init ∈ wsX9_init := by decide +kernel
  have lk30 : Cond.fieldLink RX9 30 "TributeFleet" "fleet" "LTributeFleet$Fleet;" ∈ wsX9_init := by decide +kernel
  have cl34 : Cond.classLink RX9 34 RX8 ∈ wsX9_init := by decide +kernel
  have inst8 : Cond.instantiable RX8 2 ∈ wsX9_init := by decide +kernel
  have init8 : Cond.initialized RX8 ∈ wsX9_init := by decide +kernel
  have hin8 : ∀ w ∈ u_ws RX8 TX8 2, w ∈ wsX9_init := by decide +kernel
  have ml36 : Cond.methodLink RX9 36 yX8_init ∈ wsX9_init := by decide +kernel
  have imX8_init : Cond.instanceMethod yX8_init ∈ wsX9_init := by decide +kernel
  have lk37 : Cond.fieldLink RX9 37 "TributeFleet" "tape" "LTributeFleet$Tape;" ∈ wsX9_init := by decide +kernel
  have cl41 : Cond.classLink RX9 41 RX4 ∈ wsX9_init := by decide +kernel
  have inst4 : Cond.instantiable RX4 5 ∈ wsX9_init := by decide +kernel
  have init4 : Cond.initialized RX4 ∈ wsX9_init := by decide +kernel
  have hin4 : ∀ w ∈ u_ws RX4 TX4 5, w ∈ wsX9_init := by decide +kernel
  have ml43 : Cond.methodLink RX9 43 yX4_init ∈ wsX9_init := by decide +kernel
  have imX4_init : Cond.instanceMethod yX4_init ∈ wsX9_init := by decide +kernel
  have lk46 : Cond.fieldLink RX9 46 "TributeFleet" "reader" "LTributeFleet$Reader;" ∈ wsX9_init := by decide +kernel
  have cl50 : Cond.classLink RX9 50 RX1 ∈ wsX9_init := by decide +kernel
  have inst1 : Cond.instantiable RX1 3 ∈ wsX9_init := by decide +kernel
  have init1 : Cond.initialized RX1 ∈ wsX9_init := by decide +kernel
  have hin1 : ∀ w ∈ u_ws RX1 TX1 3, w ∈ wsX9_init := by decide +kernel
  have ml52 : Cond.methodLink RX9 52 yX1_init ∈ wsX9_init := by decide +kernel
  have imX1_init : Cond.instanceMethod yX1_init ∈ wsX9_init := by decide +kernel
  have lk53 : Cond.fieldLink RX9 53 "TributeFleet" "code" "LTributeFleet$Code;" ∈ wsX9_init := by decide +kernel
  have cl57 : Cond.classLink RX9 57 RX2 ∈ wsX9_init := by decide +kernel
  have inst2 : Cond.instantiable RX2 4 ∈ wsX9_init := by decide +kernel
  have init2 : Cond.initialized RX2 ∈ wsX9_init := by decide +kernel
  have hin2 : ∀ w ∈ u_ws RX2 TX2 4, w ∈ wsX9_init := by decide +kernel
  have ml59 : Cond.methodLink RX9 59 yX2_init ∈ wsX9_init := by decide +kernel
  have imX2_init : Cond.instanceMethod yX2_init ∈ wsX9_init := by decide +kernel
  have lk60 : Cond.fieldLink RX9 60 "TributeFleet" "counties" "LTributeFleet$Counties;" ∈ wsX9_init := by decide +kernel
  have cl64 : Cond.classLink RX9 64 RX5 ∈ wsX9_init := by decide +kernel
  have inst5 : Cond.instantiable RX5 6 ∈ wsX9_init := by decide +kernel
  have init5 : Cond.initialized RX5 ∈ wsX9_init := by decide +kernel
  have hin5 : ∀ w ∈ u_ws RX5 TX5 6, w ∈ wsX9_init := by decide +kernel
  have ml66 : Cond.methodLink RX9 66 yX5_init ∈ wsX9_init := by decide +kernel
  have imX5_init : Cond.instanceMethod yX5_init ∈ wsX9_init := by decide +kernel
  have lk67 : Cond.fieldLink RX9 67 "TributeFleet" "schedule" "LTributeFleet$Schedule;" ∈ wsX9_init := by decide +kernel
  have lk71 : Cond.fieldLink RX9 71 "TributeFleet" "today" "I" ∈ wsX9_init := by decide +kernel
  have lk75 : Cond.fieldLink RX9 75 "TributeFleet" "faultPlace" "I" ∈ wsX9_init := by decide +kernel
  refine dv_of (cc := cX9_init) (maxL := 3) (ret := none) (by decide +kernel) rfl (Nat.le_of_ble_eq_true rfl) ?_
  intro pv ev sv mv args below meth cv A C hrt9 hnm9
  have C : Cx pv sv mv args meth cv cX9_init 3 RX9 wsX9_init G A [0] ad := C
  show XJ pv l ev _ sv mv args below meth cv G A [0] ad _ 3 0 0 _ 0 [(0, .ref (ad 0)), (1, .int x)] []
  refine x_aload_n C 0 dX9_init_0 rfl rfl ?_
  refine x_obj C oi1 oi2 oi3 (Nat.le_of_ble_eq_true rfl) (Nat.le_of_ble_eq_true rfl) dX9_init_1 ?_
  refine x_iconst C dX9_init_4 (v := 3) (by decide) ?_
  refine x_bipush C dX9_init_5 (v := 12) (by decide) ?_
  refine x_iload_n C 1 dX9_init_7 rfl rfl ?_
  refine x_mmin C hm1min hm2min hm3 hm4min (Nat.le_of_ble_eq_true rfl) (Nat.le_of_ble_eq_true rfl) (Nat.le_of_ble_eq_true rfl) (Nat.le_of_ble_eq_true rfl) dX9_init_8 ?_
  refine x_mmax C hm1max hm2max hm3 hm4max (Nat.le_of_ble_eq_true rfl) (Nat.le_of_ble_eq_true rfl) (Nat.le_of_ble_eq_true rfl) (Nat.le_of_ble_eq_true rfl) dX9_init_11 ?_
  refine x_top C (v2 := nI nR) hx ?_
  refine x_istore_n C (L1 := [(2, .int (nI nR)), (0, .ref (ad 0)), (1, .int x)]) dX9_init_14 rfl (by decide) rfl ?_
  refine x_aload_n C 1 dX9_init_15 rfl rfl ?_
  refine x_newF C (ci := 0) (fs := [.int 0, .null, .null, .null, .null, .null, .int 0, .int 0, .int 0]) 1 hin0 tyX0 tyX0_ok cl18 inst0 init0 (by decide) rfl df0 (Nat.le_of_ble_eq_true rfl) (Nat.le_of_ble_eq_true rfl) dX9_init_16 (fun a1 p1 A1 B1 N1 C => ?_)
  have F2 : p1 0 = .inr (9, [.null, .null, .null, .null, .null, .null, .null, .int 0, .int 0]) := (B1 0 (by decide)).trans hr
  rw [← A1 0 (by decide)]
  refine x_dup C dX9_init_19 rfl ?_
  refine x_iload_n C 0 dX9_init_20 rfl rfl ?_
  refine x_I 1 C (k_X0_init l G a1 p1 (nI nR) N1) gX9_init_X0_init rfl init0 ml20 imX0_init rfl (by decide +kernel) ⟨(Nat.le_of_ble_eq_true rfl), (Nat.le_of_ble_eq_true rfl)⟩ ⟨(Nat.le_of_ble_eq_true rfl), (Nat.le_of_ble_eq_true rfl)⟩ (n := 1) rfl (st := [.ref (a1 1), .ref (a1 0)]) (Nat.le_of_ble_eq_true rfl) rfl dX9_init_21 (fun a3 p3 Q3 C => ?_)
  obtain ⟨A3, B3, N3_0, N3_1, N3_2, N3_3, N3_4, N3_5⟩ := Q3
  replace A3 : ∀ i, i ≠ 2 → i ≠ 3 → i ≠ 4 → i ≠ 5 → i ≠ 6 → a3 i = a1 i := A3
  replace B3 : ∀ i, i ≠ 1 → i ≠ 2 → i ≠ 3 → i ≠ 4 → i ≠ 5 → i ≠ 6 → p3 i = p1 i := B3
  replace N3_0 : p3 1 = .inr (0, [.int ((nI nR)), .ref (a3 2), .ref (a3 3), .ref (a3 4), .ref (a3 5), .ref (a3 6), .int 0, .int 401, .int 0]) := N3_0
  replace N3_1 : p3 2 = .inl (G.2.1 0, 12, .inl (upd (upd (upd (upd (upd (upd (upd (upd (upd (upd (upd (upd (fun _ => 0) 0 100) 1 100) 2 100) 3 100) 4 100) 5 100) 6 100) 7 100) 8 100) 9 100) 10 100) 11 100)) := N3_1
  replace N3_2 : p3 3 = .inl (G.2.1 0, 12, .inl (upd (upd (upd (upd (upd (upd (upd (upd (upd (upd (upd (upd (fun _ => 0) 0 20) 1 20) 2 20) 3 20) 4 20) 5 20) 6 20) 7 20) 8 20) 9 20) 10 20) 11 20)) := N3_2
  replace N3_3 : p3 4 = .inl (G.2.1 0, 4, .inl (fun _ => 0)) := N3_3
  replace N3_4 : p3 5 = .inl (G.2.1 0, 4, .inl (fun _ => 0)) := N3_4
  replace N3_5 : p3 6 = .inl (G.2.1 0, 4, .inl (fun _ => 0)) := N3_5
  have F4 : p3 0 = .inr (9, [.null, .null, .null, .null, .null, .null, .null, .int 0, .int 0]) := (B3 0 (by decide) (by decide) (by decide) (by decide) (by decide) (by decide)).trans F2
  rw [← A3 0 (by decide) (by decide) (by decide) (by decide) (by decide)]
  rw [← A3 1 (by decide) (by decide) (by decide) (by decide) (by decide)]
  refine x_putFG C (T := TX9) (N := 9) (ty := .object "TributeFleet$Canal") 0 0 hin9 tyX9 tyX9_ok nmX9 (by decide) F4 rfl (by decide) lk23 rfl rfl hnm9 rfl (by decide +kernel) rfl rfl (Nat.le_of_ble_eq_true rfl) dX9_init_24 (fun p5 B5 N5 => ?_)
  replace N5 : p5 0 = .inr (9, [.ref (a3 1), .null, .null, .null, .null, .null, .null, .int 0, .int 0]) := N5
  have F6 : p5 1 = .inr (0, [.int ((nI nR)), .ref (a3 2), .ref (a3 3), .ref (a3 4), .ref (a3 5), .ref (a3 6), .int 0, .int 401, .int 0]) := (B5 1 (by decide)).trans N3_0
  refine x_aload_n C 1 dX9_init_27 rfl rfl ?_
  refine x_newF C (ci := 3) (fs := [.null, .null, .int 0]) 7 hin3 tyX3 tyX3_ok cl27 inst3 init3 (by decide) rfl df3 (Nat.le_of_ble_eq_true rfl) (Nat.le_of_ble_eq_true rfl) dX9_init_28 (fun a7 p7 A7 B7 N7 C => ?_)
  have F8 : p7 0 = .inr (9, [.ref (a7 1), .null, .null, .null, .null, .null, .null, .int 0, .int 0]) := by rw [A7 1 (by decide)]; exact (B7 0 (by decide)).trans N5
  have F9 : p7 1 = .inr (0, [.int ((nI nR)), .ref (a7 2), .ref (a7 3), .ref (a7 4), .ref (a7 5), .ref (a7 6), .int 0, .int 401, .int 0]) := by rw [A7 2 (by decide), A7 3 (by decide), A7 4 (by decide), A7 5 (by decide), A7 6 (by decide)]; exact (B7 1 (by decide)).trans F6
  rw [← A7 0 (by decide)]
  refine x_dup C dX9_init_31 rfl ?_
  refine x_I 7 C (k_X3_init l G a7 p7  N7) gX9_init_X3_init rfl init3 ml29 imX3_init rfl (by decide +kernel) ⟨(Nat.le_of_ble_eq_true rfl), (Nat.le_of_ble_eq_true rfl)⟩ ⟨(Nat.le_of_ble_eq_true rfl), (Nat.le_of_ble_eq_true rfl)⟩ (n := 0) rfl (st := [.ref (a7 7), .ref (a7 0)]) (Nat.le_of_ble_eq_true rfl) rfl dX9_init_32 (fun a10 p10 Q10 C => ?_)
  obtain ⟨A10, B10, N10_0, N10_1, N10_2⟩ := Q10
  replace A10 : ∀ i, i ≠ 8 → i ≠ 9 → a10 i = a7 i := A10
  replace B10 : ∀ i, i ≠ 7 → i ≠ 8 → i ≠ 9 → p10 i = p7 i := B10
  replace N10_0 : p10 7 = .inr (3, [.ref (a10 8), .ref (a10 9), .int 0]) := N10_0
  replace N10_1 : p10 8 = .inl (G.2.1 3, 12, .inr (.inr (.inr (.inr (fun _ => none))))) := N10_1
  replace N10_2 : p10 9 = .inl (G.2.1 0, 12, .inl (fun _ => 0)) := N10_2
  have F11 : p10 0 = .inr (9, [.ref (a10 1), .null, .null, .null, .null, .null, .null, .int 0, .int 0]) := by rw [A10 1 (by decide) (by decide)]; exact (B10 0 (by decide) (by decide) (by decide)).trans F8
  have F12 : p10 1 = .inr (0, [.int ((nI nR)), .ref (a10 2), .ref (a10 3), .ref (a10 4), .ref (a10 5), .ref (a10 6), .int 0, .int 401, .int 0]) := by rw [A10 2 (by decide) (by decide), A10 3 (by decide) (by decide), A10 4 (by decide) (by decide), A10 5 (by decide) (by decide), A10 6 (by decide) (by decide)]; exact (B10 1 (by decide) (by decide) (by decide)).trans F9
  rw [← A10 0 (by decide) (by decide)]
  rw [← A10 7 (by decide) (by decide)]
  refine x_putFG C (T := TX9) (N := 9) (ty := .object "TributeFleet$Fleet") 0 1 hin9 tyX9 tyX9_ok nmX9 (by decide) F11 rfl (by decide) lk30 rfl rfl hnm9 rfl (by decide +kernel) rfl rfl (Nat.le_of_ble_eq_true rfl) dX9_init_35 (fun p13 B13 N13 => ?_)
  replace N13 : p13 0 = .inr (9, [.ref (a10 1), .ref (a10 7), .null, .null, .null, .null, .null, .int 0, .int 0]) := N13
  have F14 : p13 1 = .inr (0, [.int ((nI nR)), .ref (a10 2), .ref (a10 3), .ref (a10 4), .ref (a10 5), .ref (a10 6), .int 0, .int 401, .int 0]) := (B13 1 (by decide)).trans F12
  have F15 : p13 7 = .inr (3, [.ref (a10 8), .ref (a10 9), .int 0]) := (B13 7 (by decide)).trans N10_0
  refine x_aload_n C 1 dX9_init_38 rfl rfl ?_
  refine x_newF C (ci := 8) (fs := [.null, .int 0]) 10 hin8 tyX8 tyX8_ok cl34 inst8 init8 (by decide) rfl df8 (Nat.le_of_ble_eq_true rfl) (Nat.le_of_ble_eq_true rfl) dX9_init_39 (fun a16 p16 A16 B16 N16 C => ?_)
  have F17 : p16 0 = .inr (9, [.ref (a16 1), .ref (a16 7), .null, .null, .null, .null, .null, .int 0, .int 0]) := by rw [A16 1 (by decide), A16 7 (by decide)]; exact (B16 0 (by decide)).trans N13
  have F18 : p16 1 = .inr (0, [.int ((nI nR)), .ref (a16 2), .ref (a16 3), .ref (a16 4), .ref (a16 5), .ref (a16 6), .int 0, .int 401, .int 0]) := by rw [A16 2 (by decide), A16 3 (by decide), A16 4 (by decide), A16 5 (by decide), A16 6 (by decide)]; exact (B16 1 (by decide)).trans F14
  have F19 : p16 7 = .inr (3, [.ref (a16 8), .ref (a16 9), .int 0]) := by rw [A16 8 (by decide), A16 9 (by decide)]; exact (B16 7 (by decide)).trans F15
  rw [← A16 0 (by decide)]
  refine x_dup C dX9_init_42 rfl ?_
  refine x_I 10 C (k_X8_init l G a16 p16  N16) gX9_init_X8_init rfl init8 ml36 imX8_init rfl (by decide +kernel) ⟨(Nat.le_of_ble_eq_true rfl), (Nat.le_of_ble_eq_true rfl)⟩ ⟨(Nat.le_of_ble_eq_true rfl), (Nat.le_of_ble_eq_true rfl)⟩ (n := 0) rfl (st := [.ref (a16 10), .ref (a16 0)]) (Nat.le_of_ble_eq_true rfl) rfl dX9_init_43 (fun a20 p20 Q20 C => ?_)
  obtain ⟨A20, B20, N20_0, N20_1⟩ := Q20
  replace A20 : ∀ i, i ≠ 11 → a20 i = a16 i := A20
  replace B20 : ∀ i, i ≠ 10 → i ≠ 11 → p20 i = p16 i := B20
  replace N20_0 : p20 10 = .inr (8, [.ref (a20 11), .int 0]) := N20_0
  replace N20_1 : p20 11 = .inl (G.2.1 1, 400, .inl (fun _ => 0)) := N20_1
  have F21 : p20 0 = .inr (9, [.ref (a20 1), .ref (a20 7), .null, .null, .null, .null, .null, .int 0, .int 0]) := by rw [A20 1 (by decide), A20 7 (by decide)]; exact (B20 0 (by decide) (by decide)).trans F17
  have F22 : p20 1 = .inr (0, [.int ((nI nR)), .ref (a20 2), .ref (a20 3), .ref (a20 4), .ref (a20 5), .ref (a20 6), .int 0, .int 401, .int 0]) := by rw [A20 2 (by decide), A20 3 (by decide), A20 4 (by decide), A20 5 (by decide), A20 6 (by decide)]; exact (B20 1 (by decide) (by decide)).trans F18
  have F23 : p20 7 = .inr (3, [.ref (a20 8), .ref (a20 9), .int 0]) := by rw [A20 8 (by decide), A20 9 (by decide)]; exact (B20 7 (by decide) (by decide)).trans F19
  rw [← A20 0 (by decide)]
  rw [← A20 10 (by decide)]
  refine x_putFG C (T := TX9) (N := 9) (ty := .object "TributeFleet$Tape") 0 2 hin9 tyX9 tyX9_ok nmX9 (by decide) F21 rfl (by decide) lk37 rfl rfl hnm9 rfl (by decide +kernel) rfl rfl (Nat.le_of_ble_eq_true rfl) dX9_init_46 (fun p24 B24 N24 => ?_)
  replace N24 : p24 0 = .inr (9, [.ref (a20 1), .ref (a20 7), .ref (a20 10), .null, .null, .null, .null, .int 0, .int 0]) := N24
  have F25 : p24 1 = .inr (0, [.int ((nI nR)), .ref (a20 2), .ref (a20 3), .ref (a20 4), .ref (a20 5), .ref (a20 6), .int 0, .int 401, .int 0]) := (B24 1 (by decide)).trans F22
  have F26 : p24 7 = .inr (3, [.ref (a20 8), .ref (a20 9), .int 0]) := (B24 7 (by decide)).trans F23
  have F27 : p24 10 = .inr (8, [.ref (a20 11), .int 0]) := (B24 10 (by decide)).trans N20_0
  refine x_aload_n C 1 dX9_init_49 rfl rfl ?_
  refine x_newF C (ci := 4) (fs := [.null, .int 0, .int 0, .int 0, .int 0]) 12 hin4 tyX4 tyX4_ok cl41 inst4 init4 (by decide) rfl df4 (Nat.le_of_ble_eq_true rfl) (Nat.le_of_ble_eq_true rfl) dX9_init_50 (fun a28 p28 A28 B28 N28 C => ?_)
  have F29 : p28 0 = .inr (9, [.ref (a28 1), .ref (a28 7), .ref (a28 10), .null, .null, .null, .null, .int 0, .int 0]) := by rw [A28 1 (by decide), A28 7 (by decide), A28 10 (by decide)]; exact (B28 0 (by decide)).trans N24
  have F30 : p28 1 = .inr (0, [.int ((nI nR)), .ref (a28 2), .ref (a28 3), .ref (a28 4), .ref (a28 5), .ref (a28 6), .int 0, .int 401, .int 0]) := by rw [A28 2 (by decide), A28 3 (by decide), A28 4 (by decide), A28 5 (by decide), A28 6 (by decide)]; exact (B28 1 (by decide)).trans F25
  have F31 : p28 7 = .inr (3, [.ref (a28 8), .ref (a28 9), .int 0]) := by rw [A28 8 (by decide), A28 9 (by decide)]; exact (B28 7 (by decide)).trans F26
  have F32 : p28 10 = .inr (8, [.ref (a28 11), .int 0]) := by rw [A28 11 (by decide)]; exact (B28 10 (by decide)).trans F27
  rw [← A28 0 (by decide)]
  refine x_dup C dX9_init_53 rfl ?_
  refine x_aload_n C 1 dX9_init_54 rfl rfl ?_
  refine x_get C (T := TX9) (N := 9) (v := .ref (a28 10)) 0 2 hin9 (by decide) F29 rfl (by decide) lk37 rfl rfl dX9_init_55 ?_
  refine x_I 12 C (k_X4_init l G a28 p28  N28) gX9_init_X4_init rfl init4 ml43 imX4_init rfl (by decide +kernel) ⟨(Nat.le_of_ble_eq_true rfl), (Nat.le_of_ble_eq_true rfl)⟩ ⟨(Nat.le_of_ble_eq_true rfl), (Nat.le_of_ble_eq_true rfl)⟩ (n := 1) rfl (st := [.ref (a28 12), .ref (a28 0)]) (Nat.le_of_ble_eq_true rfl) rfl dX9_init_58 (fun a33 p33 Q33 C => ?_)
  obtain ⟨A33, B33, N33_0⟩ := Q33
  replace A33 : ∀ i, a33 i = a28 i := A33
  replace B33 : ∀ i, i ≠ 12 → p33 i = p28 i := B33
  replace N33_0 : p33 12 = .inr (4, [.ref (a33 10), .int 0, .int 0, .int 0, .int 0]) := N33_0
  have F34 : p33 0 = .inr (9, [.ref (a33 1), .ref (a33 7), .ref (a33 10), .null, .null, .null, .null, .int 0, .int 0]) := by rw [A33 1, A33 7, A33 10]; exact (B33 0 (by decide)).trans F29
  have F35 : p33 1 = .inr (0, [.int ((nI nR)), .ref (a33 2), .ref (a33 3), .ref (a33 4), .ref (a33 5), .ref (a33 6), .int 0, .int 401, .int 0]) := by rw [A33 2, A33 3, A33 4, A33 5, A33 6]; exact (B33 1 (by decide)).trans F30
  have F36 : p33 7 = .inr (3, [.ref (a33 8), .ref (a33 9), .int 0]) := by rw [A33 8, A33 9]; exact (B33 7 (by decide)).trans F31
  have F37 : p33 10 = .inr (8, [.ref (a33 11), .int 0]) := by rw [A33 11]; exact (B33 10 (by decide)).trans F32
  rw [← A33 0]
  rw [← A33 12]
  refine x_putFG C (T := TX9) (N := 9) (ty := .object "TributeFleet$Reader") 0 3 hin9 tyX9 tyX9_ok nmX9 (by decide) F34 rfl (by decide) lk46 rfl rfl hnm9 rfl (by decide +kernel) rfl rfl (Nat.le_of_ble_eq_true rfl) dX9_init_61 (fun p38 B38 N38 => ?_)
  replace N38 : p38 0 = .inr (9, [.ref (a33 1), .ref (a33 7), .ref (a33 10), .ref (a33 12), .null, .null, .null, .int 0, .int 0]) := N38
  have F39 : p38 1 = .inr (0, [.int ((nI nR)), .ref (a33 2), .ref (a33 3), .ref (a33 4), .ref (a33 5), .ref (a33 6), .int 0, .int 401, .int 0]) := (B38 1 (by decide)).trans F35
  have F40 : p38 7 = .inr (3, [.ref (a33 8), .ref (a33 9), .int 0]) := (B38 7 (by decide)).trans F36
  have F41 : p38 10 = .inr (8, [.ref (a33 11), .int 0]) := (B38 10 (by decide)).trans F37
  have F42 : p38 12 = .inr (4, [.ref (a33 10), .int 0, .int 0, .int 0, .int 0]) := (B38 12 (by decide)).trans N33_0
  refine x_aload_n C 1 dX9_init_64 rfl rfl ?_
  refine x_newF C (ci := 1) (fs := [.null, .null, .int 0]) 13 hin1 tyX1 tyX1_ok cl50 inst1 init1 (by decide) rfl df1 (Nat.le_of_ble_eq_true rfl) (Nat.le_of_ble_eq_true rfl) dX9_init_65 (fun a43 p43 A43 B43 N43 C => ?_)
  have F44 : p43 0 = .inr (9, [.ref (a43 1), .ref (a43 7), .ref (a43 10), .ref (a43 12), .null, .null, .null, .int 0, .int 0]) := by rw [A43 1 (by decide), A43 7 (by decide), A43 10 (by decide), A43 12 (by decide)]; exact (B43 0 (by decide)).trans N38
  have F45 : p43 1 = .inr (0, [.int ((nI nR)), .ref (a43 2), .ref (a43 3), .ref (a43 4), .ref (a43 5), .ref (a43 6), .int 0, .int 401, .int 0]) := by rw [A43 2 (by decide), A43 3 (by decide), A43 4 (by decide), A43 5 (by decide), A43 6 (by decide)]; exact (B43 1 (by decide)).trans F39
  have F46 : p43 7 = .inr (3, [.ref (a43 8), .ref (a43 9), .int 0]) := by rw [A43 8 (by decide), A43 9 (by decide)]; exact (B43 7 (by decide)).trans F40
  have F47 : p43 10 = .inr (8, [.ref (a43 11), .int 0]) := by rw [A43 11 (by decide)]; exact (B43 10 (by decide)).trans F41
  have F48 : p43 12 = .inr (4, [.ref (a43 10), .int 0, .int 0, .int 0, .int 0]) := by rw [A43 10 (by decide)]; exact (B43 12 (by decide)).trans F42
  rw [← A43 0 (by decide)]
  refine x_dup C dX9_init_68 rfl ?_
  refine x_iload_n C 0 dX9_init_69 rfl rfl ?_
  refine x_I 13 C (k_X1_init l G a43 p43 nR hR12 N43) gX9_init_X1_init rfl init1 ml52 imX1_init rfl (by decide +kernel) ⟨(Nat.le_of_ble_eq_true rfl), (Nat.le_of_ble_eq_true rfl)⟩ ⟨(Nat.le_of_ble_eq_true rfl), (Nat.le_of_ble_eq_true rfl)⟩ (n := 1) rfl (st := [.ref (a43 13), .ref (a43 0)]) (Nat.le_of_ble_eq_true rfl) rfl dX9_init_70 (fun a49 p49 Q49 C => ?_)
  obtain ⟨A49, B49, N49_0, N49_1, N49_2, N49_3⟩ := Q49
  replace A49 : ∀ i, i ≠ 14 → i ≠ 15 → i ≠ 16 → a49 i = a43 i := A49
  replace B49 : ∀ i, i ≠ 13 → i ≠ 14 → i ≠ 15 → i ≠ 16 → p49 i = p43 i := B49
  replace N49_0 : p49 13 = .inr (1, [.ref (a49 14), .ref (a49 15), .int 0]) := N49_0
  replace N49_1 : p49 14 = .inl (G.2.1 4, 10, .inr (.inr (.inr (.inr (fun _ => none))))) := N49_1
  replace N49_2 : p49 15 = .inr (7, [.int (-1), .int 0, .ref (a49 16), .int 2, .int 20, .int 2, .int 1]) := N49_2
  replace N49_3 : p49 16 = .inl (G.2.1 0, nR, .inl (al3 nR)) := N49_3
  have F50 : p49 0 = .inr (9, [.ref (a49 1), .ref (a49 7), .ref (a49 10), .ref (a49 12), .null, .null, .null, .int 0, .int 0]) := by rw [A49 1 (by decide) (by decide) (by decide), A49 7 (by decide) (by decide) (by decide), A49 10 (by decide) (by decide) (by decide), A49 12 (by decide) (by decide) (by decide)]; exact (B49 0 (by decide) (by decide) (by decide) (by decide)).trans F44
  have F51 : p49 1 = .inr (0, [.int ((nI nR)), .ref (a49 2), .ref (a49 3), .ref (a49 4), .ref (a49 5), .ref (a49 6), .int 0, .int 401, .int 0]) := by rw [A49 2 (by decide) (by decide) (by decide), A49 3 (by decide) (by decide) (by decide), A49 4 (by decide) (by decide) (by decide), A49 5 (by decide) (by decide) (by decide), A49 6 (by decide) (by decide) (by decide)]; exact (B49 1 (by decide) (by decide) (by decide) (by decide)).trans F45
  have F52 : p49 7 = .inr (3, [.ref (a49 8), .ref (a49 9), .int 0]) := by rw [A49 8 (by decide) (by decide) (by decide), A49 9 (by decide) (by decide) (by decide)]; exact (B49 7 (by decide) (by decide) (by decide) (by decide)).trans F46
  have F53 : p49 10 = .inr (8, [.ref (a49 11), .int 0]) := by rw [A49 11 (by decide) (by decide) (by decide)]; exact (B49 10 (by decide) (by decide) (by decide) (by decide)).trans F47
  have F54 : p49 12 = .inr (4, [.ref (a49 10), .int 0, .int 0, .int 0, .int 0]) := by rw [A49 10 (by decide) (by decide) (by decide)]; exact (B49 12 (by decide) (by decide) (by decide) (by decide)).trans F48
  rw [← A49 0 (by decide) (by decide) (by decide)]
  rw [← A49 13 (by decide) (by decide) (by decide)]
  refine x_putFG C (T := TX9) (N := 9) (ty := .object "TributeFleet$Code") 0 4 hin9 tyX9 tyX9_ok nmX9 (by decide) F50 rfl (by decide) lk53 rfl rfl hnm9 rfl (by decide +kernel) rfl rfl (Nat.le_of_ble_eq_true rfl) dX9_init_73 (fun p55 B55 N55 => ?_)
  replace N55 : p55 0 = .inr (9, [.ref (a49 1), .ref (a49 7), .ref (a49 10), .ref (a49 12), .ref (a49 13), .null, .null, .int 0, .int 0]) := N55
  have F56 : p55 1 = .inr (0, [.int ((nI nR)), .ref (a49 2), .ref (a49 3), .ref (a49 4), .ref (a49 5), .ref (a49 6), .int 0, .int 401, .int 0]) := (B55 1 (by decide)).trans F51
  have F57 : p55 7 = .inr (3, [.ref (a49 8), .ref (a49 9), .int 0]) := (B55 7 (by decide)).trans F52
  have F58 : p55 10 = .inr (8, [.ref (a49 11), .int 0]) := (B55 10 (by decide)).trans F53
  have F59 : p55 12 = .inr (4, [.ref (a49 10), .int 0, .int 0, .int 0, .int 0]) := (B55 12 (by decide)).trans F54
  have F60 : p55 13 = .inr (1, [.ref (a49 14), .ref (a49 15), .int 0]) := (B55 13 (by decide)).trans N49_0
  have F61 : p55 15 = .inr (7, [.int (-1), .int 0, .ref (a49 16), .int 2, .int 20, .int 2, .int 1]) := (B55 15 (by decide)).trans N49_2
  refine x_aload_n C 1 dX9_init_76 rfl rfl ?_
  refine x_newF C (ci := 2) (fs := [.null, .null, .null, .int 0]) 17 hin2 tyX2 tyX2_ok cl57 inst2 init2 (by decide) rfl df2 (Nat.le_of_ble_eq_true rfl) (Nat.le_of_ble_eq_true rfl) dX9_init_77 (fun a62 p62 A62 B62 N62 C => ?_)
  have F63 : p62 0 = .inr (9, [.ref (a62 1), .ref (a62 7), .ref (a62 10), .ref (a62 12), .ref (a62 13), .null, .null, .int 0, .int 0]) := by rw [A62 1 (by decide), A62 7 (by decide), A62 10 (by decide), A62 12 (by decide), A62 13 (by decide)]; exact (B62 0 (by decide)).trans N55
  have F64 : p62 1 = .inr (0, [.int ((nI nR)), .ref (a62 2), .ref (a62 3), .ref (a62 4), .ref (a62 5), .ref (a62 6), .int 0, .int 401, .int 0]) := by rw [A62 2 (by decide), A62 3 (by decide), A62 4 (by decide), A62 5 (by decide), A62 6 (by decide)]; exact (B62 1 (by decide)).trans F56
  have F65 : p62 7 = .inr (3, [.ref (a62 8), .ref (a62 9), .int 0]) := by rw [A62 8 (by decide), A62 9 (by decide)]; exact (B62 7 (by decide)).trans F57
  have F66 : p62 10 = .inr (8, [.ref (a62 11), .int 0]) := by rw [A62 11 (by decide)]; exact (B62 10 (by decide)).trans F58
  have F67 : p62 12 = .inr (4, [.ref (a62 10), .int 0, .int 0, .int 0, .int 0]) := by rw [A62 10 (by decide)]; exact (B62 12 (by decide)).trans F59
  have F68 : p62 13 = .inr (1, [.ref (a62 14), .ref (a62 15), .int 0]) := by rw [A62 14 (by decide), A62 15 (by decide)]; exact (B62 13 (by decide)).trans F60
  have F69 : p62 15 = .inr (7, [.int (-1), .int 0, .ref (a62 16), .int 2, .int 20, .int 2, .int 1]) := by rw [A62 16 (by decide)]; exact (B62 15 (by decide)).trans F61
  rw [← A62 0 (by decide)]
  refine x_dup C dX9_init_80 rfl ?_
  refine x_I 17 C (k_X2_init l G a62 p62  N62) gX9_init_X2_init rfl init2 ml59 imX2_init rfl (by decide +kernel) ⟨(Nat.le_of_ble_eq_true rfl), (Nat.le_of_ble_eq_true rfl)⟩ ⟨(Nat.le_of_ble_eq_true rfl), (Nat.le_of_ble_eq_true rfl)⟩ (n := 0) rfl (st := [.ref (a62 17), .ref (a62 0)]) (Nat.le_of_ble_eq_true rfl) rfl dX9_init_81 (fun a70 p70 Q70 C => ?_)
  obtain ⟨A70, B70, N70_0, N70_1, N70_2, N70_3⟩ := Q70
  replace A70 : ∀ i, i ≠ 18 → i ≠ 19 → i ≠ 20 → a70 i = a62 i := A70
  replace B70 : ∀ i, i ≠ 17 → i ≠ 18 → i ≠ 19 → i ≠ 20 → p70 i = p62 i := B70
  replace N70_0 : p70 17 = .inr (2, [.ref (a70 18), .ref (a70 19), .ref (a70 20), .int 0]) := N70_0
  replace N70_1 : p70 18 = .inl (G.2.1 0, 6, .inl (fun _ => 0)) := N70_1
  replace N70_2 : p70 19 = .inl (G.2.1 0, 6, .inl (fun _ => 0)) := N70_2
  replace N70_3 : p70 20 = .inl (G.2.1 0, 6, .inl (fun _ => 0)) := N70_3
  have F71 : p70 0 = .inr (9, [.ref (a70 1), .ref (a70 7), .ref (a70 10), .ref (a70 12), .ref (a70 13), .null, .null, .int 0, .int 0]) := by rw [A70 1 (by decide) (by decide) (by decide), A70 7 (by decide) (by decide) (by decide), A70 10 (by decide) (by decide) (by decide), A70 12 (by decide) (by decide) (by decide), A70 13 (by decide) (by decide) (by decide)]; exact (B70 0 (by decide) (by decide) (by decide) (by decide)).trans F63
  have F72 : p70 1 = .inr (0, [.int ((nI nR)), .ref (a70 2), .ref (a70 3), .ref (a70 4), .ref (a70 5), .ref (a70 6), .int 0, .int 401, .int 0]) := by rw [A70 2 (by decide) (by decide) (by decide), A70 3 (by decide) (by decide) (by decide), A70 4 (by decide) (by decide) (by decide), A70 5 (by decide) (by decide) (by decide), A70 6 (by decide) (by decide) (by decide)]; exact (B70 1 (by decide) (by decide) (by decide) (by decide)).trans F64
  have F73 : p70 7 = .inr (3, [.ref (a70 8), .ref (a70 9), .int 0]) := by rw [A70 8 (by decide) (by decide) (by decide), A70 9 (by decide) (by decide) (by decide)]; exact (B70 7 (by decide) (by decide) (by decide) (by decide)).trans F65
  have F74 : p70 10 = .inr (8, [.ref (a70 11), .int 0]) := by rw [A70 11 (by decide) (by decide) (by decide)]; exact (B70 10 (by decide) (by decide) (by decide) (by decide)).trans F66
  have F75 : p70 12 = .inr (4, [.ref (a70 10), .int 0, .int 0, .int 0, .int 0]) := by rw [A70 10 (by decide) (by decide) (by decide)]; exact (B70 12 (by decide) (by decide) (by decide) (by decide)).trans F67
  have F76 : p70 13 = .inr (1, [.ref (a70 14), .ref (a70 15), .int 0]) := by rw [A70 14 (by decide) (by decide) (by decide), A70 15 (by decide) (by decide) (by decide)]; exact (B70 13 (by decide) (by decide) (by decide) (by decide)).trans F68
  have F77 : p70 15 = .inr (7, [.int (-1), .int 0, .ref (a70 16), .int 2, .int 20, .int 2, .int 1]) := by rw [A70 16 (by decide) (by decide) (by decide)]; exact (B70 15 (by decide) (by decide) (by decide) (by decide)).trans F69
  rw [← A70 0 (by decide) (by decide) (by decide)]
  rw [← A70 17 (by decide) (by decide) (by decide)]
  refine x_putFG C (T := TX9) (N := 9) (ty := .object "TributeFleet$Counties") 0 5 hin9 tyX9 tyX9_ok nmX9 (by decide) F71 rfl (by decide) lk60 rfl rfl hnm9 rfl (by decide +kernel) rfl rfl (Nat.le_of_ble_eq_true rfl) dX9_init_84 (fun p78 B78 N78 => ?_)
  replace N78 : p78 0 = .inr (9, [.ref (a70 1), .ref (a70 7), .ref (a70 10), .ref (a70 12), .ref (a70 13), .ref (a70 17), .null, .int 0, .int 0]) := N78
  have F79 : p78 1 = .inr (0, [.int ((nI nR)), .ref (a70 2), .ref (a70 3), .ref (a70 4), .ref (a70 5), .ref (a70 6), .int 0, .int 401, .int 0]) := (B78 1 (by decide)).trans F72
  have F80 : p78 7 = .inr (3, [.ref (a70 8), .ref (a70 9), .int 0]) := (B78 7 (by decide)).trans F73
  have F81 : p78 10 = .inr (8, [.ref (a70 11), .int 0]) := (B78 10 (by decide)).trans F74
  have F82 : p78 12 = .inr (4, [.ref (a70 10), .int 0, .int 0, .int 0, .int 0]) := (B78 12 (by decide)).trans F75
  have F83 : p78 13 = .inr (1, [.ref (a70 14), .ref (a70 15), .int 0]) := (B78 13 (by decide)).trans F76
  have F84 : p78 15 = .inr (7, [.int (-1), .int 0, .ref (a70 16), .int 2, .int 20, .int 2, .int 1]) := (B78 15 (by decide)).trans F77
  have F85 : p78 17 = .inr (2, [.ref (a70 18), .ref (a70 19), .ref (a70 20), .int 0]) := (B78 17 (by decide)).trans N70_0
  refine x_aload_n C 1 dX9_init_87 rfl rfl ?_
  refine x_newF C (ci := 5) (fs := [.null, .null, .null, .null, .int 0, .int 0]) 21 hin5 tyX5 tyX5_ok cl64 inst5 init5 (by decide) rfl df5 (Nat.le_of_ble_eq_true rfl) (Nat.le_of_ble_eq_true rfl) dX9_init_88 (fun a86 p86 A86 B86 N86 C => ?_)
  have F87 : p86 0 = .inr (9, [.ref (a86 1), .ref (a86 7), .ref (a86 10), .ref (a86 12), .ref (a86 13), .ref (a86 17), .null, .int 0, .int 0]) := by rw [A86 1 (by decide), A86 7 (by decide), A86 10 (by decide), A86 12 (by decide), A86 13 (by decide), A86 17 (by decide)]; exact (B86 0 (by decide)).trans N78
  have F88 : p86 1 = .inr (0, [.int ((nI nR)), .ref (a86 2), .ref (a86 3), .ref (a86 4), .ref (a86 5), .ref (a86 6), .int 0, .int 401, .int 0]) := by rw [A86 2 (by decide), A86 3 (by decide), A86 4 (by decide), A86 5 (by decide), A86 6 (by decide)]; exact (B86 1 (by decide)).trans F79
  have F89 : p86 7 = .inr (3, [.ref (a86 8), .ref (a86 9), .int 0]) := by rw [A86 8 (by decide), A86 9 (by decide)]; exact (B86 7 (by decide)).trans F80
  have F90 : p86 10 = .inr (8, [.ref (a86 11), .int 0]) := by rw [A86 11 (by decide)]; exact (B86 10 (by decide)).trans F81
  have F91 : p86 12 = .inr (4, [.ref (a86 10), .int 0, .int 0, .int 0, .int 0]) := by rw [A86 10 (by decide)]; exact (B86 12 (by decide)).trans F82
  have F92 : p86 13 = .inr (1, [.ref (a86 14), .ref (a86 15), .int 0]) := by rw [A86 14 (by decide), A86 15 (by decide)]; exact (B86 13 (by decide)).trans F83
  have F93 : p86 15 = .inr (7, [.int (-1), .int 0, .ref (a86 16), .int 2, .int 20, .int 2, .int 1]) := by rw [A86 16 (by decide)]; exact (B86 15 (by decide)).trans F84
  have F94 : p86 17 = .inr (2, [.ref (a86 18), .ref (a86 19), .ref (a86 20), .int 0]) := by rw [A86 18 (by decide), A86 19 (by decide), A86 20 (by decide)]; exact (B86 17 (by decide)).trans F85
  rw [← A86 0 (by decide)]
  refine x_dup C dX9_init_91 rfl ?_
  refine x_I 21 C (k_X5_init l G a86 p86  N86) gX9_init_X5_init rfl init5 ml66 imX5_init rfl (by decide +kernel) ⟨(Nat.le_of_ble_eq_true rfl), (Nat.le_of_ble_eq_true rfl)⟩ ⟨(Nat.le_of_ble_eq_true rfl), (Nat.le_of_ble_eq_true rfl)⟩ (n := 0) rfl (st := [.ref (a86 21), .ref (a86 0)]) (Nat.le_of_ble_eq_true rfl) rfl dX9_init_92 (fun a95 p95 Q95 C => ?_)
  obtain ⟨A95, B95, N95_0, N95_1, N95_2, N95_3, N95_4⟩ := Q95
  replace A95 : ∀ i, i ≠ 22 → i ≠ 23 → i ≠ 24 → i ≠ 25 → a95 i = a86 i := A95
  replace B95 : ∀ i, i ≠ 21 → i ≠ 22 → i ≠ 23 → i ≠ 24 → i ≠ 25 → p95 i = p86 i := B95
  replace N95_0 : p95 21 = .inr (5, [.ref (a95 22), .ref (a95 23), .ref (a95 24), .ref (a95 25), .int 0, .int 0]) := N95_0
  replace N95_1 : p95 22 = .inl (G.2.1 0, 6, .inl (fun _ => 0)) := N95_1
  replace N95_2 : p95 23 = .inl (G.2.1 0, 6, .inl (fun _ => 0)) := N95_2
  replace N95_3 : p95 24 = .inl (G.2.1 0, 6, .inl (fun _ => 0)) := N95_3
  replace N95_4 : p95 25 = .inl (G.2.1 0, 64, .inl (fun _ => 0)) := N95_4
  have F96 : p95 0 = .inr (9, [.ref (a95 1), .ref (a95 7), .ref (a95 10), .ref (a95 12), .ref (a95 13), .ref (a95 17), .null, .int 0, .int 0]) := by rw [A95 1 (by decide) (by decide) (by decide) (by decide), A95 7 (by decide) (by decide) (by decide) (by decide), A95 10 (by decide) (by decide) (by decide) (by decide), A95 12 (by decide) (by decide) (by decide) (by decide), A95 13 (by decide) (by decide) (by decide) (by decide), A95 17 (by decide) (by decide) (by decide) (by decide)]; exact (B95 0 (by decide) (by decide) (by decide) (by decide) (by decide)).trans F87
  have F97 : p95 1 = .inr (0, [.int ((nI nR)), .ref (a95 2), .ref (a95 3), .ref (a95 4), .ref (a95 5), .ref (a95 6), .int 0, .int 401, .int 0]) := by rw [A95 2 (by decide) (by decide) (by decide) (by decide), A95 3 (by decide) (by decide) (by decide) (by decide), A95 4 (by decide) (by decide) (by decide) (by decide), A95 5 (by decide) (by decide) (by decide) (by decide), A95 6 (by decide) (by decide) (by decide) (by decide)]; exact (B95 1 (by decide) (by decide) (by decide) (by decide) (by decide)).trans F88
  have F98 : p95 7 = .inr (3, [.ref (a95 8), .ref (a95 9), .int 0]) := by rw [A95 8 (by decide) (by decide) (by decide) (by decide), A95 9 (by decide) (by decide) (by decide) (by decide)]; exact (B95 7 (by decide) (by decide) (by decide) (by decide) (by decide)).trans F89
  have F99 : p95 10 = .inr (8, [.ref (a95 11), .int 0]) := by rw [A95 11 (by decide) (by decide) (by decide) (by decide)]; exact (B95 10 (by decide) (by decide) (by decide) (by decide) (by decide)).trans F90
  have F100 : p95 12 = .inr (4, [.ref (a95 10), .int 0, .int 0, .int 0, .int 0]) := by rw [A95 10 (by decide) (by decide) (by decide) (by decide)]; exact (B95 12 (by decide) (by decide) (by decide) (by decide) (by decide)).trans F91
  have F101 : p95 13 = .inr (1, [.ref (a95 14), .ref (a95 15), .int 0]) := by rw [A95 14 (by decide) (by decide) (by decide) (by decide), A95 15 (by decide) (by decide) (by decide) (by decide)]; exact (B95 13 (by decide) (by decide) (by decide) (by decide) (by decide)).trans F92
  have F102 : p95 15 = .inr (7, [.int (-1), .int 0, .ref (a95 16), .int 2, .int 20, .int 2, .int 1]) := by rw [A95 16 (by decide) (by decide) (by decide) (by decide)]; exact (B95 15 (by decide) (by decide) (by decide) (by decide) (by decide)).trans F93
  have F103 : p95 17 = .inr (2, [.ref (a95 18), .ref (a95 19), .ref (a95 20), .int 0]) := by rw [A95 18 (by decide) (by decide) (by decide) (by decide), A95 19 (by decide) (by decide) (by decide) (by decide), A95 20 (by decide) (by decide) (by decide) (by decide)]; exact (B95 17 (by decide) (by decide) (by decide) (by decide) (by decide)).trans F94
  rw [← A95 0 (by decide) (by decide) (by decide) (by decide)]
  rw [← A95 21 (by decide) (by decide) (by decide) (by decide)]
  refine x_putFG C (T := TX9) (N := 9) (ty := .object "TributeFleet$Schedule") 0 6 hin9 tyX9 tyX9_ok nmX9 (by decide) F96 rfl (by decide) lk67 rfl rfl hnm9 rfl (by decide +kernel) rfl rfl (Nat.le_of_ble_eq_true rfl) dX9_init_95 (fun p104 B104 N104 => ?_)
  replace N104 : p104 0 = .inr (9, [.ref (a95 1), .ref (a95 7), .ref (a95 10), .ref (a95 12), .ref (a95 13), .ref (a95 17), .ref (a95 21), .int 0, .int 0]) := N104
  have F105 : p104 1 = .inr (0, [.int ((nI nR)), .ref (a95 2), .ref (a95 3), .ref (a95 4), .ref (a95 5), .ref (a95 6), .int 0, .int 401, .int 0]) := (B104 1 (by decide)).trans F97
  have F106 : p104 7 = .inr (3, [.ref (a95 8), .ref (a95 9), .int 0]) := (B104 7 (by decide)).trans F98
  have F107 : p104 10 = .inr (8, [.ref (a95 11), .int 0]) := (B104 10 (by decide)).trans F99
  have F108 : p104 12 = .inr (4, [.ref (a95 10), .int 0, .int 0, .int 0, .int 0]) := (B104 12 (by decide)).trans F100
  have F109 : p104 13 = .inr (1, [.ref (a95 14), .ref (a95 15), .int 0]) := (B104 13 (by decide)).trans F101
  have F110 : p104 15 = .inr (7, [.int (-1), .int 0, .ref (a95 16), .int 2, .int 20, .int 2, .int 1]) := (B104 15 (by decide)).trans F102
  have F111 : p104 17 = .inr (2, [.ref (a95 18), .ref (a95 19), .ref (a95 20), .int 0]) := (B104 17 (by decide)).trans F103
  have F112 : p104 21 = .inr (5, [.ref (a95 22), .ref (a95 23), .ref (a95 24), .ref (a95 25), .int 0, .int 0]) := (B104 21 (by decide)).trans N95_0
  refine x_aload_n C 1 dX9_init_98 rfl rfl ?_
  refine x_iconst C dX9_init_99 (v := 0) (by decide) ?_
  refine x_putG C (T := TX9) (N := 9) (ty := .int) 0 7 hin9 tyX9 tyX9_ok nmX9 (by decide) N104 rfl (by decide) lk71 rfl rfl (by decide +kernel) rfl rfl (Nat.le_of_ble_eq_true rfl) dX9_init_100 (fun p113 B113 N113 => ?_)
  replace N113 : p113 0 = .inr (9, [.ref (a95 1), .ref (a95 7), .ref (a95 10), .ref (a95 12), .ref (a95 13), .ref (a95 17), .ref (a95 21), .int 0, .int 0]) := N113
  have F114 : p113 1 = .inr (0, [.int ((nI nR)), .ref (a95 2), .ref (a95 3), .ref (a95 4), .ref (a95 5), .ref (a95 6), .int 0, .int 401, .int 0]) := (B113 1 (by decide)).trans F105
  have F115 : p113 7 = .inr (3, [.ref (a95 8), .ref (a95 9), .int 0]) := (B113 7 (by decide)).trans F106
  have F116 : p113 10 = .inr (8, [.ref (a95 11), .int 0]) := (B113 10 (by decide)).trans F107
  have F117 : p113 12 = .inr (4, [.ref (a95 10), .int 0, .int 0, .int 0, .int 0]) := (B113 12 (by decide)).trans F108
  have F118 : p113 13 = .inr (1, [.ref (a95 14), .ref (a95 15), .int 0]) := (B113 13 (by decide)).trans F109
  have F119 : p113 15 = .inr (7, [.int (-1), .int 0, .ref (a95 16), .int 2, .int 20, .int 2, .int 1]) := (B113 15 (by decide)).trans F110
  have F120 : p113 17 = .inr (2, [.ref (a95 18), .ref (a95 19), .ref (a95 20), .int 0]) := (B113 17 (by decide)).trans F111
  have F121 : p113 21 = .inr (5, [.ref (a95 22), .ref (a95 23), .ref (a95 24), .ref (a95 25), .int 0, .int 0]) := (B113 21 (by decide)).trans F112
  refine x_aload_n C 1 dX9_init_103 rfl rfl ?_
  refine x_iconst C dX9_init_104 (v := -1) (by decide) ?_
  refine x_putG C (T := TX9) (N := 9) (ty := .int) 0 8 hin9 tyX9 tyX9_ok nmX9 (by decide) N113 rfl (by decide) lk75 rfl rfl (by decide +kernel) rfl rfl (Nat.le_of_ble_eq_true rfl) dX9_init_105 (fun p122 B122 N122 => ?_)
  replace N122 : p122 0 = .inr (9, [.ref (a95 1), .ref (a95 7), .ref (a95 10), .ref (a95 12), .ref (a95 13), .ref (a95 17), .ref (a95 21), .int 0, .int (-1)]) := N122
  have F123 : p122 1 = .inr (0, [.int ((nI nR)), .ref (a95 2), .ref (a95 3), .ref (a95 4), .ref (a95 5), .ref (a95 6), .int 0, .int 401, .int 0]) := (B122 1 (by decide)).trans F114
  have F124 : p122 7 = .inr (3, [.ref (a95 8), .ref (a95 9), .int 0]) := (B122 7 (by decide)).trans F115
  have F125 : p122 10 = .inr (8, [.ref (a95 11), .int 0]) := (B122 10 (by decide)).trans F116
  have F126 : p122 12 = .inr (4, [.ref (a95 10), .int 0, .int 0, .int 0, .int 0]) := (B122 12 (by decide)).trans F117
  have F127 : p122 13 = .inr (1, [.ref (a95 14), .ref (a95 15), .int 0]) := (B122 13 (by decide)).trans F118
  have F128 : p122 15 = .inr (7, [.int (-1), .int 0, .ref (a95 16), .int 2, .int 20, .int 2, .int 1]) := (B122 15 (by decide)).trans F119
  have F129 : p122 17 = .inr (2, [.ref (a95 18), .ref (a95 19), .ref (a95 20), .int 0]) := (B122 17 (by decide)).trans F120
  have F130 : p122 21 = .inr (5, [.ref (a95 22), .ref (a95 23), .ref (a95 24), .ref (a95 25), .int 0, .int 0]) := (B122 21 (by decide)).trans F121
  refine x_vretA C hrt9 ?_ dX9_init_108
  refine ⟨fun i h1 h2 h3 h4 h5 h6 h7 h8 h9 h10 h11 h12 h13 h14 h15 h16 h17 h18 h19 h20 h21 h22 h23 h24 h25 => ((((((((((((((A95 i h22 h23 h24 h25).trans (A86 i h21)).trans (A70 i h18 h19 h20)).trans (A62 i h17)).trans (A49 i h14 h15 h16)).trans (A43 i h13)).trans (A33 i)).trans (A28 i h12)).trans (A20 i h11)).trans (A16 i h10)).trans (A10 i h8 h9)).trans (A7 i h7)).trans (A3 i h2 h3 h4 h5 h6)).trans (A1 i h1)), fun i h0 h1 h2 h3 h4 h5 h6 h7 h8 h9 h10 h11 h12 h13 h14 h15 h16 h17 h18 h19 h20 h21 h22 h23 h24 h25 => (((((((((((((((((((((((B122 i h0).trans (B113 i h0)).trans (B104 i h0)).trans (B95 i h21 h22 h23 h24 h25)).trans (B86 i h21)).trans (B78 i h0)).trans (B70 i h17 h18 h19 h20)).trans (B62 i h17)).trans (B55 i h0)).trans (B49 i h13 h14 h15 h16)).trans (B43 i h13)).trans (B38 i h0)).trans (B33 i h12)).trans (B28 i h12)).trans (B24 i h0)).trans (B20 i h10 h11)).trans (B16 i h10)).trans (B13 i h0)).trans (B10 i h7 h8 h9)).trans (B7 i h7)).trans (B5 i h0)).trans (B3 i h1 h2 h3 h4 h5 h6)).trans (B1 i h1)), N122, F123, ((((((((((((((((((((((B122 2 (by decide)).trans (B113 2 (by decide))).trans (B104 2 (by decide))).trans (B95 2 (by decide) (by decide) (by decide) (by decide) (by decide))).trans (B86 2 (by decide))).trans (B78 2 (by decide))).trans (B70 2 (by decide) (by decide) (by decide) (by decide))).trans (B62 2 (by decide))).trans (B55 2 (by decide))).trans (B49 2 (by decide) (by decide) (by decide) (by decide))).trans (B43 2 (by decide))).trans (B38 2 (by decide))).trans (B33 2 (by decide))).trans (B28 2 (by decide))).trans (B24 2 (by decide))).trans (B20 2 (by decide) (by decide))).trans (B16 2 (by decide))).trans (B13 2 (by decide))).trans (B10 2 (by decide) (by decide) (by decide))).trans (B7 2 (by decide))).trans (B5 2 (by decide))).trans N3_1), ((((((((((((((((((((((B122 3 (by decide)).trans (B113 3 (by decide))).trans (B104 3 (by decide))).trans (B95 3 (by decide) (by decide) (by decide) (by decide) (by decide))).trans (B86 3 (by decide))).trans (B78 3 (by decide))).trans (B70 3 (by decide) (by decide) (by decide) (by decide))).trans (B62 3 (by decide))).trans (B55 3 (by decide))).trans (B49 3 (by decide) (by decide) (by decide) (by decide))).trans (B43 3 (by decide))).trans (B38 3 (by decide))).trans (B33 3 (by decide))).trans (B28 3 (by decide))).trans (B24 3 (by decide))).trans (B20 3 (by decide) (by decide))).trans (B16 3 (by decide))).trans (B13 3 (by decide))).trans (B10 3 (by decide) (by decide) (by decide))).trans (B7 3 (by decide))).trans (B5 3 (by decide))).trans N3_2), ((((((((((((((((((((((B122 4 (by decide)).trans (B113 4 (by decide))).trans (B104 4 (by decide))).trans (B95 4 (by decide) (by decide) (by decide) (by decide) (by decide))).trans (B86 4 (by decide))).trans (B78 4 (by decide))).trans (B70 4 (by decide) (by decide) (by decide) (by decide))).trans (B62 4 (by decide))).trans (B55 4 (by decide))).trans (B49 4 (by decide) (by decide) (by decide) (by decide))).trans (B43 4 (by decide))).trans (B38 4 (by decide))).trans (B33 4 (by decide))).trans (B28 4 (by decide))).trans (B24 4 (by decide))).trans (B20 4 (by decide) (by decide))).trans (B16 4 (by decide))).trans (B13 4 (by decide))).trans (B10 4 (by decide) (by decide) (by decide))).trans (B7 4 (by decide))).trans (B5 4 (by decide))).trans N3_3), ((((((((((((((((((((((B122 5 (by decide)).trans (B113 5 (by decide))).trans (B104 5 (by decide))).trans (B95 5 (by decide) (by decide) (by decide) (by decide) (by decide))).trans (B86 5 (by decide))).trans (B78 5 (by decide))).trans (B70 5 (by decide) (by decide) (by decide) (by decide))).trans (B62 5 (by decide))).trans (B55 5 (by decide))).trans (B49 5 (by decide) (by decide) (by decide) (by decide))).trans (B43 5 (by decide))).trans (B38 5 (by decide))).trans (B33 5 (by decide))).trans (B28 5 (by decide))).trans (B24 5 (by decide))).trans (B20 5 (by decide) (by decide))).trans (B16 5 (by decide))).trans (B13 5 (by decide))).trans (B10 5 (by decide) (by decide) (by decide))).trans (B7 5 (by decide))).trans (B5 5 (by decide))).trans N3_4), ((((((((((((((((((((((B122 6 (by decide)).trans (B113 6 (by decide))).trans (B104 6 (by decide))).trans (B95 6 (by decide) (by decide) (by decide) (by decide) (by decide))).trans (B86 6 (by decide))).trans (B78 6 (by decide))).trans (B70 6 (by decide) (by decide) (by decide) (by decide))).trans (B62 6 (by decide))).trans (B55 6 (by decide))).trans (B49 6 (by decide) (by decide) (by decide) (by decide))).trans (B43 6 (by decide))).trans (B38 6 (by decide))).trans (B33 6 (by decide))).trans (B28 6 (by decide))).trans (B24 6 (by decide))).trans (B20 6 (by decide) (by decide))).trans (B16 6 (by decide))).trans (B13 6 (by decide))).trans (B10 6 (by decide) (by decide) (by decide))).trans (B7 6 (by decide))).trans (B5 6 (by decide))).trans N3_5), F124, (((((((((((((((((((B122 8 (by decide)).trans (B113 8 (by decide))).trans (B104 8 (by decide))).trans (B95 8 (by decide) (by decide) (by decide) (by decide) (by decide))).trans (B86 8 (by decide))).trans (B78 8 (by decide))).trans (B70 8 (by decide) (by decide) (by decide) (by decide))).trans (B62 8 (by decide))).trans (B55 8 (by decide))).trans (B49 8 (by decide) (by decide) (by decide) (by decide))).trans (B43 8 (by decide))).trans (B38 8 (by decide))).trans (B33 8 (by decide))).trans (B28 8 (by decide))).trans (B24 8 (by decide))).trans (B20 8 (by decide) (by decide))).trans (B16 8 (by decide))).trans (B13 8 (by decide))).trans N10_1), (((((((((((((((((((B122 9 (by decide)).trans (B113 9 (by decide))).trans (B104 9 (by decide))).trans (B95 9 (by decide) (by decide) (by decide) (by decide) (by decide))).trans (B86 9 (by decide))).trans (B78 9 (by decide))).trans (B70 9 (by decide) (by decide) (by decide) (by decide))).trans (B62 9 (by decide))).trans (B55 9 (by decide))).trans (B49 9 (by decide) (by decide) (by decide) (by decide))).trans (B43 9 (by decide))).trans (B38 9 (by decide))).trans (B33 9 (by decide))).trans (B28 9 (by decide))).trans (B24 9 (by decide))).trans (B20 9 (by decide) (by decide))).trans (B16 9 (by decide))).trans (B13 9 (by decide))).trans N10_2), F125, ((((((((((((((((B122 11 (by decide)).trans (B113 11 (by decide))).trans (B104 11 (by decide))).trans (B95 11 (by decide) (by decide) (by decide) (by decide) (by decide))).trans (B86 11 (by decide))).trans (B78 11 (by decide))).trans (B70 11 (by decide) (by decide) (by decide) (by decide))).trans (B62 11 (by decide))).trans (B55 11 (by decide))).trans (B49 11 (by decide) (by decide) (by decide) (by decide))).trans (B43 11 (by decide))).trans (B38 11 (by decide))).trans (B33 11 (by decide))).trans (B28 11 (by decide))).trans (B24 11 (by decide))).trans N20_1), F126, F127, ((((((((((B122 14 (by decide)).trans (B113 14 (by decide))).trans (B104 14 (by decide))).trans (B95 14 (by decide) (by decide) (by decide) (by decide) (by decide))).trans (B86 14 (by decide))).trans (B78 14 (by decide))).trans (B70 14 (by decide) (by decide) (by decide) (by decide))).trans (B62 14 (by decide))).trans (B55 14 (by decide))).trans N49_1), F128, ((((((((((B122 16 (by decide)).trans (B113 16 (by decide))).trans (B104 16 (by decide))).trans (B95 16 (by decide) (by decide) (by decide) (by decide) (by decide))).trans (B86 16 (by decide))).trans (B78 16 (by decide))).trans (B70 16 (by decide) (by decide) (by decide) (by decide))).trans (B62 16 (by decide))).trans (B55 16 (by decide))).trans N49_3), F129, (((((((B122 18 (by decide)).trans (B113 18 (by decide))).trans (B104 18 (by decide))).trans (B95 18 (by decide) (by decide) (by decide) (by decide) (by decide))).trans (B86 18 (by decide))).trans (B78 18 (by decide))).trans N70_1), (((((((B122 19 (by decide)).trans (B113 19 (by decide))).trans (B104 19 (by decide))).trans (B95 19 (by decide) (by decide) (by decide) (by decide) (by decide))).trans (B86 19 (by decide))).trans (B78 19 (by decide))).trans N70_2), (((((((B122 20 (by decide)).trans (B113 20 (by decide))).trans (B104 20 (by decide))).trans (B95 20 (by decide) (by decide) (by decide) (by decide) (by decide))).trans (B86 20 (by decide))).trans (B78 20 (by decide))).trans N70_3), F130, ((((B122 22 (by decide)).trans (B113 22 (by decide))).trans (B104 22 (by decide))).trans N95_1), ((((B122 23 (by decide)).trans (B113 23 (by decide))).trans (B104 23 (by decide))).trans N95_2), ((((B122 24 (by decide)).trans (B113 24 (by decide))).trans (B104 24 (by decide))).trans N95_3), ((((B122 25 (by decide)).trans (B113 25 (by decide))).trans (B104 25 (by decide))).trans N95_4)⟩

set_option maxHeartbeats 4000000 in
set_option maxRecDepth 100000 in
theorem k_X10_init (l : Launch) (G : tf_G) (ad : Nat → Nat) (P : Nat → va_E) (x : Int32) (nR : Nat) (hx : imax 3 (imin 12 x) = nI nR) (hR12 : nR ≤ 12) (hr : P 30 = .inr (10, [.int 0, .null, .null, .int 0, .int 0, .int 0, .int 0, .int 0, .int 0, .null, .null, .null, .null, .null, .null, .null, .null, .null, .null, .null, .null, .null, .null, .null, .null, .null, .null, .null, .null, .int 0, .int 0, .int 0, .int 0, .int 0, .null, .null, .null, .null, .null, .int 0, .int 0, .null, .null, .null, .null])) : Dv l yX10_init wsX10_init ({ frames := 1, cells := 31, slots := 1757, locals := 15 } : Room) G [0, 1, 2, 3, 4, 5, 6, 7, 8, 9, 10, 11, 12, 13, 14, 15, 16, 17, 18, 19, 20, 21, 22, 23, 24, 25, 30] ad P [.ref (ad 30), .int x] ((((((((((((((((((((((((((((((([0, 1, 2, 3, 4, 5, 6, 7, 8, 9, 10, 11, 12, 13, 14, 15, 16, 17, 18, 19, 20, 21, 22, 23, 24, 25, 30] ++ [31]) ++ [32]) ++ [39]) ++ [40]) ++ [41]) ++ [42]) ++ [43]) ++ [44]) ++ [45]) ++ [46]) ++ [47]) ++ [48]) ++ [49]) ++ [50]) ++ [51]) ++ [52]) ++ [53]) ++ [54]) ++ [55]) ++ [56]) ++ [57]) ++ [58]) ++ [64]) ++ [65]) ++ [66]) ++ [67]) ++ [68]) ++ [71]) ++ [72]) ++ [73]) ++ [74]) (fun u => (∀ i, i ≠ 31 → i ≠ 32 → i ≠ 39 → i ≠ 40 → i ≠ 41 → i ≠ 42 → i ≠ 43 → i ≠ 44 → i ≠ 45 → i ≠ 46 → i ≠ 47 → i ≠ 48 → i ≠ 49 → i ≠ 50 → i ≠ 51 → i ≠ 52 → i ≠ 53 → i ≠ 54 → i ≠ 55 → i ≠ 56 → i ≠ 57 → i ≠ 58 → i ≠ 64 → i ≠ 65 → i ≠ 66 → i ≠ 67 → i ≠ 68 → i ≠ 71 → i ≠ 72 → i ≠ 73 → i ≠ 74 → u.1 i = ad i) ∧ (∀ i, i ≠ 30 → i ≠ 31 → i ≠ 32 → i ≠ 39 → i ≠ 40 → i ≠ 41 → i ≠ 42 → i ≠ 43 → i ≠ 44 → i ≠ 45 → i ≠ 46 → i ≠ 47 → i ≠ 48 → i ≠ 49 → i ≠ 50 → i ≠ 51 → i ≠ 52 → i ≠ 53 → i ≠ 54 → i ≠ 55 → i ≠ 56 → i ≠ 57 → i ≠ 58 → i ≠ 64 → i ≠ 65 → i ≠ 66 → i ≠ 67 → i ≠ 68 → i ≠ 71 → i ≠ 72 → i ≠ 73 → i ≠ 74 → u.2 i = P i) ∧ u.2 30 = .inr (10, [.int (nI nR), .ref (u.1 31), .ref (u.1 32), .int 0, .int 0, .int 0, .int 1000, .int 0, .int 0, .ref (u.1 39), .ref (u.1 40), .ref (u.1 41), .ref (u.1 42), .ref (u.1 43), .ref (u.1 44), .ref (u.1 45), .ref (u.1 46), .ref (u.1 47), .ref (u.1 48), .ref (u.1 49), .ref (u.1 50), .ref (u.1 51), .ref (u.1 52), .ref (u.1 53), .ref (u.1 54), .ref (u.1 55), .ref (u.1 56), .ref (u.1 57), .ref (u.1 58), .int 0, .int 0, .int 0, .int (-1), .int 0, .ref (u.1 64), .ref (u.1 65), .ref (u.1 66), .ref (u.1 67), .ref (u.1 68), .int 0, .int 0, .ref (u.1 71), .ref (u.1 72), .ref (u.1 73), .ref (u.1 74)]) ∧ u.2 31 = .inl (G.2.1 0, 12, .inl (upd (upd (upd (upd (upd (upd (upd (upd (upd (upd (upd (upd (fun _ => 0) 0 100) 1 100) 2 100) 3 100) 4 100) 5 100) 6 100) 7 100) 8 100) 9 100) 10 100) 11 100)) ∧ u.2 32 = .inl (G.2.1 0, 11, .inl (upd (upd (upd (upd (upd (upd (upd (upd (upd (upd (upd (fun _ => 0) 0 20) 1 20) 2 20) 3 20) 4 20) 5 20) 6 20) 7 20) 8 20) 9 20) 10 20)) ∧ u.2 39 = .inl (G.2.1 0, 4, .inl (fun _ => 0)) ∧ u.2 40 = .inl (G.2.1 0, 4, .inl (fun _ => 0)) ∧ u.2 41 = .inl (G.2.1 0, 4, .inl (fun _ => 0)) ∧ u.2 42 = .inl (G.2.1 0, 12, .inl (fun _ => 0)) ∧ u.2 43 = .inl (G.2.1 0, 12, .inl (fun _ => 0)) ∧ u.2 44 = .inl (G.2.1 0, 12, .inl (fun _ => 0)) ∧ u.2 45 = .inl (G.2.1 0, 12, .inl (fun _ => 0)) ∧ u.2 46 = .inl (G.2.1 0, 12, .inl (fun _ => 0)) ∧ u.2 47 = .inl (G.2.1 0, 12, .inl (fun _ => 0)) ∧ u.2 48 = .inl (G.2.1 0, 12, .inl (fun _ => 0)) ∧ u.2 49 = .inl (G.2.1 0, 12, .inl (fun _ => 0)) ∧ u.2 50 = .inl (G.2.1 0, 12, .inl (fun _ => 0)) ∧ u.2 51 = .inl (G.2.1 2, 12, .inl (fun _ => 0)) ∧ u.2 52 = .inl (G.2.1 0, 144, .inl (fun _ => 0)) ∧ u.2 53 = .inl (G.2.1 0, 60, .inl (fun _ => 0)) ∧ u.2 54 = .inl (G.2.1 0, 6, .inl (fun _ => 0)) ∧ u.2 55 = .inl (G.2.1 0, 6, .inl (fun _ => 0)) ∧ u.2 56 = .inl (G.2.1 0, 6, .inl (fun _ => 0)) ∧ u.2 57 = .inl (G.2.1 1, 400, .inl (fun _ => 0)) ∧ u.2 58 = .inl (G.2.1 1, 400, .inl (fun _ => 0)) ∧ u.2 64 = .inl (G.2.1 0, 11, .inl (fun _ => 0)) ∧ u.2 65 = .inl (G.2.1 0, 11, .inl (fun _ => 0)) ∧ u.2 66 = .inl (G.2.1 0, 176, .inl (fun _ => 0)) ∧ u.2 67 = .inl (G.2.1 0, 176, .inl (fun _ => 0)) ∧ u.2 68 = .inl (G.2.1 0, 176, .inl (fun _ => 0)) ∧ u.2 71 = .inl (G.2.1 2, 12, .inl (fun _ => 0)) ∧ u.2 72 = .inl (G.2.1 0, 6, .inl (fun _ => 0)) ∧ u.2 73 = .inl (G.2.1 0, 6, .inl (fun _ => 0)) ∧ u.2 74 = .inl (G.2.1 0, 6, .inl (fun _ => 0))) := by
  have oi1 : Cond.methodLink RX10 1 objectInit ∈ wsX10_init := by decide +kernel
  have oi2 : Cond.instanceMethod objectInit ∈ wsX10_init := by decide +kernel
  have oi3 : Cond.code objectInit ⟨#[0xb1]⟩ 1 none ∈ wsX10_init := by decide +kernel
  have arrint : Cond.arrayClass .int ∈ wsX10_init := by decide +kernel
  have hin10 : ∀ w ∈ u_ws RX10 TX10 45, w ∈ wsX10_init := by decide +kernel
  have lk7 : Cond.fieldLink RX10 7 "TributeFleetModel" "water" "[I" ∈ wsX10_init := by decide +kernel
  have lk13 : Cond.fieldLink RX10 13 "TributeFleetModel" "boatsADay" "[I" ∈ wsX10_init := by decide +kernel
  have lk16 : Cond.fieldLink RX10 16 "TributeFleetModel" "iceDay" "I" ∈ wsX10_init := by decide +kernel
  have lk20 : Cond.fieldLink RX10 20 "TributeFleetModel" "lakeReach" "[I" ∈ wsX10_init := by decide +kernel
  have lk23 : Cond.fieldLink RX10 23 "TributeFleetModel" "store" "[I" ∈ wsX10_init := by decide +kernel
  have lk26 : Cond.fieldLink RX10 26 "TributeFleetModel" "gives" "[I" ∈ wsX10_init := by decide +kernel
  have lk29 : Cond.fieldLink RX10 29 "TributeFleetModel" "county" "[I" ∈ wsX10_init := by decide +kernel
  have lk32 : Cond.fieldLink RX10 32 "TributeFleetModel" "boats" "[I" ∈ wsX10_init := by decide +kernel
  have lk35 : Cond.fieldLink RX10 35 "TributeFleetModel" "loaded" "[I" ∈ wsX10_init := by decide +kernel
  have lk38 : Cond.fieldLink RX10 38 "TributeFleetModel" "lost" "[I" ∈ wsX10_init := by decide +kernel
  have lk41 : Cond.fieldLink RX10 41 "TributeFleetModel" "goods" "[I" ∈ wsX10_init := by decide +kernel
  have lk44 : Cond.fieldLink RX10 44 "TributeFleetModel" "at" "[I" ∈ wsX10_init := by decide +kernel
  have lk47 : Cond.fieldLink RX10 47 "TributeFleetModel" "came" "[I" ∈ wsX10_init := by decide +kernel
  have lk50 : Cond.fieldLink RX10 50 "TributeFleetModel" "why" "[I" ∈ wsX10_init := by decide +kernel
  have lk53 : Cond.fieldLink RX10 53 "TributeFleetModel" "due" "[I" ∈ wsX10_init := by decide +kernel
  have arrboolean : Cond.arrayClass .boolean ∈ wsX10_init := by decide +kernel
  have lk56 : Cond.fieldLink RX10 56 "TributeFleetModel" "hasLeave" "[Z" ∈ wsX10_init := by decide +kernel
  have lk60 : Cond.fieldLink RX10 60 "TributeFleetModel" "days" "[I" ∈ wsX10_init := by decide +kernel
  have lk63 : Cond.fieldLink RX10 63 "TributeFleetModel" "causes" "[I" ∈ wsX10_init := by decide +kernel
  have lk66 : Cond.fieldLink RX10 66 "TributeFleetModel" "allotment" "[I" ∈ wsX10_init := by decide +kernel
  have lk69 : Cond.fieldLink RX10 69 "TributeFleetModel" "commuted" "[I" ∈ wsX10_init := by decide +kernel
  have lk72 : Cond.fieldLink RX10 72 "TributeFleetModel" "paid" "[I" ∈ wsX10_init := by decide +kernel
  have arrbyte : Cond.arrayClass .byte ∈ wsX10_init := by decide +kernel
  have lk75 : Cond.fieldLink RX10 75 "TributeFleetModel" "tape" "[B" ∈ wsX10_init := by decide +kernel
  have lk79 : Cond.fieldLink RX10 79 "TributeFleetModel" "text" "[B" ∈ wsX10_init := by decide +kernel
  have lk82 : Cond.fieldLink RX10 82 "TributeFleetModel" "fault" "I" ∈ wsX10_init := by decide +kernel
  have lk85 : Cond.fieldLink RX10 85 "TributeFleetModel" "statements" "[I" ∈ wsX10_init := by decide +kernel
  have lk88 : Cond.fieldLink RX10 88 "TributeFleetModel" "taken" "[I" ∈ wsX10_init := by decide +kernel
  have lk91 : Cond.fieldLink RX10 91 "TributeFleetModel" "sort" "[I" ∈ wsX10_init := by decide +kernel
  have lk94 : Cond.fieldLink RX10 94 "TributeFleetModel" "first" "[I" ∈ wsX10_init := by decide +kernel
  have lk97 : Cond.fieldLink RX10 97 "TributeFleetModel" "second" "[I" ∈ wsX10_init := by decide +kernel
  have lk100 : Cond.fieldLink RX10 100 "TributeFleetModel" "hasGone" "[Z" ∈ wsX10_init := by decide +kernel
  have lk103 : Cond.fieldLink RX10 103 "TributeFleetModel" "few" "[I" ∈ wsX10_init := by decide +kernel
  have lk106 : Cond.fieldLink RX10 106 "TributeFleetModel" "row" "[I" ∈ wsX10_init := by decide +kernel
  have lk109 : Cond.fieldLink RX10 109 "TributeFleetModel" "bestRow" "[I" ∈ wsX10_init := by decide +kernel
  have hm1min : Cond.methodLink RX10 112 Lib.Math.min.name ∈ wsX10_init := by decide +kernel
  have hm2min : Cond.static Lib.Math.min.name ∈ wsX10_init := by decide +kernel
  have hm3 : Cond.initialized "java/lang/Math" ∈ wsX10_init := by decide +kernel
  have hm4min : Cond.code Lib.Math.min.name Lib.Math.min.code 2 (some .int) ∈ wsX10_init := by decide +kernel
  have hm1max : Cond.methodLink RX10 118 Lib.Math.max.name ∈ wsX10_init := by decide +kernel
  have hm2max : Cond.static Lib.Math.max.name ∈ wsX10_init := by decide +kernel
  have hm4max : Cond.code Lib.Math.max.name Lib.Math.max.code 2 (some .int) ∈ wsX10_init := by decide +kernel
  have lk121 : Cond.fieldLink RX10 121 "TributeFleetModel" "reaches" "I" ∈ wsX10_init := by decide +kernel
  refine dv_of (cc := cX10_init) (maxL := 3) (ret := none) (by decide +kernel) rfl (Nat.le_of_ble_eq_true rfl) ?_
  intro pv ev sv mv args below meth cv A C hrt9 hnm9
  have C : Cx pv sv mv args meth cv cX10_init 3 RX10 wsX10_init G A [0, 1, 2, 3, 4, 5, 6, 7, 8, 9, 10, 11, 12, 13, 14, 15, 16, 17, 18, 19, 20, 21, 22, 23, 24, 25, 30] ad := C
  show XJ pv l ev _ sv mv args below meth cv G A [0, 1, 2, 3, 4, 5, 6, 7, 8, 9, 10, 11, 12, 13, 14, 15, 16, 17, 18, 19, 20, 21, 22, 23, 24, 25, 30] ad _ 3 0 0 _ 0 [(0, .ref (ad 30)), (1, .int x)] []
  refine x_aload_n C 0 dX10_init_0 rfl rfl ?_
  refine x_obj C oi1 oi2 oi3 (Nat.le_of_ble_eq_true rfl) (Nat.le_of_ble_eq_true rfl) dX10_init_1 ?_
  refine x_aload_n C 0 dX10_init_4 rfl rfl ?_
  refine x_bipush C dX10_init_5 (v := 12) (by decide) ?_
  refine x_newaF C (atype := .int) (ty := .int) (N' := 12) (f := (fun _ => 0)) 31 arrint rfl (t0 := 0) rfl (by decide) (fun _ => rfl) (by decide) (by decide) (Nat.le_of_ble_eq_true rfl) (Nat.le_of_ble_eq_true rfl) (Nat.le_of_ble_eq_true rfl) dX10_init_7 (fun a1 p1 A1 B1 N1 C => ?_)
  have F2 : p1 30 = .inr (10, [.int 0, .null, .null, .int 0, .int 0, .int 0, .int 0, .int 0, .int 0, .null, .null, .null, .null, .null, .null, .null, .null, .null, .null, .null, .null, .null, .null, .null, .null, .null, .null, .null, .null, .int 0, .int 0, .int 0, .int 0, .int 0, .null, .null, .null, .null, .null, .int 0, .int 0, .null, .null, .null, .null]) := (B1 30 (by decide)).trans hr
  rw [← A1 30 (by decide)]
  refine x_putFG C (T := TX10) (N := 45) (ty := .array .int) 30 1 hin10 tyX10 tyX10_ok nmX10 (by decide) F2 rfl (by decide) lk7 rfl rfl hnm9 rfl (by decide +kernel) rfl rfl (Nat.le_of_ble_eq_true rfl) dX10_init_9 (fun p3 B3 N3 => ?_)
  replace N3 : p3 30 = .inr (10, [.int 0, .ref (a1 31), .null, .int 0, .int 0, .int 0, .int 0, .int 0, .int 0, .null, .null, .null, .null, .null, .null, .null, .null, .null, .null, .null, .null, .null, .null, .null, .null, .null, .null, .null, .null, .int 0, .int 0, .int 0, .int 0, .int 0, .null, .null, .null, .null, .null, .int 0, .int 0, .null, .null, .null, .null]) := N3
  refine x_aload_n C 0 dX10_init_12 rfl rfl ?_
  refine x_bipush C dX10_init_13 (v := 11) (by decide) ?_
  refine x_newaF C (atype := .int) (ty := .int) (N' := 11) (f := (fun _ => 0)) 32 arrint rfl (t0 := 0) rfl (by decide) (fun _ => rfl) (by decide) (by decide) (Nat.le_of_ble_eq_true rfl) (Nat.le_of_ble_eq_true rfl) (Nat.le_of_ble_eq_true rfl) dX10_init_15 (fun a4 p4 A4 B4 N4 C => ?_)
  have F5 : p4 30 = .inr (10, [.int 0, .ref (a4 31), .null, .int 0, .int 0, .int 0, .int 0, .int 0, .int 0, .null, .null, .null, .null, .null, .null, .null, .null, .null, .null, .null, .null, .null, .null, .null, .null, .null, .null, .null, .null, .int 0, .int 0, .int 0, .int 0, .int 0, .null, .null, .null, .null, .null, .int 0, .int 0, .null, .null, .null, .null]) := by rw [A4 31 (by decide)]; exact (B4 30 (by decide)).trans N3
  rw [← A4 30 (by decide)]
  refine x_putFG C (T := TX10) (N := 45) (ty := .array .int) 30 2 hin10 tyX10 tyX10_ok nmX10 (by decide) F5 rfl (by decide) lk13 rfl rfl hnm9 rfl (by decide +kernel) rfl rfl (Nat.le_of_ble_eq_true rfl) dX10_init_17 (fun p6 B6 N6 => ?_)
  replace N6 : p6 30 = .inr (10, [.int 0, .ref (a4 31), .ref (a4 32), .int 0, .int 0, .int 0, .int 0, .int 0, .int 0, .null, .null, .null, .null, .null, .null, .null, .null, .null, .null, .null, .null, .null, .null, .null, .null, .null, .null, .null, .null, .int 0, .int 0, .int 0, .int 0, .int 0, .null, .null, .null, .null, .null, .int 0, .int 0, .null, .null, .null, .null]) := N6
  refine x_aload_n C 0 dX10_init_20 rfl rfl ?_
  refine x_sipush C dX10_init_21 (v := 1000) (by decide) ?_
  refine x_putG C (T := TX10) (N := 45) (ty := .int) 30 6 hin10 tyX10 tyX10_ok nmX10 (by decide) N6 rfl (by decide) lk16 rfl rfl (by decide +kernel) rfl rfl (Nat.le_of_ble_eq_true rfl) dX10_init_24 (fun p7 B7 N7 => ?_)
  replace N7 : p7 30 = .inr (10, [.int 0, .ref (a4 31), .ref (a4 32), .int 0, .int 0, .int 0, .int 1000, .int 0, .int 0, .null, .null, .null, .null, .null, .null, .null, .null, .null, .null, .null, .null, .null, .null, .null, .null, .null, .null, .null, .null, .int 0, .int 0, .int 0, .int 0, .int 0, .null, .null, .null, .null, .null, .int 0, .int 0, .null, .null, .null, .null]) := N7
  refine x_aload_n C 0 dX10_init_27 rfl rfl ?_
  refine x_iconst C dX10_init_28 (v := 4) (by decide) ?_
  refine x_newaF C (atype := .int) (ty := .int) (N' := 4) (f := (fun _ => 0)) 39 arrint rfl (t0 := 0) rfl (by decide) (fun _ => rfl) (by decide) (by decide) (Nat.le_of_ble_eq_true rfl) (Nat.le_of_ble_eq_true rfl) (Nat.le_of_ble_eq_true rfl) dX10_init_29 (fun a8 p8 A8 B8 N8 C => ?_)
  have F9 : p8 30 = .inr (10, [.int 0, .ref (a8 31), .ref (a8 32), .int 0, .int 0, .int 0, .int 1000, .int 0, .int 0, .null, .null, .null, .null, .null, .null, .null, .null, .null, .null, .null, .null, .null, .null, .null, .null, .null, .null, .null, .null, .int 0, .int 0, .int 0, .int 0, .int 0, .null, .null, .null, .null, .null, .int 0, .int 0, .null, .null, .null, .null]) := by rw [A8 31 (by decide), A8 32 (by decide)]; exact (B8 30 (by decide)).trans N7
  rw [← A8 30 (by decide)]
  refine x_putFG C (T := TX10) (N := 45) (ty := .array .int) 30 9 hin10 tyX10 tyX10_ok nmX10 (by decide) F9 rfl (by decide) lk20 rfl rfl hnm9 rfl (by decide +kernel) rfl rfl (Nat.le_of_ble_eq_true rfl) dX10_init_31 (fun p10 B10 N10 => ?_)
  replace N10 : p10 30 = .inr (10, [.int 0, .ref (a8 31), .ref (a8 32), .int 0, .int 0, .int 0, .int 1000, .int 0, .int 0, .ref (a8 39), .null, .null, .null, .null, .null, .null, .null, .null, .null, .null, .null, .null, .null, .null, .null, .null, .null, .null, .null, .int 0, .int 0, .int 0, .int 0, .int 0, .null, .null, .null, .null, .null, .int 0, .int 0, .null, .null, .null, .null]) := N10
  refine x_aload_n C 0 dX10_init_34 rfl rfl ?_
  refine x_iconst C dX10_init_35 (v := 4) (by decide) ?_
  refine x_newaF C (atype := .int) (ty := .int) (N' := 4) (f := (fun _ => 0)) 40 arrint rfl (t0 := 0) rfl (by decide) (fun _ => rfl) (by decide) (by decide) (Nat.le_of_ble_eq_true rfl) (Nat.le_of_ble_eq_true rfl) (Nat.le_of_ble_eq_true rfl) dX10_init_36 (fun a11 p11 A11 B11 N11 C => ?_)
  have F12 : p11 30 = .inr (10, [.int 0, .ref (a11 31), .ref (a11 32), .int 0, .int 0, .int 0, .int 1000, .int 0, .int 0, .ref (a11 39), .null, .null, .null, .null, .null, .null, .null, .null, .null, .null, .null, .null, .null, .null, .null, .null, .null, .null, .null, .int 0, .int 0, .int 0, .int 0, .int 0, .null, .null, .null, .null, .null, .int 0, .int 0, .null, .null, .null, .null]) := by rw [A11 31 (by decide), A11 32 (by decide), A11 39 (by decide)]; exact (B11 30 (by decide)).trans N10
  rw [← A11 30 (by decide)]
  refine x_putFG C (T := TX10) (N := 45) (ty := .array .int) 30 10 hin10 tyX10 tyX10_ok nmX10 (by decide) F12 rfl (by decide) lk23 rfl rfl hnm9 rfl (by decide +kernel) rfl rfl (Nat.le_of_ble_eq_true rfl) dX10_init_38 (fun p13 B13 N13 => ?_)
  replace N13 : p13 30 = .inr (10, [.int 0, .ref (a11 31), .ref (a11 32), .int 0, .int 0, .int 0, .int 1000, .int 0, .int 0, .ref (a11 39), .ref (a11 40), .null, .null, .null, .null, .null, .null, .null, .null, .null, .null, .null, .null, .null, .null, .null, .null, .null, .null, .int 0, .int 0, .int 0, .int 0, .int 0, .null, .null, .null, .null, .null, .int 0, .int 0, .null, .null, .null, .null]) := N13
  refine x_aload_n C 0 dX10_init_41 rfl rfl ?_
  refine x_iconst C dX10_init_42 (v := 4) (by decide) ?_
  refine x_newaF C (atype := .int) (ty := .int) (N' := 4) (f := (fun _ => 0)) 41 arrint rfl (t0 := 0) rfl (by decide) (fun _ => rfl) (by decide) (by decide) (Nat.le_of_ble_eq_true rfl) (Nat.le_of_ble_eq_true rfl) (Nat.le_of_ble_eq_true rfl) dX10_init_43 (fun a14 p14 A14 B14 N14 C => ?_)
  have F15 : p14 30 = .inr (10, [.int 0, .ref (a14 31), .ref (a14 32), .int 0, .int 0, .int 0, .int 1000, .int 0, .int 0, .ref (a14 39), .ref (a14 40), .null, .null, .null, .null, .null, .null, .null, .null, .null, .null, .null, .null, .null, .null, .null, .null, .null, .null, .int 0, .int 0, .int 0, .int 0, .int 0, .null, .null, .null, .null, .null, .int 0, .int 0, .null, .null, .null, .null]) := by rw [A14 31 (by decide), A14 32 (by decide), A14 39 (by decide), A14 40 (by decide)]; exact (B14 30 (by decide)).trans N13
  rw [← A14 30 (by decide)]
  refine x_putFG C (T := TX10) (N := 45) (ty := .array .int) 30 11 hin10 tyX10 tyX10_ok nmX10 (by decide) F15 rfl (by decide) lk26 rfl rfl hnm9 rfl (by decide +kernel) rfl rfl (Nat.le_of_ble_eq_true rfl) dX10_init_45 (fun p16 B16 N16 => ?_)
  replace N16 : p16 30 = .inr (10, [.int 0, .ref (a14 31), .ref (a14 32), .int 0, .int 0, .int 0, .int 1000, .int 0, .int 0, .ref (a14 39), .ref (a14 40), .ref (a14 41), .null, .null, .null, .null, .null, .null, .null, .null, .null, .null, .null, .null, .null, .null, .null, .null, .null, .int 0, .int 0, .int 0, .int 0, .int 0, .null, .null, .null, .null, .null, .int 0, .int 0, .null, .null, .null, .null]) := N16
  refine x_aload_n C 0 dX10_init_48 rfl rfl ?_
  refine x_bipush C dX10_init_49 (v := 12) (by decide) ?_
  refine x_newaF C (atype := .int) (ty := .int) (N' := 12) (f := (fun _ => 0)) 42 arrint rfl (t0 := 0) rfl (by decide) (fun _ => rfl) (by decide) (by decide) (Nat.le_of_ble_eq_true rfl) (Nat.le_of_ble_eq_true rfl) (Nat.le_of_ble_eq_true rfl) dX10_init_51 (fun a17 p17 A17 B17 N17 C => ?_)
  have F18 : p17 30 = .inr (10, [.int 0, .ref (a17 31), .ref (a17 32), .int 0, .int 0, .int 0, .int 1000, .int 0, .int 0, .ref (a17 39), .ref (a17 40), .ref (a17 41), .null, .null, .null, .null, .null, .null, .null, .null, .null, .null, .null, .null, .null, .null, .null, .null, .null, .int 0, .int 0, .int 0, .int 0, .int 0, .null, .null, .null, .null, .null, .int 0, .int 0, .null, .null, .null, .null]) := by rw [A17 31 (by decide), A17 32 (by decide), A17 39 (by decide), A17 40 (by decide), A17 41 (by decide)]; exact (B17 30 (by decide)).trans N16
  rw [← A17 30 (by decide)]
  refine x_putFG C (T := TX10) (N := 45) (ty := .array .int) 30 12 hin10 tyX10 tyX10_ok nmX10 (by decide) F18 rfl (by decide) lk29 rfl rfl hnm9 rfl (by decide +kernel) rfl rfl (Nat.le_of_ble_eq_true rfl) dX10_init_53 (fun p19 B19 N19 => ?_)
  replace N19 : p19 30 = .inr (10, [.int 0, .ref (a17 31), .ref (a17 32), .int 0, .int 0, .int 0, .int 1000, .int 0, .int 0, .ref (a17 39), .ref (a17 40), .ref (a17 41), .ref (a17 42), .null, .null, .null, .null, .null, .null, .null, .null, .null, .null, .null, .null, .null, .null, .null, .null, .int 0, .int 0, .int 0, .int 0, .int 0, .null, .null, .null, .null, .null, .int 0, .int 0, .null, .null, .null, .null]) := N19
  refine x_aload_n C 0 dX10_init_56 rfl rfl ?_
  refine x_bipush C dX10_init_57 (v := 12) (by decide) ?_
  refine x_newaF C (atype := .int) (ty := .int) (N' := 12) (f := (fun _ => 0)) 43 arrint rfl (t0 := 0) rfl (by decide) (fun _ => rfl) (by decide) (by decide) (Nat.le_of_ble_eq_true rfl) (Nat.le_of_ble_eq_true rfl) (Nat.le_of_ble_eq_true rfl) dX10_init_59 (fun a20 p20 A20 B20 N20 C => ?_)
  have F21 : p20 30 = .inr (10, [.int 0, .ref (a20 31), .ref (a20 32), .int 0, .int 0, .int 0, .int 1000, .int 0, .int 0, .ref (a20 39), .ref (a20 40), .ref (a20 41), .ref (a20 42), .null, .null, .null, .null, .null, .null, .null, .null, .null, .null, .null, .null, .null, .null, .null, .null, .int 0, .int 0, .int 0, .int 0, .int 0, .null, .null, .null, .null, .null, .int 0, .int 0, .null, .null, .null, .null]) := by rw [A20 31 (by decide), A20 32 (by decide), A20 39 (by decide), A20 40 (by decide), A20 41 (by decide), A20 42 (by decide)]; exact (B20 30 (by decide)).trans N19
  rw [← A20 30 (by decide)]
  refine x_putFG C (T := TX10) (N := 45) (ty := .array .int) 30 13 hin10 tyX10 tyX10_ok nmX10 (by decide) F21 rfl (by decide) lk32 rfl rfl hnm9 rfl (by decide +kernel) rfl rfl (Nat.le_of_ble_eq_true rfl) dX10_init_61 (fun p22 B22 N22 => ?_)
  replace N22 : p22 30 = .inr (10, [.int 0, .ref (a20 31), .ref (a20 32), .int 0, .int 0, .int 0, .int 1000, .int 0, .int 0, .ref (a20 39), .ref (a20 40), .ref (a20 41), .ref (a20 42), .ref (a20 43), .null, .null, .null, .null, .null, .null, .null, .null, .null, .null, .null, .null, .null, .null, .null, .int 0, .int 0, .int 0, .int 0, .int 0, .null, .null, .null, .null, .null, .int 0, .int 0, .null, .null, .null, .null]) := N22
  refine x_aload_n C 0 dX10_init_64 rfl rfl ?_
  refine x_bipush C dX10_init_65 (v := 12) (by decide) ?_
  refine x_newaF C (atype := .int) (ty := .int) (N' := 12) (f := (fun _ => 0)) 44 arrint rfl (t0 := 0) rfl (by decide) (fun _ => rfl) (by decide) (by decide) (Nat.le_of_ble_eq_true rfl) (Nat.le_of_ble_eq_true rfl) (Nat.le_of_ble_eq_true rfl) dX10_init_67 (fun a23 p23 A23 B23 N23 C => ?_)
  have F24 : p23 30 = .inr (10, [.int 0, .ref (a23 31), .ref (a23 32), .int 0, .int 0, .int 0, .int 1000, .int 0, .int 0, .ref (a23 39), .ref (a23 40), .ref (a23 41), .ref (a23 42), .ref (a23 43), .null, .null, .null, .null, .null, .null, .null, .null, .null, .null, .null, .null, .null, .null, .null, .int 0, .int 0, .int 0, .int 0, .int 0, .null, .null, .null, .null, .null, .int 0, .int 0, .null, .null, .null, .null]) := by rw [A23 31 (by decide), A23 32 (by decide), A23 39 (by decide), A23 40 (by decide), A23 41 (by decide), A23 42 (by decide), A23 43 (by decide)]; exact (B23 30 (by decide)).trans N22
  rw [← A23 30 (by decide)]
  refine x_putFG C (T := TX10) (N := 45) (ty := .array .int) 30 14 hin10 tyX10 tyX10_ok nmX10 (by decide) F24 rfl (by decide) lk35 rfl rfl hnm9 rfl (by decide +kernel) rfl rfl (Nat.le_of_ble_eq_true rfl) dX10_init_69 (fun p25 B25 N25 => ?_)
  replace N25 : p25 30 = .inr (10, [.int 0, .ref (a23 31), .ref (a23 32), .int 0, .int 0, .int 0, .int 1000, .int 0, .int 0, .ref (a23 39), .ref (a23 40), .ref (a23 41), .ref (a23 42), .ref (a23 43), .ref (a23 44), .null, .null, .null, .null, .null, .null, .null, .null, .null, .null, .null, .null, .null, .null, .int 0, .int 0, .int 0, .int 0, .int 0, .null, .null, .null, .null, .null, .int 0, .int 0, .null, .null, .null, .null]) := N25
  refine x_aload_n C 0 dX10_init_72 rfl rfl ?_
  refine x_bipush C dX10_init_73 (v := 12) (by decide) ?_
  refine x_newaF C (atype := .int) (ty := .int) (N' := 12) (f := (fun _ => 0)) 45 arrint rfl (t0 := 0) rfl (by decide) (fun _ => rfl) (by decide) (by decide) (Nat.le_of_ble_eq_true rfl) (Nat.le_of_ble_eq_true rfl) (Nat.le_of_ble_eq_true rfl) dX10_init_75 (fun a26 p26 A26 B26 N26 C => ?_)
  have F27 : p26 30 = .inr (10, [.int 0, .ref (a26 31), .ref (a26 32), .int 0, .int 0, .int 0, .int 1000, .int 0, .int 0, .ref (a26 39), .ref (a26 40), .ref (a26 41), .ref (a26 42), .ref (a26 43), .ref (a26 44), .null, .null, .null, .null, .null, .null, .null, .null, .null, .null, .null, .null, .null, .null, .int 0, .int 0, .int 0, .int 0, .int 0, .null, .null, .null, .null, .null, .int 0, .int 0, .null, .null, .null, .null]) := by rw [A26 31 (by decide), A26 32 (by decide), A26 39 (by decide), A26 40 (by decide), A26 41 (by decide), A26 42 (by decide), A26 43 (by decide), A26 44 (by decide)]; exact (B26 30 (by decide)).trans N25
  rw [← A26 30 (by decide)]
  refine x_putFG C (T := TX10) (N := 45) (ty := .array .int) 30 15 hin10 tyX10 tyX10_ok nmX10 (by decide) F27 rfl (by decide) lk38 rfl rfl hnm9 rfl (by decide +kernel) rfl rfl (Nat.le_of_ble_eq_true rfl) dX10_init_77 (fun p28 B28 N28 => ?_)
  replace N28 : p28 30 = .inr (10, [.int 0, .ref (a26 31), .ref (a26 32), .int 0, .int 0, .int 0, .int 1000, .int 0, .int 0, .ref (a26 39), .ref (a26 40), .ref (a26 41), .ref (a26 42), .ref (a26 43), .ref (a26 44), .ref (a26 45), .null, .null, .null, .null, .null, .null, .null, .null, .null, .null, .null, .null, .null, .int 0, .int 0, .int 0, .int 0, .int 0, .null, .null, .null, .null, .null, .int 0, .int 0, .null, .null, .null, .null]) := N28
  refine x_aload_n C 0 dX10_init_80 rfl rfl ?_
  refine x_bipush C dX10_init_81 (v := 12) (by decide) ?_
  refine x_newaF C (atype := .int) (ty := .int) (N' := 12) (f := (fun _ => 0)) 46 arrint rfl (t0 := 0) rfl (by decide) (fun _ => rfl) (by decide) (by decide) (Nat.le_of_ble_eq_true rfl) (Nat.le_of_ble_eq_true rfl) (Nat.le_of_ble_eq_true rfl) dX10_init_83 (fun a29 p29 A29 B29 N29 C => ?_)
  have F30 : p29 30 = .inr (10, [.int 0, .ref (a29 31), .ref (a29 32), .int 0, .int 0, .int 0, .int 1000, .int 0, .int 0, .ref (a29 39), .ref (a29 40), .ref (a29 41), .ref (a29 42), .ref (a29 43), .ref (a29 44), .ref (a29 45), .null, .null, .null, .null, .null, .null, .null, .null, .null, .null, .null, .null, .null, .int 0, .int 0, .int 0, .int 0, .int 0, .null, .null, .null, .null, .null, .int 0, .int 0, .null, .null, .null, .null]) := by rw [A29 31 (by decide), A29 32 (by decide), A29 39 (by decide), A29 40 (by decide), A29 41 (by decide), A29 42 (by decide), A29 43 (by decide), A29 44 (by decide), A29 45 (by decide)]; exact (B29 30 (by decide)).trans N28
  rw [← A29 30 (by decide)]
  refine x_putFG C (T := TX10) (N := 45) (ty := .array .int) 30 16 hin10 tyX10 tyX10_ok nmX10 (by decide) F30 rfl (by decide) lk41 rfl rfl hnm9 rfl (by decide +kernel) rfl rfl (Nat.le_of_ble_eq_true rfl) dX10_init_85 (fun p31 B31 N31 => ?_)
  replace N31 : p31 30 = .inr (10, [.int 0, .ref (a29 31), .ref (a29 32), .int 0, .int 0, .int 0, .int 1000, .int 0, .int 0, .ref (a29 39), .ref (a29 40), .ref (a29 41), .ref (a29 42), .ref (a29 43), .ref (a29 44), .ref (a29 45), .ref (a29 46), .null, .null, .null, .null, .null, .null, .null, .null, .null, .null, .null, .null, .int 0, .int 0, .int 0, .int 0, .int 0, .null, .null, .null, .null, .null, .int 0, .int 0, .null, .null, .null, .null]) := N31
  refine x_aload_n C 0 dX10_init_88 rfl rfl ?_
  refine x_bipush C dX10_init_89 (v := 12) (by decide) ?_
  refine x_newaF C (atype := .int) (ty := .int) (N' := 12) (f := (fun _ => 0)) 47 arrint rfl (t0 := 0) rfl (by decide) (fun _ => rfl) (by decide) (by decide) (Nat.le_of_ble_eq_true rfl) (Nat.le_of_ble_eq_true rfl) (Nat.le_of_ble_eq_true rfl) dX10_init_91 (fun a32 p32 A32 B32 N32 C => ?_)
  have F33 : p32 30 = .inr (10, [.int 0, .ref (a32 31), .ref (a32 32), .int 0, .int 0, .int 0, .int 1000, .int 0, .int 0, .ref (a32 39), .ref (a32 40), .ref (a32 41), .ref (a32 42), .ref (a32 43), .ref (a32 44), .ref (a32 45), .ref (a32 46), .null, .null, .null, .null, .null, .null, .null, .null, .null, .null, .null, .null, .int 0, .int 0, .int 0, .int 0, .int 0, .null, .null, .null, .null, .null, .int 0, .int 0, .null, .null, .null, .null]) := by rw [A32 31 (by decide), A32 32 (by decide), A32 39 (by decide), A32 40 (by decide), A32 41 (by decide), A32 42 (by decide), A32 43 (by decide), A32 44 (by decide), A32 45 (by decide), A32 46 (by decide)]; exact (B32 30 (by decide)).trans N31
  rw [← A32 30 (by decide)]
  refine x_putFG C (T := TX10) (N := 45) (ty := .array .int) 30 17 hin10 tyX10 tyX10_ok nmX10 (by decide) F33 rfl (by decide) lk44 rfl rfl hnm9 rfl (by decide +kernel) rfl rfl (Nat.le_of_ble_eq_true rfl) dX10_init_93 (fun p34 B34 N34 => ?_)
  replace N34 : p34 30 = .inr (10, [.int 0, .ref (a32 31), .ref (a32 32), .int 0, .int 0, .int 0, .int 1000, .int 0, .int 0, .ref (a32 39), .ref (a32 40), .ref (a32 41), .ref (a32 42), .ref (a32 43), .ref (a32 44), .ref (a32 45), .ref (a32 46), .ref (a32 47), .null, .null, .null, .null, .null, .null, .null, .null, .null, .null, .null, .int 0, .int 0, .int 0, .int 0, .int 0, .null, .null, .null, .null, .null, .int 0, .int 0, .null, .null, .null, .null]) := N34
  refine x_aload_n C 0 dX10_init_96 rfl rfl ?_
  refine x_bipush C dX10_init_97 (v := 12) (by decide) ?_
  refine x_newaF C (atype := .int) (ty := .int) (N' := 12) (f := (fun _ => 0)) 48 arrint rfl (t0 := 0) rfl (by decide) (fun _ => rfl) (by decide) (by decide) (Nat.le_of_ble_eq_true rfl) (Nat.le_of_ble_eq_true rfl) (Nat.le_of_ble_eq_true rfl) dX10_init_99 (fun a35 p35 A35 B35 N35 C => ?_)
  have F36 : p35 30 = .inr (10, [.int 0, .ref (a35 31), .ref (a35 32), .int 0, .int 0, .int 0, .int 1000, .int 0, .int 0, .ref (a35 39), .ref (a35 40), .ref (a35 41), .ref (a35 42), .ref (a35 43), .ref (a35 44), .ref (a35 45), .ref (a35 46), .ref (a35 47), .null, .null, .null, .null, .null, .null, .null, .null, .null, .null, .null, .int 0, .int 0, .int 0, .int 0, .int 0, .null, .null, .null, .null, .null, .int 0, .int 0, .null, .null, .null, .null]) := by rw [A35 31 (by decide), A35 32 (by decide), A35 39 (by decide), A35 40 (by decide), A35 41 (by decide), A35 42 (by decide), A35 43 (by decide), A35 44 (by decide), A35 45 (by decide), A35 46 (by decide), A35 47 (by decide)]; exact (B35 30 (by decide)).trans N34
  rw [← A35 30 (by decide)]
  refine x_putFG C (T := TX10) (N := 45) (ty := .array .int) 30 18 hin10 tyX10 tyX10_ok nmX10 (by decide) F36 rfl (by decide) lk47 rfl rfl hnm9 rfl (by decide +kernel) rfl rfl (Nat.le_of_ble_eq_true rfl) dX10_init_101 (fun p37 B37 N37 => ?_)
  replace N37 : p37 30 = .inr (10, [.int 0, .ref (a35 31), .ref (a35 32), .int 0, .int 0, .int 0, .int 1000, .int 0, .int 0, .ref (a35 39), .ref (a35 40), .ref (a35 41), .ref (a35 42), .ref (a35 43), .ref (a35 44), .ref (a35 45), .ref (a35 46), .ref (a35 47), .ref (a35 48), .null, .null, .null, .null, .null, .null, .null, .null, .null, .null, .int 0, .int 0, .int 0, .int 0, .int 0, .null, .null, .null, .null, .null, .int 0, .int 0, .null, .null, .null, .null]) := N37
  refine x_aload_n C 0 dX10_init_104 rfl rfl ?_
  refine x_bipush C dX10_init_105 (v := 12) (by decide) ?_
  refine x_newaF C (atype := .int) (ty := .int) (N' := 12) (f := (fun _ => 0)) 49 arrint rfl (t0 := 0) rfl (by decide) (fun _ => rfl) (by decide) (by decide) (Nat.le_of_ble_eq_true rfl) (Nat.le_of_ble_eq_true rfl) (Nat.le_of_ble_eq_true rfl) dX10_init_107 (fun a38 p38 A38 B38 N38 C => ?_)
  have F39 : p38 30 = .inr (10, [.int 0, .ref (a38 31), .ref (a38 32), .int 0, .int 0, .int 0, .int 1000, .int 0, .int 0, .ref (a38 39), .ref (a38 40), .ref (a38 41), .ref (a38 42), .ref (a38 43), .ref (a38 44), .ref (a38 45), .ref (a38 46), .ref (a38 47), .ref (a38 48), .null, .null, .null, .null, .null, .null, .null, .null, .null, .null, .int 0, .int 0, .int 0, .int 0, .int 0, .null, .null, .null, .null, .null, .int 0, .int 0, .null, .null, .null, .null]) := by rw [A38 31 (by decide), A38 32 (by decide), A38 39 (by decide), A38 40 (by decide), A38 41 (by decide), A38 42 (by decide), A38 43 (by decide), A38 44 (by decide), A38 45 (by decide), A38 46 (by decide), A38 47 (by decide), A38 48 (by decide)]; exact (B38 30 (by decide)).trans N37
  rw [← A38 30 (by decide)]
  refine x_putFG C (T := TX10) (N := 45) (ty := .array .int) 30 19 hin10 tyX10 tyX10_ok nmX10 (by decide) F39 rfl (by decide) lk50 rfl rfl hnm9 rfl (by decide +kernel) rfl rfl (Nat.le_of_ble_eq_true rfl) dX10_init_109 (fun p40 B40 N40 => ?_)
  replace N40 : p40 30 = .inr (10, [.int 0, .ref (a38 31), .ref (a38 32), .int 0, .int 0, .int 0, .int 1000, .int 0, .int 0, .ref (a38 39), .ref (a38 40), .ref (a38 41), .ref (a38 42), .ref (a38 43), .ref (a38 44), .ref (a38 45), .ref (a38 46), .ref (a38 47), .ref (a38 48), .ref (a38 49), .null, .null, .null, .null, .null, .null, .null, .null, .null, .int 0, .int 0, .int 0, .int 0, .int 0, .null, .null, .null, .null, .null, .int 0, .int 0, .null, .null, .null, .null]) := N40
  refine x_aload_n C 0 dX10_init_112 rfl rfl ?_
  refine x_bipush C dX10_init_113 (v := 12) (by decide) ?_
  refine x_newaF C (atype := .int) (ty := .int) (N' := 12) (f := (fun _ => 0)) 50 arrint rfl (t0 := 0) rfl (by decide) (fun _ => rfl) (by decide) (by decide) (Nat.le_of_ble_eq_true rfl) (Nat.le_of_ble_eq_true rfl) (Nat.le_of_ble_eq_true rfl) dX10_init_115 (fun a41 p41 A41 B41 N41 C => ?_)
  have F42 : p41 30 = .inr (10, [.int 0, .ref (a41 31), .ref (a41 32), .int 0, .int 0, .int 0, .int 1000, .int 0, .int 0, .ref (a41 39), .ref (a41 40), .ref (a41 41), .ref (a41 42), .ref (a41 43), .ref (a41 44), .ref (a41 45), .ref (a41 46), .ref (a41 47), .ref (a41 48), .ref (a41 49), .null, .null, .null, .null, .null, .null, .null, .null, .null, .int 0, .int 0, .int 0, .int 0, .int 0, .null, .null, .null, .null, .null, .int 0, .int 0, .null, .null, .null, .null]) := by rw [A41 31 (by decide), A41 32 (by decide), A41 39 (by decide), A41 40 (by decide), A41 41 (by decide), A41 42 (by decide), A41 43 (by decide), A41 44 (by decide), A41 45 (by decide), A41 46 (by decide), A41 47 (by decide), A41 48 (by decide), A41 49 (by decide)]; exact (B41 30 (by decide)).trans N40
  rw [← A41 30 (by decide)]
  refine x_putFG C (T := TX10) (N := 45) (ty := .array .int) 30 20 hin10 tyX10 tyX10_ok nmX10 (by decide) F42 rfl (by decide) lk53 rfl rfl hnm9 rfl (by decide +kernel) rfl rfl (Nat.le_of_ble_eq_true rfl) dX10_init_117 (fun p43 B43 N43 => ?_)
  replace N43 : p43 30 = .inr (10, [.int 0, .ref (a41 31), .ref (a41 32), .int 0, .int 0, .int 0, .int 1000, .int 0, .int 0, .ref (a41 39), .ref (a41 40), .ref (a41 41), .ref (a41 42), .ref (a41 43), .ref (a41 44), .ref (a41 45), .ref (a41 46), .ref (a41 47), .ref (a41 48), .ref (a41 49), .ref (a41 50), .null, .null, .null, .null, .null, .null, .null, .null, .int 0, .int 0, .int 0, .int 0, .int 0, .null, .null, .null, .null, .null, .int 0, .int 0, .null, .null, .null, .null]) := N43
  refine x_aload_n C 0 dX10_init_120 rfl rfl ?_
  refine x_bipush C dX10_init_121 (v := 12) (by decide) ?_
  refine x_newaF C (atype := .boolean) (ty := .boolean) (N' := 12) (f := (fun _ => 0)) 51 arrboolean rfl (t0 := 2) rfl (by decide) (fun _ => rfl) (by decide) (by decide) (Nat.le_of_ble_eq_true rfl) (Nat.le_of_ble_eq_true rfl) (Nat.le_of_ble_eq_true rfl) dX10_init_123 (fun a44 p44 A44 B44 N44 C => ?_)
  have F45 : p44 30 = .inr (10, [.int 0, .ref (a44 31), .ref (a44 32), .int 0, .int 0, .int 0, .int 1000, .int 0, .int 0, .ref (a44 39), .ref (a44 40), .ref (a44 41), .ref (a44 42), .ref (a44 43), .ref (a44 44), .ref (a44 45), .ref (a44 46), .ref (a44 47), .ref (a44 48), .ref (a44 49), .ref (a44 50), .null, .null, .null, .null, .null, .null, .null, .null, .int 0, .int 0, .int 0, .int 0, .int 0, .null, .null, .null, .null, .null, .int 0, .int 0, .null, .null, .null, .null]) := by rw [A44 31 (by decide), A44 32 (by decide), A44 39 (by decide), A44 40 (by decide), A44 41 (by decide), A44 42 (by decide), A44 43 (by decide), A44 44 (by decide), A44 45 (by decide), A44 46 (by decide), A44 47 (by decide), A44 48 (by decide), A44 49 (by decide), A44 50 (by decide)]; exact (B44 30 (by decide)).trans N43
  rw [← A44 30 (by decide)]
  refine x_putFG C (T := TX10) (N := 45) (ty := .array .boolean) 30 21 hin10 tyX10 tyX10_ok nmX10 (by decide) F45 rfl (by decide) lk56 rfl rfl hnm9 rfl (by decide +kernel) rfl rfl (Nat.le_of_ble_eq_true rfl) dX10_init_125 (fun p46 B46 N46 => ?_)
  replace N46 : p46 30 = .inr (10, [.int 0, .ref (a44 31), .ref (a44 32), .int 0, .int 0, .int 0, .int 1000, .int 0, .int 0, .ref (a44 39), .ref (a44 40), .ref (a44 41), .ref (a44 42), .ref (a44 43), .ref (a44 44), .ref (a44 45), .ref (a44 46), .ref (a44 47), .ref (a44 48), .ref (a44 49), .ref (a44 50), .ref (a44 51), .null, .null, .null, .null, .null, .null, .null, .int 0, .int 0, .int 0, .int 0, .int 0, .null, .null, .null, .null, .null, .int 0, .int 0, .null, .null, .null, .null]) := N46
  refine x_aload_n C 0 dX10_init_128 rfl rfl ?_
  refine x_sipush C dX10_init_129 (v := 144) (by decide) ?_
  refine x_newaF C (atype := .int) (ty := .int) (N' := 144) (f := (fun _ => 0)) 52 arrint rfl (t0 := 0) rfl (by decide) (fun _ => rfl) (by decide) (by decide) (Nat.le_of_ble_eq_true rfl) (Nat.le_of_ble_eq_true rfl) (Nat.le_of_ble_eq_true rfl) dX10_init_132 (fun a47 p47 A47 B47 N47 C => ?_)
  have F48 : p47 30 = .inr (10, [.int 0, .ref (a47 31), .ref (a47 32), .int 0, .int 0, .int 0, .int 1000, .int 0, .int 0, .ref (a47 39), .ref (a47 40), .ref (a47 41), .ref (a47 42), .ref (a47 43), .ref (a47 44), .ref (a47 45), .ref (a47 46), .ref (a47 47), .ref (a47 48), .ref (a47 49), .ref (a47 50), .ref (a47 51), .null, .null, .null, .null, .null, .null, .null, .int 0, .int 0, .int 0, .int 0, .int 0, .null, .null, .null, .null, .null, .int 0, .int 0, .null, .null, .null, .null]) := by rw [A47 31 (by decide), A47 32 (by decide), A47 39 (by decide), A47 40 (by decide), A47 41 (by decide), A47 42 (by decide), A47 43 (by decide), A47 44 (by decide), A47 45 (by decide), A47 46 (by decide), A47 47 (by decide), A47 48 (by decide), A47 49 (by decide), A47 50 (by decide), A47 51 (by decide)]; exact (B47 30 (by decide)).trans N46
  rw [← A47 30 (by decide)]
  refine x_putFG C (T := TX10) (N := 45) (ty := .array .int) 30 22 hin10 tyX10 tyX10_ok nmX10 (by decide) F48 rfl (by decide) lk60 rfl rfl hnm9 rfl (by decide +kernel) rfl rfl (Nat.le_of_ble_eq_true rfl) dX10_init_134 (fun p49 B49 N49 => ?_)
  replace N49 : p49 30 = .inr (10, [.int 0, .ref (a47 31), .ref (a47 32), .int 0, .int 0, .int 0, .int 1000, .int 0, .int 0, .ref (a47 39), .ref (a47 40), .ref (a47 41), .ref (a47 42), .ref (a47 43), .ref (a47 44), .ref (a47 45), .ref (a47 46), .ref (a47 47), .ref (a47 48), .ref (a47 49), .ref (a47 50), .ref (a47 51), .ref (a47 52), .null, .null, .null, .null, .null, .null, .int 0, .int 0, .int 0, .int 0, .int 0, .null, .null, .null, .null, .null, .int 0, .int 0, .null, .null, .null, .null]) := N49
  refine x_aload_n C 0 dX10_init_137 rfl rfl ?_
  refine x_bipush C dX10_init_138 (v := 60) (by decide) ?_
  refine x_newaF C (atype := .int) (ty := .int) (N' := 60) (f := (fun _ => 0)) 53 arrint rfl (t0 := 0) rfl (by decide) (fun _ => rfl) (by decide) (by decide) (Nat.le_of_ble_eq_true rfl) (Nat.le_of_ble_eq_true rfl) (Nat.le_of_ble_eq_true rfl) dX10_init_140 (fun a50 p50 A50 B50 N50 C => ?_)
  have F51 : p50 30 = .inr (10, [.int 0, .ref (a50 31), .ref (a50 32), .int 0, .int 0, .int 0, .int 1000, .int 0, .int 0, .ref (a50 39), .ref (a50 40), .ref (a50 41), .ref (a50 42), .ref (a50 43), .ref (a50 44), .ref (a50 45), .ref (a50 46), .ref (a50 47), .ref (a50 48), .ref (a50 49), .ref (a50 50), .ref (a50 51), .ref (a50 52), .null, .null, .null, .null, .null, .null, .int 0, .int 0, .int 0, .int 0, .int 0, .null, .null, .null, .null, .null, .int 0, .int 0, .null, .null, .null, .null]) := by rw [A50 31 (by decide), A50 32 (by decide), A50 39 (by decide), A50 40 (by decide), A50 41 (by decide), A50 42 (by decide), A50 43 (by decide), A50 44 (by decide), A50 45 (by decide), A50 46 (by decide), A50 47 (by decide), A50 48 (by decide), A50 49 (by decide), A50 50 (by decide), A50 51 (by decide), A50 52 (by decide)]; exact (B50 30 (by decide)).trans N49
  rw [← A50 30 (by decide)]
  refine x_putFG C (T := TX10) (N := 45) (ty := .array .int) 30 23 hin10 tyX10 tyX10_ok nmX10 (by decide) F51 rfl (by decide) lk63 rfl rfl hnm9 rfl (by decide +kernel) rfl rfl (Nat.le_of_ble_eq_true rfl) dX10_init_142 (fun p52 B52 N52 => ?_)
  replace N52 : p52 30 = .inr (10, [.int 0, .ref (a50 31), .ref (a50 32), .int 0, .int 0, .int 0, .int 1000, .int 0, .int 0, .ref (a50 39), .ref (a50 40), .ref (a50 41), .ref (a50 42), .ref (a50 43), .ref (a50 44), .ref (a50 45), .ref (a50 46), .ref (a50 47), .ref (a50 48), .ref (a50 49), .ref (a50 50), .ref (a50 51), .ref (a50 52), .ref (a50 53), .null, .null, .null, .null, .null, .int 0, .int 0, .int 0, .int 0, .int 0, .null, .null, .null, .null, .null, .int 0, .int 0, .null, .null, .null, .null]) := N52
  refine x_aload_n C 0 dX10_init_145 rfl rfl ?_
  refine x_bipush C dX10_init_146 (v := 6) (by decide) ?_
  refine x_newaF C (atype := .int) (ty := .int) (N' := 6) (f := (fun _ => 0)) 54 arrint rfl (t0 := 0) rfl (by decide) (fun _ => rfl) (by decide) (by decide) (Nat.le_of_ble_eq_true rfl) (Nat.le_of_ble_eq_true rfl) (Nat.le_of_ble_eq_true rfl) dX10_init_148 (fun a53 p53 A53 B53 N53 C => ?_)
  have F54 : p53 30 = .inr (10, [.int 0, .ref (a53 31), .ref (a53 32), .int 0, .int 0, .int 0, .int 1000, .int 0, .int 0, .ref (a53 39), .ref (a53 40), .ref (a53 41), .ref (a53 42), .ref (a53 43), .ref (a53 44), .ref (a53 45), .ref (a53 46), .ref (a53 47), .ref (a53 48), .ref (a53 49), .ref (a53 50), .ref (a53 51), .ref (a53 52), .ref (a53 53), .null, .null, .null, .null, .null, .int 0, .int 0, .int 0, .int 0, .int 0, .null, .null, .null, .null, .null, .int 0, .int 0, .null, .null, .null, .null]) := by rw [A53 31 (by decide), A53 32 (by decide), A53 39 (by decide), A53 40 (by decide), A53 41 (by decide), A53 42 (by decide), A53 43 (by decide), A53 44 (by decide), A53 45 (by decide), A53 46 (by decide), A53 47 (by decide), A53 48 (by decide), A53 49 (by decide), A53 50 (by decide), A53 51 (by decide), A53 52 (by decide), A53 53 (by decide)]; exact (B53 30 (by decide)).trans N52
  rw [← A53 30 (by decide)]
  refine x_putFG C (T := TX10) (N := 45) (ty := .array .int) 30 24 hin10 tyX10 tyX10_ok nmX10 (by decide) F54 rfl (by decide) lk66 rfl rfl hnm9 rfl (by decide +kernel) rfl rfl (Nat.le_of_ble_eq_true rfl) dX10_init_150 (fun p55 B55 N55 => ?_)
  replace N55 : p55 30 = .inr (10, [.int 0, .ref (a53 31), .ref (a53 32), .int 0, .int 0, .int 0, .int 1000, .int 0, .int 0, .ref (a53 39), .ref (a53 40), .ref (a53 41), .ref (a53 42), .ref (a53 43), .ref (a53 44), .ref (a53 45), .ref (a53 46), .ref (a53 47), .ref (a53 48), .ref (a53 49), .ref (a53 50), .ref (a53 51), .ref (a53 52), .ref (a53 53), .ref (a53 54), .null, .null, .null, .null, .int 0, .int 0, .int 0, .int 0, .int 0, .null, .null, .null, .null, .null, .int 0, .int 0, .null, .null, .null, .null]) := N55
  refine x_aload_n C 0 dX10_init_153 rfl rfl ?_
  refine x_bipush C dX10_init_154 (v := 6) (by decide) ?_
  refine x_newaF C (atype := .int) (ty := .int) (N' := 6) (f := (fun _ => 0)) 55 arrint rfl (t0 := 0) rfl (by decide) (fun _ => rfl) (by decide) (by decide) (Nat.le_of_ble_eq_true rfl) (Nat.le_of_ble_eq_true rfl) (Nat.le_of_ble_eq_true rfl) dX10_init_156 (fun a56 p56 A56 B56 N56 C => ?_)
  have F57 : p56 30 = .inr (10, [.int 0, .ref (a56 31), .ref (a56 32), .int 0, .int 0, .int 0, .int 1000, .int 0, .int 0, .ref (a56 39), .ref (a56 40), .ref (a56 41), .ref (a56 42), .ref (a56 43), .ref (a56 44), .ref (a56 45), .ref (a56 46), .ref (a56 47), .ref (a56 48), .ref (a56 49), .ref (a56 50), .ref (a56 51), .ref (a56 52), .ref (a56 53), .ref (a56 54), .null, .null, .null, .null, .int 0, .int 0, .int 0, .int 0, .int 0, .null, .null, .null, .null, .null, .int 0, .int 0, .null, .null, .null, .null]) := by rw [A56 31 (by decide), A56 32 (by decide), A56 39 (by decide), A56 40 (by decide), A56 41 (by decide), A56 42 (by decide), A56 43 (by decide), A56 44 (by decide), A56 45 (by decide), A56 46 (by decide), A56 47 (by decide), A56 48 (by decide), A56 49 (by decide), A56 50 (by decide), A56 51 (by decide), A56 52 (by decide), A56 53 (by decide), A56 54 (by decide)]; exact (B56 30 (by decide)).trans N55
  rw [← A56 30 (by decide)]
  refine x_putFG C (T := TX10) (N := 45) (ty := .array .int) 30 25 hin10 tyX10 tyX10_ok nmX10 (by decide) F57 rfl (by decide) lk69 rfl rfl hnm9 rfl (by decide +kernel) rfl rfl (Nat.le_of_ble_eq_true rfl) dX10_init_158 (fun p58 B58 N58 => ?_)
  replace N58 : p58 30 = .inr (10, [.int 0, .ref (a56 31), .ref (a56 32), .int 0, .int 0, .int 0, .int 1000, .int 0, .int 0, .ref (a56 39), .ref (a56 40), .ref (a56 41), .ref (a56 42), .ref (a56 43), .ref (a56 44), .ref (a56 45), .ref (a56 46), .ref (a56 47), .ref (a56 48), .ref (a56 49), .ref (a56 50), .ref (a56 51), .ref (a56 52), .ref (a56 53), .ref (a56 54), .ref (a56 55), .null, .null, .null, .int 0, .int 0, .int 0, .int 0, .int 0, .null, .null, .null, .null, .null, .int 0, .int 0, .null, .null, .null, .null]) := N58
  refine x_aload_n C 0 dX10_init_161 rfl rfl ?_
  refine x_bipush C dX10_init_162 (v := 6) (by decide) ?_
  refine x_newaF C (atype := .int) (ty := .int) (N' := 6) (f := (fun _ => 0)) 56 arrint rfl (t0 := 0) rfl (by decide) (fun _ => rfl) (by decide) (by decide) (Nat.le_of_ble_eq_true rfl) (Nat.le_of_ble_eq_true rfl) (Nat.le_of_ble_eq_true rfl) dX10_init_164 (fun a59 p59 A59 B59 N59 C => ?_)
  have F60 : p59 30 = .inr (10, [.int 0, .ref (a59 31), .ref (a59 32), .int 0, .int 0, .int 0, .int 1000, .int 0, .int 0, .ref (a59 39), .ref (a59 40), .ref (a59 41), .ref (a59 42), .ref (a59 43), .ref (a59 44), .ref (a59 45), .ref (a59 46), .ref (a59 47), .ref (a59 48), .ref (a59 49), .ref (a59 50), .ref (a59 51), .ref (a59 52), .ref (a59 53), .ref (a59 54), .ref (a59 55), .null, .null, .null, .int 0, .int 0, .int 0, .int 0, .int 0, .null, .null, .null, .null, .null, .int 0, .int 0, .null, .null, .null, .null]) := by rw [A59 31 (by decide), A59 32 (by decide), A59 39 (by decide), A59 40 (by decide), A59 41 (by decide), A59 42 (by decide), A59 43 (by decide), A59 44 (by decide), A59 45 (by decide), A59 46 (by decide), A59 47 (by decide), A59 48 (by decide), A59 49 (by decide), A59 50 (by decide), A59 51 (by decide), A59 52 (by decide), A59 53 (by decide), A59 54 (by decide), A59 55 (by decide)]; exact (B59 30 (by decide)).trans N58
  rw [← A59 30 (by decide)]
  refine x_putFG C (T := TX10) (N := 45) (ty := .array .int) 30 26 hin10 tyX10 tyX10_ok nmX10 (by decide) F60 rfl (by decide) lk72 rfl rfl hnm9 rfl (by decide +kernel) rfl rfl (Nat.le_of_ble_eq_true rfl) dX10_init_166 (fun p61 B61 N61 => ?_)
  replace N61 : p61 30 = .inr (10, [.int 0, .ref (a59 31), .ref (a59 32), .int 0, .int 0, .int 0, .int 1000, .int 0, .int 0, .ref (a59 39), .ref (a59 40), .ref (a59 41), .ref (a59 42), .ref (a59 43), .ref (a59 44), .ref (a59 45), .ref (a59 46), .ref (a59 47), .ref (a59 48), .ref (a59 49), .ref (a59 50), .ref (a59 51), .ref (a59 52), .ref (a59 53), .ref (a59 54), .ref (a59 55), .ref (a59 56), .null, .null, .int 0, .int 0, .int 0, .int 0, .int 0, .null, .null, .null, .null, .null, .int 0, .int 0, .null, .null, .null, .null]) := N61
  refine x_aload_n C 0 dX10_init_169 rfl rfl ?_
  refine x_sipush C dX10_init_170 (v := 400) (by decide) ?_
  refine x_newaF C (atype := .byte) (ty := .byte) (N' := 400) (f := (fun _ => 0)) 57 arrbyte rfl (t0 := 1) rfl (by decide) (fun _ => rfl) (by decide) (by decide) (Nat.le_of_ble_eq_true rfl) (Nat.le_of_ble_eq_true rfl) (Nat.le_of_ble_eq_true rfl) dX10_init_173 (fun a62 p62 A62 B62 N62 C => ?_)
  have F63 : p62 30 = .inr (10, [.int 0, .ref (a62 31), .ref (a62 32), .int 0, .int 0, .int 0, .int 1000, .int 0, .int 0, .ref (a62 39), .ref (a62 40), .ref (a62 41), .ref (a62 42), .ref (a62 43), .ref (a62 44), .ref (a62 45), .ref (a62 46), .ref (a62 47), .ref (a62 48), .ref (a62 49), .ref (a62 50), .ref (a62 51), .ref (a62 52), .ref (a62 53), .ref (a62 54), .ref (a62 55), .ref (a62 56), .null, .null, .int 0, .int 0, .int 0, .int 0, .int 0, .null, .null, .null, .null, .null, .int 0, .int 0, .null, .null, .null, .null]) := by rw [A62 31 (by decide), A62 32 (by decide), A62 39 (by decide), A62 40 (by decide), A62 41 (by decide), A62 42 (by decide), A62 43 (by decide), A62 44 (by decide), A62 45 (by decide), A62 46 (by decide), A62 47 (by decide), A62 48 (by decide), A62 49 (by decide), A62 50 (by decide), A62 51 (by decide), A62 52 (by decide), A62 53 (by decide), A62 54 (by decide), A62 55 (by decide), A62 56 (by decide)]; exact (B62 30 (by decide)).trans N61
  rw [← A62 30 (by decide)]
  refine x_putFG C (T := TX10) (N := 45) (ty := .array .byte) 30 27 hin10 tyX10 tyX10_ok nmX10 (by decide) F63 rfl (by decide) lk75 rfl rfl hnm9 rfl (by decide +kernel) rfl rfl (Nat.le_of_ble_eq_true rfl) dX10_init_175 (fun p64 B64 N64 => ?_)
  replace N64 : p64 30 = .inr (10, [.int 0, .ref (a62 31), .ref (a62 32), .int 0, .int 0, .int 0, .int 1000, .int 0, .int 0, .ref (a62 39), .ref (a62 40), .ref (a62 41), .ref (a62 42), .ref (a62 43), .ref (a62 44), .ref (a62 45), .ref (a62 46), .ref (a62 47), .ref (a62 48), .ref (a62 49), .ref (a62 50), .ref (a62 51), .ref (a62 52), .ref (a62 53), .ref (a62 54), .ref (a62 55), .ref (a62 56), .ref (a62 57), .null, .int 0, .int 0, .int 0, .int 0, .int 0, .null, .null, .null, .null, .null, .int 0, .int 0, .null, .null, .null, .null]) := N64
  refine x_aload_n C 0 dX10_init_178 rfl rfl ?_
  refine x_sipush C dX10_init_179 (v := 400) (by decide) ?_
  refine x_newaF C (atype := .byte) (ty := .byte) (N' := 400) (f := (fun _ => 0)) 58 arrbyte rfl (t0 := 1) rfl (by decide) (fun _ => rfl) (by decide) (by decide) (Nat.le_of_ble_eq_true rfl) (Nat.le_of_ble_eq_true rfl) (Nat.le_of_ble_eq_true rfl) dX10_init_182 (fun a65 p65 A65 B65 N65 C => ?_)
  have F66 : p65 30 = .inr (10, [.int 0, .ref (a65 31), .ref (a65 32), .int 0, .int 0, .int 0, .int 1000, .int 0, .int 0, .ref (a65 39), .ref (a65 40), .ref (a65 41), .ref (a65 42), .ref (a65 43), .ref (a65 44), .ref (a65 45), .ref (a65 46), .ref (a65 47), .ref (a65 48), .ref (a65 49), .ref (a65 50), .ref (a65 51), .ref (a65 52), .ref (a65 53), .ref (a65 54), .ref (a65 55), .ref (a65 56), .ref (a65 57), .null, .int 0, .int 0, .int 0, .int 0, .int 0, .null, .null, .null, .null, .null, .int 0, .int 0, .null, .null, .null, .null]) := by rw [A65 31 (by decide), A65 32 (by decide), A65 39 (by decide), A65 40 (by decide), A65 41 (by decide), A65 42 (by decide), A65 43 (by decide), A65 44 (by decide), A65 45 (by decide), A65 46 (by decide), A65 47 (by decide), A65 48 (by decide), A65 49 (by decide), A65 50 (by decide), A65 51 (by decide), A65 52 (by decide), A65 53 (by decide), A65 54 (by decide), A65 55 (by decide), A65 56 (by decide), A65 57 (by decide)]; exact (B65 30 (by decide)).trans N64
  rw [← A65 30 (by decide)]
  refine x_putFG C (T := TX10) (N := 45) (ty := .array .byte) 30 28 hin10 tyX10 tyX10_ok nmX10 (by decide) F66 rfl (by decide) lk79 rfl rfl hnm9 rfl (by decide +kernel) rfl rfl (Nat.le_of_ble_eq_true rfl) dX10_init_184 (fun p67 B67 N67 => ?_)
  replace N67 : p67 30 = .inr (10, [.int 0, .ref (a65 31), .ref (a65 32), .int 0, .int 0, .int 0, .int 1000, .int 0, .int 0, .ref (a65 39), .ref (a65 40), .ref (a65 41), .ref (a65 42), .ref (a65 43), .ref (a65 44), .ref (a65 45), .ref (a65 46), .ref (a65 47), .ref (a65 48), .ref (a65 49), .ref (a65 50), .ref (a65 51), .ref (a65 52), .ref (a65 53), .ref (a65 54), .ref (a65 55), .ref (a65 56), .ref (a65 57), .ref (a65 58), .int 0, .int 0, .int 0, .int 0, .int 0, .null, .null, .null, .null, .null, .int 0, .int 0, .null, .null, .null, .null]) := N67
  refine x_aload_n C 0 dX10_init_187 rfl rfl ?_
  refine x_iconst C dX10_init_188 (v := -1) (by decide) ?_
  refine x_putG C (T := TX10) (N := 45) (ty := .int) 30 32 hin10 tyX10 tyX10_ok nmX10 (by decide) N67 rfl (by decide) lk82 rfl rfl (by decide +kernel) rfl rfl (Nat.le_of_ble_eq_true rfl) dX10_init_189 (fun p68 B68 N68 => ?_)
  replace N68 : p68 30 = .inr (10, [.int 0, .ref (a65 31), .ref (a65 32), .int 0, .int 0, .int 0, .int 1000, .int 0, .int 0, .ref (a65 39), .ref (a65 40), .ref (a65 41), .ref (a65 42), .ref (a65 43), .ref (a65 44), .ref (a65 45), .ref (a65 46), .ref (a65 47), .ref (a65 48), .ref (a65 49), .ref (a65 50), .ref (a65 51), .ref (a65 52), .ref (a65 53), .ref (a65 54), .ref (a65 55), .ref (a65 56), .ref (a65 57), .ref (a65 58), .int 0, .int 0, .int 0, .int (-1), .int 0, .null, .null, .null, .null, .null, .int 0, .int 0, .null, .null, .null, .null]) := N68
  refine x_aload_n C 0 dX10_init_192 rfl rfl ?_
  refine x_bipush C dX10_init_193 (v := 11) (by decide) ?_
  refine x_newaF C (atype := .int) (ty := .int) (N' := 11) (f := (fun _ => 0)) 64 arrint rfl (t0 := 0) rfl (by decide) (fun _ => rfl) (by decide) (by decide) (Nat.le_of_ble_eq_true rfl) (Nat.le_of_ble_eq_true rfl) (Nat.le_of_ble_eq_true rfl) dX10_init_195 (fun a69 p69 A69 B69 N69 C => ?_)
  have F70 : p69 30 = .inr (10, [.int 0, .ref (a69 31), .ref (a69 32), .int 0, .int 0, .int 0, .int 1000, .int 0, .int 0, .ref (a69 39), .ref (a69 40), .ref (a69 41), .ref (a69 42), .ref (a69 43), .ref (a69 44), .ref (a69 45), .ref (a69 46), .ref (a69 47), .ref (a69 48), .ref (a69 49), .ref (a69 50), .ref (a69 51), .ref (a69 52), .ref (a69 53), .ref (a69 54), .ref (a69 55), .ref (a69 56), .ref (a69 57), .ref (a69 58), .int 0, .int 0, .int 0, .int (-1), .int 0, .null, .null, .null, .null, .null, .int 0, .int 0, .null, .null, .null, .null]) := by rw [A69 31 (by decide), A69 32 (by decide), A69 39 (by decide), A69 40 (by decide), A69 41 (by decide), A69 42 (by decide), A69 43 (by decide), A69 44 (by decide), A69 45 (by decide), A69 46 (by decide), A69 47 (by decide), A69 48 (by decide), A69 49 (by decide), A69 50 (by decide), A69 51 (by decide), A69 52 (by decide), A69 53 (by decide), A69 54 (by decide), A69 55 (by decide), A69 56 (by decide), A69 57 (by decide), A69 58 (by decide)]; exact (B69 30 (by decide)).trans N68
  rw [← A69 30 (by decide)]
  refine x_putFG C (T := TX10) (N := 45) (ty := .array .int) 30 34 hin10 tyX10 tyX10_ok nmX10 (by decide) F70 rfl (by decide) lk85 rfl rfl hnm9 rfl (by decide +kernel) rfl rfl (Nat.le_of_ble_eq_true rfl) dX10_init_197 (fun p71 B71 N71 => ?_)
  replace N71 : p71 30 = .inr (10, [.int 0, .ref (a69 31), .ref (a69 32), .int 0, .int 0, .int 0, .int 1000, .int 0, .int 0, .ref (a69 39), .ref (a69 40), .ref (a69 41), .ref (a69 42), .ref (a69 43), .ref (a69 44), .ref (a69 45), .ref (a69 46), .ref (a69 47), .ref (a69 48), .ref (a69 49), .ref (a69 50), .ref (a69 51), .ref (a69 52), .ref (a69 53), .ref (a69 54), .ref (a69 55), .ref (a69 56), .ref (a69 57), .ref (a69 58), .int 0, .int 0, .int 0, .int (-1), .int 0, .ref (a69 64), .null, .null, .null, .null, .int 0, .int 0, .null, .null, .null, .null]) := N71
  refine x_aload_n C 0 dX10_init_200 rfl rfl ?_
  refine x_bipush C dX10_init_201 (v := 11) (by decide) ?_
  refine x_newaF C (atype := .int) (ty := .int) (N' := 11) (f := (fun _ => 0)) 65 arrint rfl (t0 := 0) rfl (by decide) (fun _ => rfl) (by decide) (by decide) (Nat.le_of_ble_eq_true rfl) (Nat.le_of_ble_eq_true rfl) (Nat.le_of_ble_eq_true rfl) dX10_init_203 (fun a72 p72 A72 B72 N72 C => ?_)
  have F73 : p72 30 = .inr (10, [.int 0, .ref (a72 31), .ref (a72 32), .int 0, .int 0, .int 0, .int 1000, .int 0, .int 0, .ref (a72 39), .ref (a72 40), .ref (a72 41), .ref (a72 42), .ref (a72 43), .ref (a72 44), .ref (a72 45), .ref (a72 46), .ref (a72 47), .ref (a72 48), .ref (a72 49), .ref (a72 50), .ref (a72 51), .ref (a72 52), .ref (a72 53), .ref (a72 54), .ref (a72 55), .ref (a72 56), .ref (a72 57), .ref (a72 58), .int 0, .int 0, .int 0, .int (-1), .int 0, .ref (a72 64), .null, .null, .null, .null, .int 0, .int 0, .null, .null, .null, .null]) := by rw [A72 31 (by decide), A72 32 (by decide), A72 39 (by decide), A72 40 (by decide), A72 41 (by decide), A72 42 (by decide), A72 43 (by decide), A72 44 (by decide), A72 45 (by decide), A72 46 (by decide), A72 47 (by decide), A72 48 (by decide), A72 49 (by decide), A72 50 (by decide), A72 51 (by decide), A72 52 (by decide), A72 53 (by decide), A72 54 (by decide), A72 55 (by decide), A72 56 (by decide), A72 57 (by decide), A72 58 (by decide), A72 64 (by decide)]; exact (B72 30 (by decide)).trans N71
  rw [← A72 30 (by decide)]
  refine x_putFG C (T := TX10) (N := 45) (ty := .array .int) 30 35 hin10 tyX10 tyX10_ok nmX10 (by decide) F73 rfl (by decide) lk88 rfl rfl hnm9 rfl (by decide +kernel) rfl rfl (Nat.le_of_ble_eq_true rfl) dX10_init_205 (fun p74 B74 N74 => ?_)
  replace N74 : p74 30 = .inr (10, [.int 0, .ref (a72 31), .ref (a72 32), .int 0, .int 0, .int 0, .int 1000, .int 0, .int 0, .ref (a72 39), .ref (a72 40), .ref (a72 41), .ref (a72 42), .ref (a72 43), .ref (a72 44), .ref (a72 45), .ref (a72 46), .ref (a72 47), .ref (a72 48), .ref (a72 49), .ref (a72 50), .ref (a72 51), .ref (a72 52), .ref (a72 53), .ref (a72 54), .ref (a72 55), .ref (a72 56), .ref (a72 57), .ref (a72 58), .int 0, .int 0, .int 0, .int (-1), .int 0, .ref (a72 64), .ref (a72 65), .null, .null, .null, .int 0, .int 0, .null, .null, .null, .null]) := N74
  refine x_aload_n C 0 dX10_init_208 rfl rfl ?_
  refine x_sipush C dX10_init_209 (v := 176) (by decide) ?_
  refine x_newaF C (atype := .int) (ty := .int) (N' := 176) (f := (fun _ => 0)) 66 arrint rfl (t0 := 0) rfl (by decide) (fun _ => rfl) (by decide) (by decide) (Nat.le_of_ble_eq_true rfl) (Nat.le_of_ble_eq_true rfl) (Nat.le_of_ble_eq_true rfl) dX10_init_212 (fun a75 p75 A75 B75 N75 C => ?_)
  have F76 : p75 30 = .inr (10, [.int 0, .ref (a75 31), .ref (a75 32), .int 0, .int 0, .int 0, .int 1000, .int 0, .int 0, .ref (a75 39), .ref (a75 40), .ref (a75 41), .ref (a75 42), .ref (a75 43), .ref (a75 44), .ref (a75 45), .ref (a75 46), .ref (a75 47), .ref (a75 48), .ref (a75 49), .ref (a75 50), .ref (a75 51), .ref (a75 52), .ref (a75 53), .ref (a75 54), .ref (a75 55), .ref (a75 56), .ref (a75 57), .ref (a75 58), .int 0, .int 0, .int 0, .int (-1), .int 0, .ref (a75 64), .ref (a75 65), .null, .null, .null, .int 0, .int 0, .null, .null, .null, .null]) := by rw [A75 31 (by decide), A75 32 (by decide), A75 39 (by decide), A75 40 (by decide), A75 41 (by decide), A75 42 (by decide), A75 43 (by decide), A75 44 (by decide), A75 45 (by decide), A75 46 (by decide), A75 47 (by decide), A75 48 (by decide), A75 49 (by decide), A75 50 (by decide), A75 51 (by decide), A75 52 (by decide), A75 53 (by decide), A75 54 (by decide), A75 55 (by decide), A75 56 (by decide), A75 57 (by decide), A75 58 (by decide), A75 64 (by decide), A75 65 (by decide)]; exact (B75 30 (by decide)).trans N74
  rw [← A75 30 (by decide)]
  refine x_putFG C (T := TX10) (N := 45) (ty := .array .int) 30 36 hin10 tyX10 tyX10_ok nmX10 (by decide) F76 rfl (by decide) lk91 rfl rfl hnm9 rfl (by decide +kernel) rfl rfl (Nat.le_of_ble_eq_true rfl) dX10_init_214 (fun p77 B77 N77 => ?_)
  replace N77 : p77 30 = .inr (10, [.int 0, .ref (a75 31), .ref (a75 32), .int 0, .int 0, .int 0, .int 1000, .int 0, .int 0, .ref (a75 39), .ref (a75 40), .ref (a75 41), .ref (a75 42), .ref (a75 43), .ref (a75 44), .ref (a75 45), .ref (a75 46), .ref (a75 47), .ref (a75 48), .ref (a75 49), .ref (a75 50), .ref (a75 51), .ref (a75 52), .ref (a75 53), .ref (a75 54), .ref (a75 55), .ref (a75 56), .ref (a75 57), .ref (a75 58), .int 0, .int 0, .int 0, .int (-1), .int 0, .ref (a75 64), .ref (a75 65), .ref (a75 66), .null, .null, .int 0, .int 0, .null, .null, .null, .null]) := N77
  refine x_aload_n C 0 dX10_init_217 rfl rfl ?_
  refine x_sipush C dX10_init_218 (v := 176) (by decide) ?_
  refine x_newaF C (atype := .int) (ty := .int) (N' := 176) (f := (fun _ => 0)) 67 arrint rfl (t0 := 0) rfl (by decide) (fun _ => rfl) (by decide) (by decide) (Nat.le_of_ble_eq_true rfl) (Nat.le_of_ble_eq_true rfl) (Nat.le_of_ble_eq_true rfl) dX10_init_221 (fun a78 p78 A78 B78 N78 C => ?_)
  have F79 : p78 30 = .inr (10, [.int 0, .ref (a78 31), .ref (a78 32), .int 0, .int 0, .int 0, .int 1000, .int 0, .int 0, .ref (a78 39), .ref (a78 40), .ref (a78 41), .ref (a78 42), .ref (a78 43), .ref (a78 44), .ref (a78 45), .ref (a78 46), .ref (a78 47), .ref (a78 48), .ref (a78 49), .ref (a78 50), .ref (a78 51), .ref (a78 52), .ref (a78 53), .ref (a78 54), .ref (a78 55), .ref (a78 56), .ref (a78 57), .ref (a78 58), .int 0, .int 0, .int 0, .int (-1), .int 0, .ref (a78 64), .ref (a78 65), .ref (a78 66), .null, .null, .int 0, .int 0, .null, .null, .null, .null]) := by rw [A78 31 (by decide), A78 32 (by decide), A78 39 (by decide), A78 40 (by decide), A78 41 (by decide), A78 42 (by decide), A78 43 (by decide), A78 44 (by decide), A78 45 (by decide), A78 46 (by decide), A78 47 (by decide), A78 48 (by decide), A78 49 (by decide), A78 50 (by decide), A78 51 (by decide), A78 52 (by decide), A78 53 (by decide), A78 54 (by decide), A78 55 (by decide), A78 56 (by decide), A78 57 (by decide), A78 58 (by decide), A78 64 (by decide), A78 65 (by decide), A78 66 (by decide)]; exact (B78 30 (by decide)).trans N77
  rw [← A78 30 (by decide)]
  refine x_putFG C (T := TX10) (N := 45) (ty := .array .int) 30 37 hin10 tyX10 tyX10_ok nmX10 (by decide) F79 rfl (by decide) lk94 rfl rfl hnm9 rfl (by decide +kernel) rfl rfl (Nat.le_of_ble_eq_true rfl) dX10_init_223 (fun p80 B80 N80 => ?_)
  replace N80 : p80 30 = .inr (10, [.int 0, .ref (a78 31), .ref (a78 32), .int 0, .int 0, .int 0, .int 1000, .int 0, .int 0, .ref (a78 39), .ref (a78 40), .ref (a78 41), .ref (a78 42), .ref (a78 43), .ref (a78 44), .ref (a78 45), .ref (a78 46), .ref (a78 47), .ref (a78 48), .ref (a78 49), .ref (a78 50), .ref (a78 51), .ref (a78 52), .ref (a78 53), .ref (a78 54), .ref (a78 55), .ref (a78 56), .ref (a78 57), .ref (a78 58), .int 0, .int 0, .int 0, .int (-1), .int 0, .ref (a78 64), .ref (a78 65), .ref (a78 66), .ref (a78 67), .null, .int 0, .int 0, .null, .null, .null, .null]) := N80
  refine x_aload_n C 0 dX10_init_226 rfl rfl ?_
  refine x_sipush C dX10_init_227 (v := 176) (by decide) ?_
  refine x_newaF C (atype := .int) (ty := .int) (N' := 176) (f := (fun _ => 0)) 68 arrint rfl (t0 := 0) rfl (by decide) (fun _ => rfl) (by decide) (by decide) (Nat.le_of_ble_eq_true rfl) (Nat.le_of_ble_eq_true rfl) (Nat.le_of_ble_eq_true rfl) dX10_init_230 (fun a81 p81 A81 B81 N81 C => ?_)
  have F82 : p81 30 = .inr (10, [.int 0, .ref (a81 31), .ref (a81 32), .int 0, .int 0, .int 0, .int 1000, .int 0, .int 0, .ref (a81 39), .ref (a81 40), .ref (a81 41), .ref (a81 42), .ref (a81 43), .ref (a81 44), .ref (a81 45), .ref (a81 46), .ref (a81 47), .ref (a81 48), .ref (a81 49), .ref (a81 50), .ref (a81 51), .ref (a81 52), .ref (a81 53), .ref (a81 54), .ref (a81 55), .ref (a81 56), .ref (a81 57), .ref (a81 58), .int 0, .int 0, .int 0, .int (-1), .int 0, .ref (a81 64), .ref (a81 65), .ref (a81 66), .ref (a81 67), .null, .int 0, .int 0, .null, .null, .null, .null]) := by rw [A81 31 (by decide), A81 32 (by decide), A81 39 (by decide), A81 40 (by decide), A81 41 (by decide), A81 42 (by decide), A81 43 (by decide), A81 44 (by decide), A81 45 (by decide), A81 46 (by decide), A81 47 (by decide), A81 48 (by decide), A81 49 (by decide), A81 50 (by decide), A81 51 (by decide), A81 52 (by decide), A81 53 (by decide), A81 54 (by decide), A81 55 (by decide), A81 56 (by decide), A81 57 (by decide), A81 58 (by decide), A81 64 (by decide), A81 65 (by decide), A81 66 (by decide), A81 67 (by decide)]; exact (B81 30 (by decide)).trans N80
  rw [← A81 30 (by decide)]
  refine x_putFG C (T := TX10) (N := 45) (ty := .array .int) 30 38 hin10 tyX10 tyX10_ok nmX10 (by decide) F82 rfl (by decide) lk97 rfl rfl hnm9 rfl (by decide +kernel) rfl rfl (Nat.le_of_ble_eq_true rfl) dX10_init_232 (fun p83 B83 N83 => ?_)
  replace N83 : p83 30 = .inr (10, [.int 0, .ref (a81 31), .ref (a81 32), .int 0, .int 0, .int 0, .int 1000, .int 0, .int 0, .ref (a81 39), .ref (a81 40), .ref (a81 41), .ref (a81 42), .ref (a81 43), .ref (a81 44), .ref (a81 45), .ref (a81 46), .ref (a81 47), .ref (a81 48), .ref (a81 49), .ref (a81 50), .ref (a81 51), .ref (a81 52), .ref (a81 53), .ref (a81 54), .ref (a81 55), .ref (a81 56), .ref (a81 57), .ref (a81 58), .int 0, .int 0, .int 0, .int (-1), .int 0, .ref (a81 64), .ref (a81 65), .ref (a81 66), .ref (a81 67), .ref (a81 68), .int 0, .int 0, .null, .null, .null, .null]) := N83
  refine x_aload_n C 0 dX10_init_235 rfl rfl ?_
  refine x_bipush C dX10_init_236 (v := 12) (by decide) ?_
  refine x_newaF C (atype := .boolean) (ty := .boolean) (N' := 12) (f := (fun _ => 0)) 71 arrboolean rfl (t0 := 2) rfl (by decide) (fun _ => rfl) (by decide) (by decide) (Nat.le_of_ble_eq_true rfl) (Nat.le_of_ble_eq_true rfl) (Nat.le_of_ble_eq_true rfl) dX10_init_238 (fun a84 p84 A84 B84 N84 C => ?_)
  have F85 : p84 30 = .inr (10, [.int 0, .ref (a84 31), .ref (a84 32), .int 0, .int 0, .int 0, .int 1000, .int 0, .int 0, .ref (a84 39), .ref (a84 40), .ref (a84 41), .ref (a84 42), .ref (a84 43), .ref (a84 44), .ref (a84 45), .ref (a84 46), .ref (a84 47), .ref (a84 48), .ref (a84 49), .ref (a84 50), .ref (a84 51), .ref (a84 52), .ref (a84 53), .ref (a84 54), .ref (a84 55), .ref (a84 56), .ref (a84 57), .ref (a84 58), .int 0, .int 0, .int 0, .int (-1), .int 0, .ref (a84 64), .ref (a84 65), .ref (a84 66), .ref (a84 67), .ref (a84 68), .int 0, .int 0, .null, .null, .null, .null]) := by rw [A84 31 (by decide), A84 32 (by decide), A84 39 (by decide), A84 40 (by decide), A84 41 (by decide), A84 42 (by decide), A84 43 (by decide), A84 44 (by decide), A84 45 (by decide), A84 46 (by decide), A84 47 (by decide), A84 48 (by decide), A84 49 (by decide), A84 50 (by decide), A84 51 (by decide), A84 52 (by decide), A84 53 (by decide), A84 54 (by decide), A84 55 (by decide), A84 56 (by decide), A84 57 (by decide), A84 58 (by decide), A84 64 (by decide), A84 65 (by decide), A84 66 (by decide), A84 67 (by decide), A84 68 (by decide)]; exact (B84 30 (by decide)).trans N83
  rw [← A84 30 (by decide)]
  refine x_putFG C (T := TX10) (N := 45) (ty := .array .boolean) 30 41 hin10 tyX10 tyX10_ok nmX10 (by decide) F85 rfl (by decide) lk100 rfl rfl hnm9 rfl (by decide +kernel) rfl rfl (Nat.le_of_ble_eq_true rfl) dX10_init_240 (fun p86 B86 N86 => ?_)
  replace N86 : p86 30 = .inr (10, [.int 0, .ref (a84 31), .ref (a84 32), .int 0, .int 0, .int 0, .int 1000, .int 0, .int 0, .ref (a84 39), .ref (a84 40), .ref (a84 41), .ref (a84 42), .ref (a84 43), .ref (a84 44), .ref (a84 45), .ref (a84 46), .ref (a84 47), .ref (a84 48), .ref (a84 49), .ref (a84 50), .ref (a84 51), .ref (a84 52), .ref (a84 53), .ref (a84 54), .ref (a84 55), .ref (a84 56), .ref (a84 57), .ref (a84 58), .int 0, .int 0, .int 0, .int (-1), .int 0, .ref (a84 64), .ref (a84 65), .ref (a84 66), .ref (a84 67), .ref (a84 68), .int 0, .int 0, .ref (a84 71), .null, .null, .null]) := N86
  refine x_aload_n C 0 dX10_init_243 rfl rfl ?_
  refine x_bipush C dX10_init_244 (v := 6) (by decide) ?_
  refine x_newaF C (atype := .int) (ty := .int) (N' := 6) (f := (fun _ => 0)) 72 arrint rfl (t0 := 0) rfl (by decide) (fun _ => rfl) (by decide) (by decide) (Nat.le_of_ble_eq_true rfl) (Nat.le_of_ble_eq_true rfl) (Nat.le_of_ble_eq_true rfl) dX10_init_246 (fun a87 p87 A87 B87 N87 C => ?_)
  have F88 : p87 30 = .inr (10, [.int 0, .ref (a87 31), .ref (a87 32), .int 0, .int 0, .int 0, .int 1000, .int 0, .int 0, .ref (a87 39), .ref (a87 40), .ref (a87 41), .ref (a87 42), .ref (a87 43), .ref (a87 44), .ref (a87 45), .ref (a87 46), .ref (a87 47), .ref (a87 48), .ref (a87 49), .ref (a87 50), .ref (a87 51), .ref (a87 52), .ref (a87 53), .ref (a87 54), .ref (a87 55), .ref (a87 56), .ref (a87 57), .ref (a87 58), .int 0, .int 0, .int 0, .int (-1), .int 0, .ref (a87 64), .ref (a87 65), .ref (a87 66), .ref (a87 67), .ref (a87 68), .int 0, .int 0, .ref (a87 71), .null, .null, .null]) := by rw [A87 31 (by decide), A87 32 (by decide), A87 39 (by decide), A87 40 (by decide), A87 41 (by decide), A87 42 (by decide), A87 43 (by decide), A87 44 (by decide), A87 45 (by decide), A87 46 (by decide), A87 47 (by decide), A87 48 (by decide), A87 49 (by decide), A87 50 (by decide), A87 51 (by decide), A87 52 (by decide), A87 53 (by decide), A87 54 (by decide), A87 55 (by decide), A87 56 (by decide), A87 57 (by decide), A87 58 (by decide), A87 64 (by decide), A87 65 (by decide), A87 66 (by decide), A87 67 (by decide), A87 68 (by decide), A87 71 (by decide)]; exact (B87 30 (by decide)).trans N86
  rw [← A87 30 (by decide)]
  refine x_putFG C (T := TX10) (N := 45) (ty := .array .int) 30 42 hin10 tyX10 tyX10_ok nmX10 (by decide) F88 rfl (by decide) lk103 rfl rfl hnm9 rfl (by decide +kernel) rfl rfl (Nat.le_of_ble_eq_true rfl) dX10_init_248 (fun p89 B89 N89 => ?_)
  replace N89 : p89 30 = .inr (10, [.int 0, .ref (a87 31), .ref (a87 32), .int 0, .int 0, .int 0, .int 1000, .int 0, .int 0, .ref (a87 39), .ref (a87 40), .ref (a87 41), .ref (a87 42), .ref (a87 43), .ref (a87 44), .ref (a87 45), .ref (a87 46), .ref (a87 47), .ref (a87 48), .ref (a87 49), .ref (a87 50), .ref (a87 51), .ref (a87 52), .ref (a87 53), .ref (a87 54), .ref (a87 55), .ref (a87 56), .ref (a87 57), .ref (a87 58), .int 0, .int 0, .int 0, .int (-1), .int 0, .ref (a87 64), .ref (a87 65), .ref (a87 66), .ref (a87 67), .ref (a87 68), .int 0, .int 0, .ref (a87 71), .ref (a87 72), .null, .null]) := N89
  refine x_aload_n C 0 dX10_init_251 rfl rfl ?_
  refine x_bipush C dX10_init_252 (v := 6) (by decide) ?_
  refine x_newaF C (atype := .int) (ty := .int) (N' := 6) (f := (fun _ => 0)) 73 arrint rfl (t0 := 0) rfl (by decide) (fun _ => rfl) (by decide) (by decide) (Nat.le_of_ble_eq_true rfl) (Nat.le_of_ble_eq_true rfl) (Nat.le_of_ble_eq_true rfl) dX10_init_254 (fun a90 p90 A90 B90 N90 C => ?_)
  have F91 : p90 30 = .inr (10, [.int 0, .ref (a90 31), .ref (a90 32), .int 0, .int 0, .int 0, .int 1000, .int 0, .int 0, .ref (a90 39), .ref (a90 40), .ref (a90 41), .ref (a90 42), .ref (a90 43), .ref (a90 44), .ref (a90 45), .ref (a90 46), .ref (a90 47), .ref (a90 48), .ref (a90 49), .ref (a90 50), .ref (a90 51), .ref (a90 52), .ref (a90 53), .ref (a90 54), .ref (a90 55), .ref (a90 56), .ref (a90 57), .ref (a90 58), .int 0, .int 0, .int 0, .int (-1), .int 0, .ref (a90 64), .ref (a90 65), .ref (a90 66), .ref (a90 67), .ref (a90 68), .int 0, .int 0, .ref (a90 71), .ref (a90 72), .null, .null]) := by rw [A90 31 (by decide), A90 32 (by decide), A90 39 (by decide), A90 40 (by decide), A90 41 (by decide), A90 42 (by decide), A90 43 (by decide), A90 44 (by decide), A90 45 (by decide), A90 46 (by decide), A90 47 (by decide), A90 48 (by decide), A90 49 (by decide), A90 50 (by decide), A90 51 (by decide), A90 52 (by decide), A90 53 (by decide), A90 54 (by decide), A90 55 (by decide), A90 56 (by decide), A90 57 (by decide), A90 58 (by decide), A90 64 (by decide), A90 65 (by decide), A90 66 (by decide), A90 67 (by decide), A90 68 (by decide), A90 71 (by decide), A90 72 (by decide)]; exact (B90 30 (by decide)).trans N89
  rw [← A90 30 (by decide)]
  refine x_putFG C (T := TX10) (N := 45) (ty := .array .int) 30 43 hin10 tyX10 tyX10_ok nmX10 (by decide) F91 rfl (by decide) lk106 rfl rfl hnm9 rfl (by decide +kernel) rfl rfl (Nat.le_of_ble_eq_true rfl) dX10_init_256 (fun p92 B92 N92 => ?_)
  replace N92 : p92 30 = .inr (10, [.int 0, .ref (a90 31), .ref (a90 32), .int 0, .int 0, .int 0, .int 1000, .int 0, .int 0, .ref (a90 39), .ref (a90 40), .ref (a90 41), .ref (a90 42), .ref (a90 43), .ref (a90 44), .ref (a90 45), .ref (a90 46), .ref (a90 47), .ref (a90 48), .ref (a90 49), .ref (a90 50), .ref (a90 51), .ref (a90 52), .ref (a90 53), .ref (a90 54), .ref (a90 55), .ref (a90 56), .ref (a90 57), .ref (a90 58), .int 0, .int 0, .int 0, .int (-1), .int 0, .ref (a90 64), .ref (a90 65), .ref (a90 66), .ref (a90 67), .ref (a90 68), .int 0, .int 0, .ref (a90 71), .ref (a90 72), .ref (a90 73), .null]) := N92
  refine x_aload_n C 0 dX10_init_259 rfl rfl ?_
  refine x_bipush C dX10_init_260 (v := 6) (by decide) ?_
  refine x_newaF C (atype := .int) (ty := .int) (N' := 6) (f := (fun _ => 0)) 74 arrint rfl (t0 := 0) rfl (by decide) (fun _ => rfl) (by decide) (by decide) (Nat.le_of_ble_eq_true rfl) (Nat.le_of_ble_eq_true rfl) (Nat.le_of_ble_eq_true rfl) dX10_init_262 (fun a93 p93 A93 B93 N93 C => ?_)
  have F94 : p93 30 = .inr (10, [.int 0, .ref (a93 31), .ref (a93 32), .int 0, .int 0, .int 0, .int 1000, .int 0, .int 0, .ref (a93 39), .ref (a93 40), .ref (a93 41), .ref (a93 42), .ref (a93 43), .ref (a93 44), .ref (a93 45), .ref (a93 46), .ref (a93 47), .ref (a93 48), .ref (a93 49), .ref (a93 50), .ref (a93 51), .ref (a93 52), .ref (a93 53), .ref (a93 54), .ref (a93 55), .ref (a93 56), .ref (a93 57), .ref (a93 58), .int 0, .int 0, .int 0, .int (-1), .int 0, .ref (a93 64), .ref (a93 65), .ref (a93 66), .ref (a93 67), .ref (a93 68), .int 0, .int 0, .ref (a93 71), .ref (a93 72), .ref (a93 73), .null]) := by rw [A93 31 (by decide), A93 32 (by decide), A93 39 (by decide), A93 40 (by decide), A93 41 (by decide), A93 42 (by decide), A93 43 (by decide), A93 44 (by decide), A93 45 (by decide), A93 46 (by decide), A93 47 (by decide), A93 48 (by decide), A93 49 (by decide), A93 50 (by decide), A93 51 (by decide), A93 52 (by decide), A93 53 (by decide), A93 54 (by decide), A93 55 (by decide), A93 56 (by decide), A93 57 (by decide), A93 58 (by decide), A93 64 (by decide), A93 65 (by decide), A93 66 (by decide), A93 67 (by decide), A93 68 (by decide), A93 71 (by decide), A93 72 (by decide), A93 73 (by decide)]; exact (B93 30 (by decide)).trans N92
  rw [← A93 30 (by decide)]
  refine x_putFG C (T := TX10) (N := 45) (ty := .array .int) 30 44 hin10 tyX10 tyX10_ok nmX10 (by decide) F94 rfl (by decide) lk109 rfl rfl hnm9 rfl (by decide +kernel) rfl rfl (Nat.le_of_ble_eq_true rfl) dX10_init_264 (fun p95 B95 N95 => ?_)
  replace N95 : p95 30 = .inr (10, [.int 0, .ref (a93 31), .ref (a93 32), .int 0, .int 0, .int 0, .int 1000, .int 0, .int 0, .ref (a93 39), .ref (a93 40), .ref (a93 41), .ref (a93 42), .ref (a93 43), .ref (a93 44), .ref (a93 45), .ref (a93 46), .ref (a93 47), .ref (a93 48), .ref (a93 49), .ref (a93 50), .ref (a93 51), .ref (a93 52), .ref (a93 53), .ref (a93 54), .ref (a93 55), .ref (a93 56), .ref (a93 57), .ref (a93 58), .int 0, .int 0, .int 0, .int (-1), .int 0, .ref (a93 64), .ref (a93 65), .ref (a93 66), .ref (a93 67), .ref (a93 68), .int 0, .int 0, .ref (a93 71), .ref (a93 72), .ref (a93 73), .ref (a93 74)]) := N95
  refine x_aload_n C 0 dX10_init_267 rfl rfl ?_
  refine x_iconst C dX10_init_268 (v := 3) (by decide) ?_
  refine x_bipush C dX10_init_269 (v := 12) (by decide) ?_
  refine x_iload_n C 1 dX10_init_271 rfl rfl ?_
  refine x_mmin C hm1min hm2min hm3 hm4min (Nat.le_of_ble_eq_true rfl) (Nat.le_of_ble_eq_true rfl) (Nat.le_of_ble_eq_true rfl) (Nat.le_of_ble_eq_true rfl) dX10_init_272 ?_
  refine x_mmax C hm1max hm2max hm3 hm4max (Nat.le_of_ble_eq_true rfl) (Nat.le_of_ble_eq_true rfl) (Nat.le_of_ble_eq_true rfl) (Nat.le_of_ble_eq_true rfl) dX10_init_275 ?_
  refine x_top C (v2 := nI nR) hx ?_
  refine x_putFG C (T := TX10) (N := 45) (ty := .int) 30 0 hin10 tyX10 tyX10_ok nmX10 (by decide) N95 rfl (by decide) lk121 rfl rfl hnm9 rfl (by decide +kernel) rfl rfl (Nat.le_of_ble_eq_true rfl) dX10_init_278 (fun p96 B96 N96 => ?_)
  replace N96 : p96 30 = .inr (10, [.int (nI nR), .ref (a93 31), .ref (a93 32), .int 0, .int 0, .int 0, .int 1000, .int 0, .int 0, .ref (a93 39), .ref (a93 40), .ref (a93 41), .ref (a93 42), .ref (a93 43), .ref (a93 44), .ref (a93 45), .ref (a93 46), .ref (a93 47), .ref (a93 48), .ref (a93 49), .ref (a93 50), .ref (a93 51), .ref (a93 52), .ref (a93 53), .ref (a93 54), .ref (a93 55), .ref (a93 56), .ref (a93 57), .ref (a93 58), .int 0, .int 0, .int 0, .int (-1), .int 0, .ref (a93 64), .ref (a93 65), .ref (a93 66), .ref (a93 67), .ref (a93 68), .int 0, .int 0, .ref (a93 71), .ref (a93 72), .ref (a93 73), .ref (a93 74)]) := N96
  refine x_iconst C dX10_init_281 (v := 0) (by decide) ?_
  refine x_istore_n C (L1 := [(2, .int 0), (0, .ref (a93 30)), (1, .int x)]) dX10_init_282 rfl (by decide) rfl ?_
  refine x_iload_n C 0 dX10_init_283 rfl rfl ?_
  refine x_bipush C dX10_init_284 (v := 12) (by decide) ?_
  refine x_icmp_ge C (tgt := 303) dX10_init_286 (by decide) (fun c286 => ?_) (fun c286 => ?_)
  · exact absurd c286 (by decide)
  refine x_aload_n C 1 dX10_init_289 rfl rfl ?_
  refine x_get C (T := TX10) (N := 45) (v := .ref (a93 31)) 30 1 hin10 (by decide) N96 rfl (by decide) lk7 rfl rfl dX10_init_290 ?_
  refine x_iload_n C 0 dX10_init_293 rfl rfl ?_
  refine x_bipush C dX10_init_294 (v := 100) (by decide) ?_
  refine x_iastG C 31 (by decide) (((((((((((((((((((((((((((((((((((((((((((((((((((((((((((((((((B96 31 (by decide)).trans (B95 31 (by decide))).trans (B93 31 (by decide))).trans (B92 31 (by decide))).trans (B90 31 (by decide))).trans (B89 31 (by decide))).trans (B87 31 (by decide))).trans (B86 31 (by decide))).trans (B84 31 (by decide))).trans (B83 31 (by decide))).trans (B81 31 (by decide))).trans (B80 31 (by decide))).trans (B78 31 (by decide))).trans (B77 31 (by decide))).trans (B75 31 (by decide))).trans (B74 31 (by decide))).trans (B72 31 (by decide))).trans (B71 31 (by decide))).trans (B69 31 (by decide))).trans (B68 31 (by decide))).trans (B67 31 (by decide))).trans (B65 31 (by decide))).trans (B64 31 (by decide))).trans (B62 31 (by decide))).trans (B61 31 (by decide))).trans (B59 31 (by decide))).trans (B58 31 (by decide))).trans (B56 31 (by decide))).trans (B55 31 (by decide))).trans (B53 31 (by decide))).trans (B52 31 (by decide))).trans (B50 31 (by decide))).trans (B49 31 (by decide))).trans (B47 31 (by decide))).trans (B46 31 (by decide))).trans (B44 31 (by decide))).trans (B43 31 (by decide))).trans (B41 31 (by decide))).trans (B40 31 (by decide))).trans (B38 31 (by decide))).trans (B37 31 (by decide))).trans (B35 31 (by decide))).trans (B34 31 (by decide))).trans (B32 31 (by decide))).trans (B31 31 (by decide))).trans (B29 31 (by decide))).trans (B28 31 (by decide))).trans (B26 31 (by decide))).trans (B25 31 (by decide))).trans (B23 31 (by decide))).trans (B22 31 (by decide))).trans (B20 31 (by decide))).trans (B19 31 (by decide))).trans (B17 31 (by decide))).trans (B16 31 (by decide))).trans (B14 31 (by decide))).trans (B13 31 (by decide))).trans (B11 31 (by decide))).trans (B10 31 (by decide))).trans (B8 31 (by decide))).trans (B7 31 (by decide))).trans (B6 31 (by decide))).trans (B4 31 (by decide))).trans (B3 31 (by decide))).trans N1) (nI_in (c := 0) (N := 12) (by decide) (by decide)) dX10_init_296 (fun p97 B97 N97 => ?_)
  replace N97 : p97 31 = .inl (G.2.1 0, 12, .inl (upd (fun _ => 0) 0 100)) := N97
  have F98 : p97 30 = .inr (10, [.int (nI nR), .ref (a93 31), .ref (a93 32), .int 0, .int 0, .int 0, .int 1000, .int 0, .int 0, .ref (a93 39), .ref (a93 40), .ref (a93 41), .ref (a93 42), .ref (a93 43), .ref (a93 44), .ref (a93 45), .ref (a93 46), .ref (a93 47), .ref (a93 48), .ref (a93 49), .ref (a93 50), .ref (a93 51), .ref (a93 52), .ref (a93 53), .ref (a93 54), .ref (a93 55), .ref (a93 56), .ref (a93 57), .ref (a93 58), .int 0, .int 0, .int 0, .int (-1), .int 0, .ref (a93 64), .ref (a93 65), .ref (a93 66), .ref (a93 67), .ref (a93 68), .int 0, .int 0, .ref (a93 71), .ref (a93 72), .ref (a93 73), .ref (a93 74)]) := (B97 30 (by decide)).trans N96
  refine x_iinc C (L1 := [(2, .int 1), (0, .ref (a93 30)), (1, .int x)]) 0 dX10_init_297 rfl (by decide) (by decide) rfl ?_
  refine x_goto C (tgt := 283) dX10_init_300 (by decide) ?_
  refine x_iload_n C 0 dX10_init_283 rfl rfl ?_
  refine x_bipush C dX10_init_284 (v := 12) (by decide) ?_
  refine x_icmp_ge C (tgt := 303) dX10_init_286 (by decide) (fun c286 => ?_) (fun c286 => ?_)
  · exact absurd c286 (by decide)
  refine x_aload_n C 1 dX10_init_289 rfl rfl ?_
  refine x_get C (T := TX10) (N := 45) (v := .ref (a93 31)) 30 1 hin10 (by decide) F98 rfl (by decide) lk7 rfl rfl dX10_init_290 ?_
  refine x_iload_n C 0 dX10_init_293 rfl rfl ?_
  refine x_bipush C dX10_init_294 (v := 100) (by decide) ?_
  refine x_iastG C 31 (by decide) N97 (nI_in (c := 1) (N := 12) (by decide) (by decide)) dX10_init_296 (fun p99 B99 N99 => ?_)
  replace N99 : p99 31 = .inl (G.2.1 0, 12, .inl (upd (upd (fun _ => 0) 0 100) 1 100)) := N99
  have F100 : p99 30 = .inr (10, [.int (nI nR), .ref (a93 31), .ref (a93 32), .int 0, .int 0, .int 0, .int 1000, .int 0, .int 0, .ref (a93 39), .ref (a93 40), .ref (a93 41), .ref (a93 42), .ref (a93 43), .ref (a93 44), .ref (a93 45), .ref (a93 46), .ref (a93 47), .ref (a93 48), .ref (a93 49), .ref (a93 50), .ref (a93 51), .ref (a93 52), .ref (a93 53), .ref (a93 54), .ref (a93 55), .ref (a93 56), .ref (a93 57), .ref (a93 58), .int 0, .int 0, .int 0, .int (-1), .int 0, .ref (a93 64), .ref (a93 65), .ref (a93 66), .ref (a93 67), .ref (a93 68), .int 0, .int 0, .ref (a93 71), .ref (a93 72), .ref (a93 73), .ref (a93 74)]) := (B99 30 (by decide)).trans F98
  refine x_iinc C (L1 := [(2, .int 2), (0, .ref (a93 30)), (1, .int x)]) 0 dX10_init_297 rfl (by decide) (by decide) rfl ?_
  refine x_goto C (tgt := 283) dX10_init_300 (by decide) ?_
  refine x_iload_n C 0 dX10_init_283 rfl rfl ?_
  refine x_bipush C dX10_init_284 (v := 12) (by decide) ?_
  refine x_icmp_ge C (tgt := 303) dX10_init_286 (by decide) (fun c286 => ?_) (fun c286 => ?_)
  · exact absurd c286 (by decide)
  refine x_aload_n C 1 dX10_init_289 rfl rfl ?_
  refine x_get C (T := TX10) (N := 45) (v := .ref (a93 31)) 30 1 hin10 (by decide) F100 rfl (by decide) lk7 rfl rfl dX10_init_290 ?_
  refine x_iload_n C 0 dX10_init_293 rfl rfl ?_
  refine x_bipush C dX10_init_294 (v := 100) (by decide) ?_
  refine x_iastG C 31 (by decide) N99 (nI_in (c := 2) (N := 12) (by decide) (by decide)) dX10_init_296 (fun p101 B101 N101 => ?_)
  replace N101 : p101 31 = .inl (G.2.1 0, 12, .inl (upd (upd (upd (fun _ => 0) 0 100) 1 100) 2 100)) := N101
  have F102 : p101 30 = .inr (10, [.int (nI nR), .ref (a93 31), .ref (a93 32), .int 0, .int 0, .int 0, .int 1000, .int 0, .int 0, .ref (a93 39), .ref (a93 40), .ref (a93 41), .ref (a93 42), .ref (a93 43), .ref (a93 44), .ref (a93 45), .ref (a93 46), .ref (a93 47), .ref (a93 48), .ref (a93 49), .ref (a93 50), .ref (a93 51), .ref (a93 52), .ref (a93 53), .ref (a93 54), .ref (a93 55), .ref (a93 56), .ref (a93 57), .ref (a93 58), .int 0, .int 0, .int 0, .int (-1), .int 0, .ref (a93 64), .ref (a93 65), .ref (a93 66), .ref (a93 67), .ref (a93 68), .int 0, .int 0, .ref (a93 71), .ref (a93 72), .ref (a93 73), .ref (a93 74)]) := (B101 30 (by decide)).trans F100
  refine x_iinc C (L1 := [(2, .int 3), (0, .ref (a93 30)), (1, .int x)]) 0 dX10_init_297 rfl (by decide) (by decide) rfl ?_
  refine x_goto C (tgt := 283) dX10_init_300 (by decide) ?_
  refine x_iload_n C 0 dX10_init_283 rfl rfl ?_
  refine x_bipush C dX10_init_284 (v := 12) (by decide) ?_
  refine x_icmp_ge C (tgt := 303) dX10_init_286 (by decide) (fun c286 => ?_) (fun c286 => ?_)
  · exact absurd c286 (by decide)
  refine x_aload_n C 1 dX10_init_289 rfl rfl ?_
  refine x_get C (T := TX10) (N := 45) (v := .ref (a93 31)) 30 1 hin10 (by decide) F102 rfl (by decide) lk7 rfl rfl dX10_init_290 ?_
  refine x_iload_n C 0 dX10_init_293 rfl rfl ?_
  refine x_bipush C dX10_init_294 (v := 100) (by decide) ?_
  refine x_iastG C 31 (by decide) N101 (nI_in (c := 3) (N := 12) (by decide) (by decide)) dX10_init_296 (fun p103 B103 N103 => ?_)
  replace N103 : p103 31 = .inl (G.2.1 0, 12, .inl (upd (upd (upd (upd (fun _ => 0) 0 100) 1 100) 2 100) 3 100)) := N103
  have F104 : p103 30 = .inr (10, [.int (nI nR), .ref (a93 31), .ref (a93 32), .int 0, .int 0, .int 0, .int 1000, .int 0, .int 0, .ref (a93 39), .ref (a93 40), .ref (a93 41), .ref (a93 42), .ref (a93 43), .ref (a93 44), .ref (a93 45), .ref (a93 46), .ref (a93 47), .ref (a93 48), .ref (a93 49), .ref (a93 50), .ref (a93 51), .ref (a93 52), .ref (a93 53), .ref (a93 54), .ref (a93 55), .ref (a93 56), .ref (a93 57), .ref (a93 58), .int 0, .int 0, .int 0, .int (-1), .int 0, .ref (a93 64), .ref (a93 65), .ref (a93 66), .ref (a93 67), .ref (a93 68), .int 0, .int 0, .ref (a93 71), .ref (a93 72), .ref (a93 73), .ref (a93 74)]) := (B103 30 (by decide)).trans F102
  refine x_iinc C (L1 := [(2, .int 4), (0, .ref (a93 30)), (1, .int x)]) 0 dX10_init_297 rfl (by decide) (by decide) rfl ?_
  refine x_goto C (tgt := 283) dX10_init_300 (by decide) ?_
  refine x_iload_n C 0 dX10_init_283 rfl rfl ?_
  refine x_bipush C dX10_init_284 (v := 12) (by decide) ?_
  refine x_icmp_ge C (tgt := 303) dX10_init_286 (by decide) (fun c286 => ?_) (fun c286 => ?_)
  · exact absurd c286 (by decide)
  refine x_aload_n C 1 dX10_init_289 rfl rfl ?_
  refine x_get C (T := TX10) (N := 45) (v := .ref (a93 31)) 30 1 hin10 (by decide) F104 rfl (by decide) lk7 rfl rfl dX10_init_290 ?_
  refine x_iload_n C 0 dX10_init_293 rfl rfl ?_
  refine x_bipush C dX10_init_294 (v := 100) (by decide) ?_
  refine x_iastG C 31 (by decide) N103 (nI_in (c := 4) (N := 12) (by decide) (by decide)) dX10_init_296 (fun p105 B105 N105 => ?_)
  replace N105 : p105 31 = .inl (G.2.1 0, 12, .inl (upd (upd (upd (upd (upd (fun _ => 0) 0 100) 1 100) 2 100) 3 100) 4 100)) := N105
  have F106 : p105 30 = .inr (10, [.int (nI nR), .ref (a93 31), .ref (a93 32), .int 0, .int 0, .int 0, .int 1000, .int 0, .int 0, .ref (a93 39), .ref (a93 40), .ref (a93 41), .ref (a93 42), .ref (a93 43), .ref (a93 44), .ref (a93 45), .ref (a93 46), .ref (a93 47), .ref (a93 48), .ref (a93 49), .ref (a93 50), .ref (a93 51), .ref (a93 52), .ref (a93 53), .ref (a93 54), .ref (a93 55), .ref (a93 56), .ref (a93 57), .ref (a93 58), .int 0, .int 0, .int 0, .int (-1), .int 0, .ref (a93 64), .ref (a93 65), .ref (a93 66), .ref (a93 67), .ref (a93 68), .int 0, .int 0, .ref (a93 71), .ref (a93 72), .ref (a93 73), .ref (a93 74)]) := (B105 30 (by decide)).trans F104
  refine x_iinc C (L1 := [(2, .int 5), (0, .ref (a93 30)), (1, .int x)]) 0 dX10_init_297 rfl (by decide) (by decide) rfl ?_
  refine x_goto C (tgt := 283) dX10_init_300 (by decide) ?_
  refine x_iload_n C 0 dX10_init_283 rfl rfl ?_
  refine x_bipush C dX10_init_284 (v := 12) (by decide) ?_
  refine x_icmp_ge C (tgt := 303) dX10_init_286 (by decide) (fun c286 => ?_) (fun c286 => ?_)
  · exact absurd c286 (by decide)
  refine x_aload_n C 1 dX10_init_289 rfl rfl ?_
  refine x_get C (T := TX10) (N := 45) (v := .ref (a93 31)) 30 1 hin10 (by decide) F106 rfl (by decide) lk7 rfl rfl dX10_init_290 ?_
  refine x_iload_n C 0 dX10_init_293 rfl rfl ?_
  refine x_bipush C dX10_init_294 (v := 100) (by decide) ?_
  refine x_iastG C 31 (by decide) N105 (nI_in (c := 5) (N := 12) (by decide) (by decide)) dX10_init_296 (fun p107 B107 N107 => ?_)
  replace N107 : p107 31 = .inl (G.2.1 0, 12, .inl (upd (upd (upd (upd (upd (upd (fun _ => 0) 0 100) 1 100) 2 100) 3 100) 4 100) 5 100)) := N107
  have F108 : p107 30 = .inr (10, [.int (nI nR), .ref (a93 31), .ref (a93 32), .int 0, .int 0, .int 0, .int 1000, .int 0, .int 0, .ref (a93 39), .ref (a93 40), .ref (a93 41), .ref (a93 42), .ref (a93 43), .ref (a93 44), .ref (a93 45), .ref (a93 46), .ref (a93 47), .ref (a93 48), .ref (a93 49), .ref (a93 50), .ref (a93 51), .ref (a93 52), .ref (a93 53), .ref (a93 54), .ref (a93 55), .ref (a93 56), .ref (a93 57), .ref (a93 58), .int 0, .int 0, .int 0, .int (-1), .int 0, .ref (a93 64), .ref (a93 65), .ref (a93 66), .ref (a93 67), .ref (a93 68), .int 0, .int 0, .ref (a93 71), .ref (a93 72), .ref (a93 73), .ref (a93 74)]) := (B107 30 (by decide)).trans F106
  refine x_iinc C (L1 := [(2, .int 6), (0, .ref (a93 30)), (1, .int x)]) 0 dX10_init_297 rfl (by decide) (by decide) rfl ?_
  refine x_goto C (tgt := 283) dX10_init_300 (by decide) ?_
  refine x_iload_n C 0 dX10_init_283 rfl rfl ?_
  refine x_bipush C dX10_init_284 (v := 12) (by decide) ?_
  refine x_icmp_ge C (tgt := 303) dX10_init_286 (by decide) (fun c286 => ?_) (fun c286 => ?_)
  · exact absurd c286 (by decide)
  refine x_aload_n C 1 dX10_init_289 rfl rfl ?_
  refine x_get C (T := TX10) (N := 45) (v := .ref (a93 31)) 30 1 hin10 (by decide) F108 rfl (by decide) lk7 rfl rfl dX10_init_290 ?_
  refine x_iload_n C 0 dX10_init_293 rfl rfl ?_
  refine x_bipush C dX10_init_294 (v := 100) (by decide) ?_
  refine x_iastG C 31 (by decide) N107 (nI_in (c := 6) (N := 12) (by decide) (by decide)) dX10_init_296 (fun p109 B109 N109 => ?_)
  replace N109 : p109 31 = .inl (G.2.1 0, 12, .inl (upd (upd (upd (upd (upd (upd (upd (fun _ => 0) 0 100) 1 100) 2 100) 3 100) 4 100) 5 100) 6 100)) := N109
  have F110 : p109 30 = .inr (10, [.int (nI nR), .ref (a93 31), .ref (a93 32), .int 0, .int 0, .int 0, .int 1000, .int 0, .int 0, .ref (a93 39), .ref (a93 40), .ref (a93 41), .ref (a93 42), .ref (a93 43), .ref (a93 44), .ref (a93 45), .ref (a93 46), .ref (a93 47), .ref (a93 48), .ref (a93 49), .ref (a93 50), .ref (a93 51), .ref (a93 52), .ref (a93 53), .ref (a93 54), .ref (a93 55), .ref (a93 56), .ref (a93 57), .ref (a93 58), .int 0, .int 0, .int 0, .int (-1), .int 0, .ref (a93 64), .ref (a93 65), .ref (a93 66), .ref (a93 67), .ref (a93 68), .int 0, .int 0, .ref (a93 71), .ref (a93 72), .ref (a93 73), .ref (a93 74)]) := (B109 30 (by decide)).trans F108
  refine x_iinc C (L1 := [(2, .int 7), (0, .ref (a93 30)), (1, .int x)]) 0 dX10_init_297 rfl (by decide) (by decide) rfl ?_
  refine x_goto C (tgt := 283) dX10_init_300 (by decide) ?_
  refine x_iload_n C 0 dX10_init_283 rfl rfl ?_
  refine x_bipush C dX10_init_284 (v := 12) (by decide) ?_
  refine x_icmp_ge C (tgt := 303) dX10_init_286 (by decide) (fun c286 => ?_) (fun c286 => ?_)
  · exact absurd c286 (by decide)
  refine x_aload_n C 1 dX10_init_289 rfl rfl ?_
  refine x_get C (T := TX10) (N := 45) (v := .ref (a93 31)) 30 1 hin10 (by decide) F110 rfl (by decide) lk7 rfl rfl dX10_init_290 ?_
  refine x_iload_n C 0 dX10_init_293 rfl rfl ?_
  refine x_bipush C dX10_init_294 (v := 100) (by decide) ?_
  refine x_iastG C 31 (by decide) N109 (nI_in (c := 7) (N := 12) (by decide) (by decide)) dX10_init_296 (fun p111 B111 N111 => ?_)
  replace N111 : p111 31 = .inl (G.2.1 0, 12, .inl (upd (upd (upd (upd (upd (upd (upd (upd (fun _ => 0) 0 100) 1 100) 2 100) 3 100) 4 100) 5 100) 6 100) 7 100)) := N111
  have F112 : p111 30 = .inr (10, [.int (nI nR), .ref (a93 31), .ref (a93 32), .int 0, .int 0, .int 0, .int 1000, .int 0, .int 0, .ref (a93 39), .ref (a93 40), .ref (a93 41), .ref (a93 42), .ref (a93 43), .ref (a93 44), .ref (a93 45), .ref (a93 46), .ref (a93 47), .ref (a93 48), .ref (a93 49), .ref (a93 50), .ref (a93 51), .ref (a93 52), .ref (a93 53), .ref (a93 54), .ref (a93 55), .ref (a93 56), .ref (a93 57), .ref (a93 58), .int 0, .int 0, .int 0, .int (-1), .int 0, .ref (a93 64), .ref (a93 65), .ref (a93 66), .ref (a93 67), .ref (a93 68), .int 0, .int 0, .ref (a93 71), .ref (a93 72), .ref (a93 73), .ref (a93 74)]) := (B111 30 (by decide)).trans F110
  refine x_iinc C (L1 := [(2, .int 8), (0, .ref (a93 30)), (1, .int x)]) 0 dX10_init_297 rfl (by decide) (by decide) rfl ?_
  refine x_goto C (tgt := 283) dX10_init_300 (by decide) ?_
  refine x_iload_n C 0 dX10_init_283 rfl rfl ?_
  refine x_bipush C dX10_init_284 (v := 12) (by decide) ?_
  refine x_icmp_ge C (tgt := 303) dX10_init_286 (by decide) (fun c286 => ?_) (fun c286 => ?_)
  · exact absurd c286 (by decide)
  refine x_aload_n C 1 dX10_init_289 rfl rfl ?_
  refine x_get C (T := TX10) (N := 45) (v := .ref (a93 31)) 30 1 hin10 (by decide) F112 rfl (by decide) lk7 rfl rfl dX10_init_290 ?_
  refine x_iload_n C 0 dX10_init_293 rfl rfl ?_
  refine x_bipush C dX10_init_294 (v := 100) (by decide) ?_
  refine x_iastG C 31 (by decide) N111 (nI_in (c := 8) (N := 12) (by decide) (by decide)) dX10_init_296 (fun p113 B113 N113 => ?_)
  replace N113 : p113 31 = .inl (G.2.1 0, 12, .inl (upd (upd (upd (upd (upd (upd (upd (upd (upd (fun _ => 0) 0 100) 1 100) 2 100) 3 100) 4 100) 5 100) 6 100) 7 100) 8 100)) := N113
  have F114 : p113 30 = .inr (10, [.int (nI nR), .ref (a93 31), .ref (a93 32), .int 0, .int 0, .int 0, .int 1000, .int 0, .int 0, .ref (a93 39), .ref (a93 40), .ref (a93 41), .ref (a93 42), .ref (a93 43), .ref (a93 44), .ref (a93 45), .ref (a93 46), .ref (a93 47), .ref (a93 48), .ref (a93 49), .ref (a93 50), .ref (a93 51), .ref (a93 52), .ref (a93 53), .ref (a93 54), .ref (a93 55), .ref (a93 56), .ref (a93 57), .ref (a93 58), .int 0, .int 0, .int 0, .int (-1), .int 0, .ref (a93 64), .ref (a93 65), .ref (a93 66), .ref (a93 67), .ref (a93 68), .int 0, .int 0, .ref (a93 71), .ref (a93 72), .ref (a93 73), .ref (a93 74)]) := (B113 30 (by decide)).trans F112
  refine x_iinc C (L1 := [(2, .int 9), (0, .ref (a93 30)), (1, .int x)]) 0 dX10_init_297 rfl (by decide) (by decide) rfl ?_
  refine x_goto C (tgt := 283) dX10_init_300 (by decide) ?_
  refine x_iload_n C 0 dX10_init_283 rfl rfl ?_
  refine x_bipush C dX10_init_284 (v := 12) (by decide) ?_
  refine x_icmp_ge C (tgt := 303) dX10_init_286 (by decide) (fun c286 => ?_) (fun c286 => ?_)
  · exact absurd c286 (by decide)
  refine x_aload_n C 1 dX10_init_289 rfl rfl ?_
  refine x_get C (T := TX10) (N := 45) (v := .ref (a93 31)) 30 1 hin10 (by decide) F114 rfl (by decide) lk7 rfl rfl dX10_init_290 ?_
  refine x_iload_n C 0 dX10_init_293 rfl rfl ?_
  refine x_bipush C dX10_init_294 (v := 100) (by decide) ?_
  refine x_iastG C 31 (by decide) N113 (nI_in (c := 9) (N := 12) (by decide) (by decide)) dX10_init_296 (fun p115 B115 N115 => ?_)
  replace N115 : p115 31 = .inl (G.2.1 0, 12, .inl (upd (upd (upd (upd (upd (upd (upd (upd (upd (upd (fun _ => 0) 0 100) 1 100) 2 100) 3 100) 4 100) 5 100) 6 100) 7 100) 8 100) 9 100)) := N115
  have F116 : p115 30 = .inr (10, [.int (nI nR), .ref (a93 31), .ref (a93 32), .int 0, .int 0, .int 0, .int 1000, .int 0, .int 0, .ref (a93 39), .ref (a93 40), .ref (a93 41), .ref (a93 42), .ref (a93 43), .ref (a93 44), .ref (a93 45), .ref (a93 46), .ref (a93 47), .ref (a93 48), .ref (a93 49), .ref (a93 50), .ref (a93 51), .ref (a93 52), .ref (a93 53), .ref (a93 54), .ref (a93 55), .ref (a93 56), .ref (a93 57), .ref (a93 58), .int 0, .int 0, .int 0, .int (-1), .int 0, .ref (a93 64), .ref (a93 65), .ref (a93 66), .ref (a93 67), .ref (a93 68), .int 0, .int 0, .ref (a93 71), .ref (a93 72), .ref (a93 73), .ref (a93 74)]) := (B115 30 (by decide)).trans F114
  refine x_iinc C (L1 := [(2, .int 10), (0, .ref (a93 30)), (1, .int x)]) 0 dX10_init_297 rfl (by decide) (by decide) rfl ?_
  refine x_goto C (tgt := 283) dX10_init_300 (by decide) ?_
  refine x_iload_n C 0 dX10_init_283 rfl rfl ?_
  refine x_bipush C dX10_init_284 (v := 12) (by decide) ?_
  refine x_icmp_ge C (tgt := 303) dX10_init_286 (by decide) (fun c286 => ?_) (fun c286 => ?_)
  · exact absurd c286 (by decide)
  refine x_aload_n C 1 dX10_init_289 rfl rfl ?_
  refine x_get C (T := TX10) (N := 45) (v := .ref (a93 31)) 30 1 hin10 (by decide) F116 rfl (by decide) lk7 rfl rfl dX10_init_290 ?_
  refine x_iload_n C 0 dX10_init_293 rfl rfl ?_
  refine x_bipush C dX10_init_294 (v := 100) (by decide) ?_
  refine x_iastG C 31 (by decide) N115 (nI_in (c := 10) (N := 12) (by decide) (by decide)) dX10_init_296 (fun p117 B117 N117 => ?_)
  replace N117 : p117 31 = .inl (G.2.1 0, 12, .inl (upd (upd (upd (upd (upd (upd (upd (upd (upd (upd (upd (fun _ => 0) 0 100) 1 100) 2 100) 3 100) 4 100) 5 100) 6 100) 7 100) 8 100) 9 100) 10 100)) := N117
  have F118 : p117 30 = .inr (10, [.int (nI nR), .ref (a93 31), .ref (a93 32), .int 0, .int 0, .int 0, .int 1000, .int 0, .int 0, .ref (a93 39), .ref (a93 40), .ref (a93 41), .ref (a93 42), .ref (a93 43), .ref (a93 44), .ref (a93 45), .ref (a93 46), .ref (a93 47), .ref (a93 48), .ref (a93 49), .ref (a93 50), .ref (a93 51), .ref (a93 52), .ref (a93 53), .ref (a93 54), .ref (a93 55), .ref (a93 56), .ref (a93 57), .ref (a93 58), .int 0, .int 0, .int 0, .int (-1), .int 0, .ref (a93 64), .ref (a93 65), .ref (a93 66), .ref (a93 67), .ref (a93 68), .int 0, .int 0, .ref (a93 71), .ref (a93 72), .ref (a93 73), .ref (a93 74)]) := (B117 30 (by decide)).trans F116
  refine x_iinc C (L1 := [(2, .int 11), (0, .ref (a93 30)), (1, .int x)]) 0 dX10_init_297 rfl (by decide) (by decide) rfl ?_
  refine x_goto C (tgt := 283) dX10_init_300 (by decide) ?_
  refine x_iload_n C 0 dX10_init_283 rfl rfl ?_
  refine x_bipush C dX10_init_284 (v := 12) (by decide) ?_
  refine x_icmp_ge C (tgt := 303) dX10_init_286 (by decide) (fun c286 => ?_) (fun c286 => ?_)
  · exact absurd c286 (by decide)
  refine x_aload_n C 1 dX10_init_289 rfl rfl ?_
  refine x_get C (T := TX10) (N := 45) (v := .ref (a93 31)) 30 1 hin10 (by decide) F118 rfl (by decide) lk7 rfl rfl dX10_init_290 ?_
  refine x_iload_n C 0 dX10_init_293 rfl rfl ?_
  refine x_bipush C dX10_init_294 (v := 100) (by decide) ?_
  refine x_iastG C 31 (by decide) N117 (nI_in (c := 11) (N := 12) (by decide) (by decide)) dX10_init_296 (fun p119 B119 N119 => ?_)
  replace N119 : p119 31 = .inl (G.2.1 0, 12, .inl (upd (upd (upd (upd (upd (upd (upd (upd (upd (upd (upd (upd (fun _ => 0) 0 100) 1 100) 2 100) 3 100) 4 100) 5 100) 6 100) 7 100) 8 100) 9 100) 10 100) 11 100)) := N119
  have F120 : p119 30 = .inr (10, [.int (nI nR), .ref (a93 31), .ref (a93 32), .int 0, .int 0, .int 0, .int 1000, .int 0, .int 0, .ref (a93 39), .ref (a93 40), .ref (a93 41), .ref (a93 42), .ref (a93 43), .ref (a93 44), .ref (a93 45), .ref (a93 46), .ref (a93 47), .ref (a93 48), .ref (a93 49), .ref (a93 50), .ref (a93 51), .ref (a93 52), .ref (a93 53), .ref (a93 54), .ref (a93 55), .ref (a93 56), .ref (a93 57), .ref (a93 58), .int 0, .int 0, .int 0, .int (-1), .int 0, .ref (a93 64), .ref (a93 65), .ref (a93 66), .ref (a93 67), .ref (a93 68), .int 0, .int 0, .ref (a93 71), .ref (a93 72), .ref (a93 73), .ref (a93 74)]) := (B119 30 (by decide)).trans F118
  refine x_iinc C (L1 := [(2, .int 12), (0, .ref (a93 30)), (1, .int x)]) 0 dX10_init_297 rfl (by decide) (by decide) rfl ?_
  refine x_goto C (tgt := 283) dX10_init_300 (by decide) ?_
  refine x_iload_n C 0 dX10_init_283 rfl rfl ?_
  refine x_bipush C dX10_init_284 (v := 12) (by decide) ?_
  refine x_icmp_ge C (tgt := 303) dX10_init_286 (by decide) (fun c286 => ?_) (fun c286 => ?_)
  rotate_left
  · exact absurd (by decide) c286
  refine x_iconst C dX10_init_303 (v := 0) (by decide) ?_
  refine x_istore_n C (L1 := [(2, .int 0), (0, .ref (a93 30)), (1, .int x)]) dX10_init_304 rfl (by decide) rfl ?_
  refine x_iload_n C 0 dX10_init_305 rfl rfl ?_
  refine x_bipush C dX10_init_306 (v := 11) (by decide) ?_
  refine x_icmp_ge C (tgt := 325) dX10_init_308 (by decide) (fun c308 => ?_) (fun c308 => ?_)
  · exact absurd c308 (by decide)
  refine x_aload_n C 1 dX10_init_311 rfl rfl ?_
  refine x_get C (T := TX10) (N := 45) (v := .ref (a93 32)) 30 2 hin10 (by decide) F120 rfl (by decide) lk13 rfl rfl dX10_init_312 ?_
  refine x_iload_n C 0 dX10_init_315 rfl rfl ?_
  refine x_bipush C dX10_init_316 (v := 20) (by decide) ?_
  refine x_iastG C 32 (by decide) (((((((((((((((((((((((((((((((((((((((((((((((((((((((((((((((((((((((((((B119 32 (by decide)).trans (B117 32 (by decide))).trans (B115 32 (by decide))).trans (B113 32 (by decide))).trans (B111 32 (by decide))).trans (B109 32 (by decide))).trans (B107 32 (by decide))).trans (B105 32 (by decide))).trans (B103 32 (by decide))).trans (B101 32 (by decide))).trans (B99 32 (by decide))).trans (B97 32 (by decide))).trans (B96 32 (by decide))).trans (B95 32 (by decide))).trans (B93 32 (by decide))).trans (B92 32 (by decide))).trans (B90 32 (by decide))).trans (B89 32 (by decide))).trans (B87 32 (by decide))).trans (B86 32 (by decide))).trans (B84 32 (by decide))).trans (B83 32 (by decide))).trans (B81 32 (by decide))).trans (B80 32 (by decide))).trans (B78 32 (by decide))).trans (B77 32 (by decide))).trans (B75 32 (by decide))).trans (B74 32 (by decide))).trans (B72 32 (by decide))).trans (B71 32 (by decide))).trans (B69 32 (by decide))).trans (B68 32 (by decide))).trans (B67 32 (by decide))).trans (B65 32 (by decide))).trans (B64 32 (by decide))).trans (B62 32 (by decide))).trans (B61 32 (by decide))).trans (B59 32 (by decide))).trans (B58 32 (by decide))).trans (B56 32 (by decide))).trans (B55 32 (by decide))).trans (B53 32 (by decide))).trans (B52 32 (by decide))).trans (B50 32 (by decide))).trans (B49 32 (by decide))).trans (B47 32 (by decide))).trans (B46 32 (by decide))).trans (B44 32 (by decide))).trans (B43 32 (by decide))).trans (B41 32 (by decide))).trans (B40 32 (by decide))).trans (B38 32 (by decide))).trans (B37 32 (by decide))).trans (B35 32 (by decide))).trans (B34 32 (by decide))).trans (B32 32 (by decide))).trans (B31 32 (by decide))).trans (B29 32 (by decide))).trans (B28 32 (by decide))).trans (B26 32 (by decide))).trans (B25 32 (by decide))).trans (B23 32 (by decide))).trans (B22 32 (by decide))).trans (B20 32 (by decide))).trans (B19 32 (by decide))).trans (B17 32 (by decide))).trans (B16 32 (by decide))).trans (B14 32 (by decide))).trans (B13 32 (by decide))).trans (B11 32 (by decide))).trans (B10 32 (by decide))).trans (B8 32 (by decide))).trans (B7 32 (by decide))).trans (B6 32 (by decide))).trans N4) (nI_in (c := 0) (N := 11) (by decide) (by decide)) dX10_init_318 (fun p121 B121 N121 => ?_)
  replace N121 : p121 32 = .inl (G.2.1 0, 11, .inl (upd (fun _ => 0) 0 20)) := N121
  have F122 : p121 30 = .inr (10, [.int (nI nR), .ref (a93 31), .ref (a93 32), .int 0, .int 0, .int 0, .int 1000, .int 0, .int 0, .ref (a93 39), .ref (a93 40), .ref (a93 41), .ref (a93 42), .ref (a93 43), .ref (a93 44), .ref (a93 45), .ref (a93 46), .ref (a93 47), .ref (a93 48), .ref (a93 49), .ref (a93 50), .ref (a93 51), .ref (a93 52), .ref (a93 53), .ref (a93 54), .ref (a93 55), .ref (a93 56), .ref (a93 57), .ref (a93 58), .int 0, .int 0, .int 0, .int (-1), .int 0, .ref (a93 64), .ref (a93 65), .ref (a93 66), .ref (a93 67), .ref (a93 68), .int 0, .int 0, .ref (a93 71), .ref (a93 72), .ref (a93 73), .ref (a93 74)]) := (B121 30 (by decide)).trans F120
  refine x_iinc C (L1 := [(2, .int 1), (0, .ref (a93 30)), (1, .int x)]) 0 dX10_init_319 rfl (by decide) (by decide) rfl ?_
  refine x_goto C (tgt := 305) dX10_init_322 (by decide) ?_
  refine x_iload_n C 0 dX10_init_305 rfl rfl ?_
  refine x_bipush C dX10_init_306 (v := 11) (by decide) ?_
  refine x_icmp_ge C (tgt := 325) dX10_init_308 (by decide) (fun c308 => ?_) (fun c308 => ?_)
  · exact absurd c308 (by decide)
  refine x_aload_n C 1 dX10_init_311 rfl rfl ?_
  refine x_get C (T := TX10) (N := 45) (v := .ref (a93 32)) 30 2 hin10 (by decide) F122 rfl (by decide) lk13 rfl rfl dX10_init_312 ?_
  refine x_iload_n C 0 dX10_init_315 rfl rfl ?_
  refine x_bipush C dX10_init_316 (v := 20) (by decide) ?_
  refine x_iastG C 32 (by decide) N121 (nI_in (c := 1) (N := 11) (by decide) (by decide)) dX10_init_318 (fun p123 B123 N123 => ?_)
  replace N123 : p123 32 = .inl (G.2.1 0, 11, .inl (upd (upd (fun _ => 0) 0 20) 1 20)) := N123
  have F124 : p123 30 = .inr (10, [.int (nI nR), .ref (a93 31), .ref (a93 32), .int 0, .int 0, .int 0, .int 1000, .int 0, .int 0, .ref (a93 39), .ref (a93 40), .ref (a93 41), .ref (a93 42), .ref (a93 43), .ref (a93 44), .ref (a93 45), .ref (a93 46), .ref (a93 47), .ref (a93 48), .ref (a93 49), .ref (a93 50), .ref (a93 51), .ref (a93 52), .ref (a93 53), .ref (a93 54), .ref (a93 55), .ref (a93 56), .ref (a93 57), .ref (a93 58), .int 0, .int 0, .int 0, .int (-1), .int 0, .ref (a93 64), .ref (a93 65), .ref (a93 66), .ref (a93 67), .ref (a93 68), .int 0, .int 0, .ref (a93 71), .ref (a93 72), .ref (a93 73), .ref (a93 74)]) := (B123 30 (by decide)).trans F122
  refine x_iinc C (L1 := [(2, .int 2), (0, .ref (a93 30)), (1, .int x)]) 0 dX10_init_319 rfl (by decide) (by decide) rfl ?_
  refine x_goto C (tgt := 305) dX10_init_322 (by decide) ?_
  refine x_iload_n C 0 dX10_init_305 rfl rfl ?_
  refine x_bipush C dX10_init_306 (v := 11) (by decide) ?_
  refine x_icmp_ge C (tgt := 325) dX10_init_308 (by decide) (fun c308 => ?_) (fun c308 => ?_)
  · exact absurd c308 (by decide)
  refine x_aload_n C 1 dX10_init_311 rfl rfl ?_
  refine x_get C (T := TX10) (N := 45) (v := .ref (a93 32)) 30 2 hin10 (by decide) F124 rfl (by decide) lk13 rfl rfl dX10_init_312 ?_
  refine x_iload_n C 0 dX10_init_315 rfl rfl ?_
  refine x_bipush C dX10_init_316 (v := 20) (by decide) ?_
  refine x_iastG C 32 (by decide) N123 (nI_in (c := 2) (N := 11) (by decide) (by decide)) dX10_init_318 (fun p125 B125 N125 => ?_)
  replace N125 : p125 32 = .inl (G.2.1 0, 11, .inl (upd (upd (upd (fun _ => 0) 0 20) 1 20) 2 20)) := N125
  have F126 : p125 30 = .inr (10, [.int (nI nR), .ref (a93 31), .ref (a93 32), .int 0, .int 0, .int 0, .int 1000, .int 0, .int 0, .ref (a93 39), .ref (a93 40), .ref (a93 41), .ref (a93 42), .ref (a93 43), .ref (a93 44), .ref (a93 45), .ref (a93 46), .ref (a93 47), .ref (a93 48), .ref (a93 49), .ref (a93 50), .ref (a93 51), .ref (a93 52), .ref (a93 53), .ref (a93 54), .ref (a93 55), .ref (a93 56), .ref (a93 57), .ref (a93 58), .int 0, .int 0, .int 0, .int (-1), .int 0, .ref (a93 64), .ref (a93 65), .ref (a93 66), .ref (a93 67), .ref (a93 68), .int 0, .int 0, .ref (a93 71), .ref (a93 72), .ref (a93 73), .ref (a93 74)]) := (B125 30 (by decide)).trans F124
  refine x_iinc C (L1 := [(2, .int 3), (0, .ref (a93 30)), (1, .int x)]) 0 dX10_init_319 rfl (by decide) (by decide) rfl ?_
  refine x_goto C (tgt := 305) dX10_init_322 (by decide) ?_
  refine x_iload_n C 0 dX10_init_305 rfl rfl ?_
  refine x_bipush C dX10_init_306 (v := 11) (by decide) ?_
  refine x_icmp_ge C (tgt := 325) dX10_init_308 (by decide) (fun c308 => ?_) (fun c308 => ?_)
  · exact absurd c308 (by decide)
  refine x_aload_n C 1 dX10_init_311 rfl rfl ?_
  refine x_get C (T := TX10) (N := 45) (v := .ref (a93 32)) 30 2 hin10 (by decide) F126 rfl (by decide) lk13 rfl rfl dX10_init_312 ?_
  refine x_iload_n C 0 dX10_init_315 rfl rfl ?_
  refine x_bipush C dX10_init_316 (v := 20) (by decide) ?_
  refine x_iastG C 32 (by decide) N125 (nI_in (c := 3) (N := 11) (by decide) (by decide)) dX10_init_318 (fun p127 B127 N127 => ?_)
  replace N127 : p127 32 = .inl (G.2.1 0, 11, .inl (upd (upd (upd (upd (fun _ => 0) 0 20) 1 20) 2 20) 3 20)) := N127
  have F128 : p127 30 = .inr (10, [.int (nI nR), .ref (a93 31), .ref (a93 32), .int 0, .int 0, .int 0, .int 1000, .int 0, .int 0, .ref (a93 39), .ref (a93 40), .ref (a93 41), .ref (a93 42), .ref (a93 43), .ref (a93 44), .ref (a93 45), .ref (a93 46), .ref (a93 47), .ref (a93 48), .ref (a93 49), .ref (a93 50), .ref (a93 51), .ref (a93 52), .ref (a93 53), .ref (a93 54), .ref (a93 55), .ref (a93 56), .ref (a93 57), .ref (a93 58), .int 0, .int 0, .int 0, .int (-1), .int 0, .ref (a93 64), .ref (a93 65), .ref (a93 66), .ref (a93 67), .ref (a93 68), .int 0, .int 0, .ref (a93 71), .ref (a93 72), .ref (a93 73), .ref (a93 74)]) := (B127 30 (by decide)).trans F126
  refine x_iinc C (L1 := [(2, .int 4), (0, .ref (a93 30)), (1, .int x)]) 0 dX10_init_319 rfl (by decide) (by decide) rfl ?_
  refine x_goto C (tgt := 305) dX10_init_322 (by decide) ?_
  refine x_iload_n C 0 dX10_init_305 rfl rfl ?_
  refine x_bipush C dX10_init_306 (v := 11) (by decide) ?_
  refine x_icmp_ge C (tgt := 325) dX10_init_308 (by decide) (fun c308 => ?_) (fun c308 => ?_)
  · exact absurd c308 (by decide)
  refine x_aload_n C 1 dX10_init_311 rfl rfl ?_
  refine x_get C (T := TX10) (N := 45) (v := .ref (a93 32)) 30 2 hin10 (by decide) F128 rfl (by decide) lk13 rfl rfl dX10_init_312 ?_
  refine x_iload_n C 0 dX10_init_315 rfl rfl ?_
  refine x_bipush C dX10_init_316 (v := 20) (by decide) ?_
  refine x_iastG C 32 (by decide) N127 (nI_in (c := 4) (N := 11) (by decide) (by decide)) dX10_init_318 (fun p129 B129 N129 => ?_)
  replace N129 : p129 32 = .inl (G.2.1 0, 11, .inl (upd (upd (upd (upd (upd (fun _ => 0) 0 20) 1 20) 2 20) 3 20) 4 20)) := N129
  have F130 : p129 30 = .inr (10, [.int (nI nR), .ref (a93 31), .ref (a93 32), .int 0, .int 0, .int 0, .int 1000, .int 0, .int 0, .ref (a93 39), .ref (a93 40), .ref (a93 41), .ref (a93 42), .ref (a93 43), .ref (a93 44), .ref (a93 45), .ref (a93 46), .ref (a93 47), .ref (a93 48), .ref (a93 49), .ref (a93 50), .ref (a93 51), .ref (a93 52), .ref (a93 53), .ref (a93 54), .ref (a93 55), .ref (a93 56), .ref (a93 57), .ref (a93 58), .int 0, .int 0, .int 0, .int (-1), .int 0, .ref (a93 64), .ref (a93 65), .ref (a93 66), .ref (a93 67), .ref (a93 68), .int 0, .int 0, .ref (a93 71), .ref (a93 72), .ref (a93 73), .ref (a93 74)]) := (B129 30 (by decide)).trans F128
  refine x_iinc C (L1 := [(2, .int 5), (0, .ref (a93 30)), (1, .int x)]) 0 dX10_init_319 rfl (by decide) (by decide) rfl ?_
  refine x_goto C (tgt := 305) dX10_init_322 (by decide) ?_
  refine x_iload_n C 0 dX10_init_305 rfl rfl ?_
  refine x_bipush C dX10_init_306 (v := 11) (by decide) ?_
  refine x_icmp_ge C (tgt := 325) dX10_init_308 (by decide) (fun c308 => ?_) (fun c308 => ?_)
  · exact absurd c308 (by decide)
  refine x_aload_n C 1 dX10_init_311 rfl rfl ?_
  refine x_get C (T := TX10) (N := 45) (v := .ref (a93 32)) 30 2 hin10 (by decide) F130 rfl (by decide) lk13 rfl rfl dX10_init_312 ?_
  refine x_iload_n C 0 dX10_init_315 rfl rfl ?_
  refine x_bipush C dX10_init_316 (v := 20) (by decide) ?_
  refine x_iastG C 32 (by decide) N129 (nI_in (c := 5) (N := 11) (by decide) (by decide)) dX10_init_318 (fun p131 B131 N131 => ?_)
  replace N131 : p131 32 = .inl (G.2.1 0, 11, .inl (upd (upd (upd (upd (upd (upd (fun _ => 0) 0 20) 1 20) 2 20) 3 20) 4 20) 5 20)) := N131
  have F132 : p131 30 = .inr (10, [.int (nI nR), .ref (a93 31), .ref (a93 32), .int 0, .int 0, .int 0, .int 1000, .int 0, .int 0, .ref (a93 39), .ref (a93 40), .ref (a93 41), .ref (a93 42), .ref (a93 43), .ref (a93 44), .ref (a93 45), .ref (a93 46), .ref (a93 47), .ref (a93 48), .ref (a93 49), .ref (a93 50), .ref (a93 51), .ref (a93 52), .ref (a93 53), .ref (a93 54), .ref (a93 55), .ref (a93 56), .ref (a93 57), .ref (a93 58), .int 0, .int 0, .int 0, .int (-1), .int 0, .ref (a93 64), .ref (a93 65), .ref (a93 66), .ref (a93 67), .ref (a93 68), .int 0, .int 0, .ref (a93 71), .ref (a93 72), .ref (a93 73), .ref (a93 74)]) := (B131 30 (by decide)).trans F130
  refine x_iinc C (L1 := [(2, .int 6), (0, .ref (a93 30)), (1, .int x)]) 0 dX10_init_319 rfl (by decide) (by decide) rfl ?_
  refine x_goto C (tgt := 305) dX10_init_322 (by decide) ?_
  refine x_iload_n C 0 dX10_init_305 rfl rfl ?_
  refine x_bipush C dX10_init_306 (v := 11) (by decide) ?_
  refine x_icmp_ge C (tgt := 325) dX10_init_308 (by decide) (fun c308 => ?_) (fun c308 => ?_)
  · exact absurd c308 (by decide)
  refine x_aload_n C 1 dX10_init_311 rfl rfl ?_
  refine x_get C (T := TX10) (N := 45) (v := .ref (a93 32)) 30 2 hin10 (by decide) F132 rfl (by decide) lk13 rfl rfl dX10_init_312 ?_
  refine x_iload_n C 0 dX10_init_315 rfl rfl ?_
  refine x_bipush C dX10_init_316 (v := 20) (by decide) ?_
  refine x_iastG C 32 (by decide) N131 (nI_in (c := 6) (N := 11) (by decide) (by decide)) dX10_init_318 (fun p133 B133 N133 => ?_)
  replace N133 : p133 32 = .inl (G.2.1 0, 11, .inl (upd (upd (upd (upd (upd (upd (upd (fun _ => 0) 0 20) 1 20) 2 20) 3 20) 4 20) 5 20) 6 20)) := N133
  have F134 : p133 30 = .inr (10, [.int (nI nR), .ref (a93 31), .ref (a93 32), .int 0, .int 0, .int 0, .int 1000, .int 0, .int 0, .ref (a93 39), .ref (a93 40), .ref (a93 41), .ref (a93 42), .ref (a93 43), .ref (a93 44), .ref (a93 45), .ref (a93 46), .ref (a93 47), .ref (a93 48), .ref (a93 49), .ref (a93 50), .ref (a93 51), .ref (a93 52), .ref (a93 53), .ref (a93 54), .ref (a93 55), .ref (a93 56), .ref (a93 57), .ref (a93 58), .int 0, .int 0, .int 0, .int (-1), .int 0, .ref (a93 64), .ref (a93 65), .ref (a93 66), .ref (a93 67), .ref (a93 68), .int 0, .int 0, .ref (a93 71), .ref (a93 72), .ref (a93 73), .ref (a93 74)]) := (B133 30 (by decide)).trans F132
  refine x_iinc C (L1 := [(2, .int 7), (0, .ref (a93 30)), (1, .int x)]) 0 dX10_init_319 rfl (by decide) (by decide) rfl ?_
  refine x_goto C (tgt := 305) dX10_init_322 (by decide) ?_
  refine x_iload_n C 0 dX10_init_305 rfl rfl ?_
  refine x_bipush C dX10_init_306 (v := 11) (by decide) ?_
  refine x_icmp_ge C (tgt := 325) dX10_init_308 (by decide) (fun c308 => ?_) (fun c308 => ?_)
  · exact absurd c308 (by decide)
  refine x_aload_n C 1 dX10_init_311 rfl rfl ?_
  refine x_get C (T := TX10) (N := 45) (v := .ref (a93 32)) 30 2 hin10 (by decide) F134 rfl (by decide) lk13 rfl rfl dX10_init_312 ?_
  refine x_iload_n C 0 dX10_init_315 rfl rfl ?_
  refine x_bipush C dX10_init_316 (v := 20) (by decide) ?_
  refine x_iastG C 32 (by decide) N133 (nI_in (c := 7) (N := 11) (by decide) (by decide)) dX10_init_318 (fun p135 B135 N135 => ?_)
  replace N135 : p135 32 = .inl (G.2.1 0, 11, .inl (upd (upd (upd (upd (upd (upd (upd (upd (fun _ => 0) 0 20) 1 20) 2 20) 3 20) 4 20) 5 20) 6 20) 7 20)) := N135
  have F136 : p135 30 = .inr (10, [.int (nI nR), .ref (a93 31), .ref (a93 32), .int 0, .int 0, .int 0, .int 1000, .int 0, .int 0, .ref (a93 39), .ref (a93 40), .ref (a93 41), .ref (a93 42), .ref (a93 43), .ref (a93 44), .ref (a93 45), .ref (a93 46), .ref (a93 47), .ref (a93 48), .ref (a93 49), .ref (a93 50), .ref (a93 51), .ref (a93 52), .ref (a93 53), .ref (a93 54), .ref (a93 55), .ref (a93 56), .ref (a93 57), .ref (a93 58), .int 0, .int 0, .int 0, .int (-1), .int 0, .ref (a93 64), .ref (a93 65), .ref (a93 66), .ref (a93 67), .ref (a93 68), .int 0, .int 0, .ref (a93 71), .ref (a93 72), .ref (a93 73), .ref (a93 74)]) := (B135 30 (by decide)).trans F134
  refine x_iinc C (L1 := [(2, .int 8), (0, .ref (a93 30)), (1, .int x)]) 0 dX10_init_319 rfl (by decide) (by decide) rfl ?_
  refine x_goto C (tgt := 305) dX10_init_322 (by decide) ?_
  refine x_iload_n C 0 dX10_init_305 rfl rfl ?_
  refine x_bipush C dX10_init_306 (v := 11) (by decide) ?_
  refine x_icmp_ge C (tgt := 325) dX10_init_308 (by decide) (fun c308 => ?_) (fun c308 => ?_)
  · exact absurd c308 (by decide)
  refine x_aload_n C 1 dX10_init_311 rfl rfl ?_
  refine x_get C (T := TX10) (N := 45) (v := .ref (a93 32)) 30 2 hin10 (by decide) F136 rfl (by decide) lk13 rfl rfl dX10_init_312 ?_
  refine x_iload_n C 0 dX10_init_315 rfl rfl ?_
  refine x_bipush C dX10_init_316 (v := 20) (by decide) ?_
  refine x_iastG C 32 (by decide) N135 (nI_in (c := 8) (N := 11) (by decide) (by decide)) dX10_init_318 (fun p137 B137 N137 => ?_)
  replace N137 : p137 32 = .inl (G.2.1 0, 11, .inl (upd (upd (upd (upd (upd (upd (upd (upd (upd (fun _ => 0) 0 20) 1 20) 2 20) 3 20) 4 20) 5 20) 6 20) 7 20) 8 20)) := N137
  have F138 : p137 30 = .inr (10, [.int (nI nR), .ref (a93 31), .ref (a93 32), .int 0, .int 0, .int 0, .int 1000, .int 0, .int 0, .ref (a93 39), .ref (a93 40), .ref (a93 41), .ref (a93 42), .ref (a93 43), .ref (a93 44), .ref (a93 45), .ref (a93 46), .ref (a93 47), .ref (a93 48), .ref (a93 49), .ref (a93 50), .ref (a93 51), .ref (a93 52), .ref (a93 53), .ref (a93 54), .ref (a93 55), .ref (a93 56), .ref (a93 57), .ref (a93 58), .int 0, .int 0, .int 0, .int (-1), .int 0, .ref (a93 64), .ref (a93 65), .ref (a93 66), .ref (a93 67), .ref (a93 68), .int 0, .int 0, .ref (a93 71), .ref (a93 72), .ref (a93 73), .ref (a93 74)]) := (B137 30 (by decide)).trans F136
  refine x_iinc C (L1 := [(2, .int 9), (0, .ref (a93 30)), (1, .int x)]) 0 dX10_init_319 rfl (by decide) (by decide) rfl ?_
  refine x_goto C (tgt := 305) dX10_init_322 (by decide) ?_
  refine x_iload_n C 0 dX10_init_305 rfl rfl ?_
  refine x_bipush C dX10_init_306 (v := 11) (by decide) ?_
  refine x_icmp_ge C (tgt := 325) dX10_init_308 (by decide) (fun c308 => ?_) (fun c308 => ?_)
  · exact absurd c308 (by decide)
  refine x_aload_n C 1 dX10_init_311 rfl rfl ?_
  refine x_get C (T := TX10) (N := 45) (v := .ref (a93 32)) 30 2 hin10 (by decide) F138 rfl (by decide) lk13 rfl rfl dX10_init_312 ?_
  refine x_iload_n C 0 dX10_init_315 rfl rfl ?_
  refine x_bipush C dX10_init_316 (v := 20) (by decide) ?_
  refine x_iastG C 32 (by decide) N137 (nI_in (c := 9) (N := 11) (by decide) (by decide)) dX10_init_318 (fun p139 B139 N139 => ?_)
  replace N139 : p139 32 = .inl (G.2.1 0, 11, .inl (upd (upd (upd (upd (upd (upd (upd (upd (upd (upd (fun _ => 0) 0 20) 1 20) 2 20) 3 20) 4 20) 5 20) 6 20) 7 20) 8 20) 9 20)) := N139
  have F140 : p139 30 = .inr (10, [.int (nI nR), .ref (a93 31), .ref (a93 32), .int 0, .int 0, .int 0, .int 1000, .int 0, .int 0, .ref (a93 39), .ref (a93 40), .ref (a93 41), .ref (a93 42), .ref (a93 43), .ref (a93 44), .ref (a93 45), .ref (a93 46), .ref (a93 47), .ref (a93 48), .ref (a93 49), .ref (a93 50), .ref (a93 51), .ref (a93 52), .ref (a93 53), .ref (a93 54), .ref (a93 55), .ref (a93 56), .ref (a93 57), .ref (a93 58), .int 0, .int 0, .int 0, .int (-1), .int 0, .ref (a93 64), .ref (a93 65), .ref (a93 66), .ref (a93 67), .ref (a93 68), .int 0, .int 0, .ref (a93 71), .ref (a93 72), .ref (a93 73), .ref (a93 74)]) := (B139 30 (by decide)).trans F138
  refine x_iinc C (L1 := [(2, .int 10), (0, .ref (a93 30)), (1, .int x)]) 0 dX10_init_319 rfl (by decide) (by decide) rfl ?_
  refine x_goto C (tgt := 305) dX10_init_322 (by decide) ?_
  refine x_iload_n C 0 dX10_init_305 rfl rfl ?_
  refine x_bipush C dX10_init_306 (v := 11) (by decide) ?_
  refine x_icmp_ge C (tgt := 325) dX10_init_308 (by decide) (fun c308 => ?_) (fun c308 => ?_)
  · exact absurd c308 (by decide)
  refine x_aload_n C 1 dX10_init_311 rfl rfl ?_
  refine x_get C (T := TX10) (N := 45) (v := .ref (a93 32)) 30 2 hin10 (by decide) F140 rfl (by decide) lk13 rfl rfl dX10_init_312 ?_
  refine x_iload_n C 0 dX10_init_315 rfl rfl ?_
  refine x_bipush C dX10_init_316 (v := 20) (by decide) ?_
  refine x_iastG C 32 (by decide) N139 (nI_in (c := 10) (N := 11) (by decide) (by decide)) dX10_init_318 (fun p141 B141 N141 => ?_)
  replace N141 : p141 32 = .inl (G.2.1 0, 11, .inl (upd (upd (upd (upd (upd (upd (upd (upd (upd (upd (upd (fun _ => 0) 0 20) 1 20) 2 20) 3 20) 4 20) 5 20) 6 20) 7 20) 8 20) 9 20) 10 20)) := N141
  have F142 : p141 30 = .inr (10, [.int (nI nR), .ref (a93 31), .ref (a93 32), .int 0, .int 0, .int 0, .int 1000, .int 0, .int 0, .ref (a93 39), .ref (a93 40), .ref (a93 41), .ref (a93 42), .ref (a93 43), .ref (a93 44), .ref (a93 45), .ref (a93 46), .ref (a93 47), .ref (a93 48), .ref (a93 49), .ref (a93 50), .ref (a93 51), .ref (a93 52), .ref (a93 53), .ref (a93 54), .ref (a93 55), .ref (a93 56), .ref (a93 57), .ref (a93 58), .int 0, .int 0, .int 0, .int (-1), .int 0, .ref (a93 64), .ref (a93 65), .ref (a93 66), .ref (a93 67), .ref (a93 68), .int 0, .int 0, .ref (a93 71), .ref (a93 72), .ref (a93 73), .ref (a93 74)]) := (B141 30 (by decide)).trans F140
  refine x_iinc C (L1 := [(2, .int 11), (0, .ref (a93 30)), (1, .int x)]) 0 dX10_init_319 rfl (by decide) (by decide) rfl ?_
  refine x_goto C (tgt := 305) dX10_init_322 (by decide) ?_
  refine x_iload_n C 0 dX10_init_305 rfl rfl ?_
  refine x_bipush C dX10_init_306 (v := 11) (by decide) ?_
  refine x_icmp_ge C (tgt := 325) dX10_init_308 (by decide) (fun c308 => ?_) (fun c308 => ?_)
  rotate_left
  · exact absurd (by decide) c308
  refine x_vretA C hrt9 ?_ dX10_init_325
  refine ⟨fun i h1 h2 h3 h4 h5 h6 h7 h8 h9 h10 h11 h12 h13 h14 h15 h16 h17 h18 h19 h20 h21 h22 h23 h24 h25 h26 h27 h28 h29 h30 h31 => (((((((((((((((((((((((((((((((A93 i h31).trans (A90 i h30)).trans (A87 i h29)).trans (A84 i h28)).trans (A81 i h27)).trans (A78 i h26)).trans (A75 i h25)).trans (A72 i h24)).trans (A69 i h23)).trans (A65 i h22)).trans (A62 i h21)).trans (A59 i h20)).trans (A56 i h19)).trans (A53 i h18)).trans (A50 i h17)).trans (A47 i h16)).trans (A44 i h15)).trans (A41 i h14)).trans (A38 i h13)).trans (A35 i h12)).trans (A32 i h11)).trans (A29 i h10)).trans (A26 i h9)).trans (A23 i h8)).trans (A20 i h7)).trans (A17 i h6)).trans (A14 i h5)).trans (A11 i h4)).trans (A8 i h3)).trans (A4 i h2)).trans (A1 i h1)), fun i h0 h1 h2 h3 h4 h5 h6 h7 h8 h9 h10 h11 h12 h13 h14 h15 h16 h17 h18 h19 h20 h21 h22 h23 h24 h25 h26 h27 h28 h29 h30 h31 => ((((((((((((((((((((((((((((((((((((((((((((((((((((((((((((((((((((((((((((((((((((((((B141 i h2).trans (B139 i h2)).trans (B137 i h2)).trans (B135 i h2)).trans (B133 i h2)).trans (B131 i h2)).trans (B129 i h2)).trans (B127 i h2)).trans (B125 i h2)).trans (B123 i h2)).trans (B121 i h2)).trans (B119 i h1)).trans (B117 i h1)).trans (B115 i h1)).trans (B113 i h1)).trans (B111 i h1)).trans (B109 i h1)).trans (B107 i h1)).trans (B105 i h1)).trans (B103 i h1)).trans (B101 i h1)).trans (B99 i h1)).trans (B97 i h1)).trans (B96 i h0)).trans (B95 i h0)).trans (B93 i h31)).trans (B92 i h0)).trans (B90 i h30)).trans (B89 i h0)).trans (B87 i h29)).trans (B86 i h0)).trans (B84 i h28)).trans (B83 i h0)).trans (B81 i h27)).trans (B80 i h0)).trans (B78 i h26)).trans (B77 i h0)).trans (B75 i h25)).trans (B74 i h0)).trans (B72 i h24)).trans (B71 i h0)).trans (B69 i h23)).trans (B68 i h0)).trans (B67 i h0)).trans (B65 i h22)).trans (B64 i h0)).trans (B62 i h21)).trans (B61 i h0)).trans (B59 i h20)).trans (B58 i h0)).trans (B56 i h19)).trans (B55 i h0)).trans (B53 i h18)).trans (B52 i h0)).trans (B50 i h17)).trans (B49 i h0)).trans (B47 i h16)).trans (B46 i h0)).trans (B44 i h15)).trans (B43 i h0)).trans (B41 i h14)).trans (B40 i h0)).trans (B38 i h13)).trans (B37 i h0)).trans (B35 i h12)).trans (B34 i h0)).trans (B32 i h11)).trans (B31 i h0)).trans (B29 i h10)).trans (B28 i h0)).trans (B26 i h9)).trans (B25 i h0)).trans (B23 i h8)).trans (B22 i h0)).trans (B20 i h7)).trans (B19 i h0)).trans (B17 i h6)).trans (B16 i h0)).trans (B14 i h5)).trans (B13 i h0)).trans (B11 i h4)).trans (B10 i h0)).trans (B8 i h3)).trans (B7 i h0)).trans (B6 i h0)).trans (B4 i h2)).trans (B3 i h0)).trans (B1 i h1)), F142, ((((((((((((B141 31 (by decide)).trans (B139 31 (by decide))).trans (B137 31 (by decide))).trans (B135 31 (by decide))).trans (B133 31 (by decide))).trans (B131 31 (by decide))).trans (B129 31 (by decide))).trans (B127 31 (by decide))).trans (B125 31 (by decide))).trans (B123 31 (by decide))).trans (B121 31 (by decide))).trans N119), N141, (((((((((((((((((((((((((((((((((((((((((((((((((((((((((((((((((((((((((((((((((((B141 39 (by decide)).trans (B139 39 (by decide))).trans (B137 39 (by decide))).trans (B135 39 (by decide))).trans (B133 39 (by decide))).trans (B131 39 (by decide))).trans (B129 39 (by decide))).trans (B127 39 (by decide))).trans (B125 39 (by decide))).trans (B123 39 (by decide))).trans (B121 39 (by decide))).trans (B119 39 (by decide))).trans (B117 39 (by decide))).trans (B115 39 (by decide))).trans (B113 39 (by decide))).trans (B111 39 (by decide))).trans (B109 39 (by decide))).trans (B107 39 (by decide))).trans (B105 39 (by decide))).trans (B103 39 (by decide))).trans (B101 39 (by decide))).trans (B99 39 (by decide))).trans (B97 39 (by decide))).trans (B96 39 (by decide))).trans (B95 39 (by decide))).trans (B93 39 (by decide))).trans (B92 39 (by decide))).trans (B90 39 (by decide))).trans (B89 39 (by decide))).trans (B87 39 (by decide))).trans (B86 39 (by decide))).trans (B84 39 (by decide))).trans (B83 39 (by decide))).trans (B81 39 (by decide))).trans (B80 39 (by decide))).trans (B78 39 (by decide))).trans (B77 39 (by decide))).trans (B75 39 (by decide))).trans (B74 39 (by decide))).trans (B72 39 (by decide))).trans (B71 39 (by decide))).trans (B69 39 (by decide))).trans (B68 39 (by decide))).trans (B67 39 (by decide))).trans (B65 39 (by decide))).trans (B64 39 (by decide))).trans (B62 39 (by decide))).trans (B61 39 (by decide))).trans (B59 39 (by decide))).trans (B58 39 (by decide))).trans (B56 39 (by decide))).trans (B55 39 (by decide))).trans (B53 39 (by decide))).trans (B52 39 (by decide))).trans (B50 39 (by decide))).trans (B49 39 (by decide))).trans (B47 39 (by decide))).trans (B46 39 (by decide))).trans (B44 39 (by decide))).trans (B43 39 (by decide))).trans (B41 39 (by decide))).trans (B40 39 (by decide))).trans (B38 39 (by decide))).trans (B37 39 (by decide))).trans (B35 39 (by decide))).trans (B34 39 (by decide))).trans (B32 39 (by decide))).trans (B31 39 (by decide))).trans (B29 39 (by decide))).trans (B28 39 (by decide))).trans (B26 39 (by decide))).trans (B25 39 (by decide))).trans (B23 39 (by decide))).trans (B22 39 (by decide))).trans (B20 39 (by decide))).trans (B19 39 (by decide))).trans (B17 39 (by decide))).trans (B16 39 (by decide))).trans (B14 39 (by decide))).trans (B13 39 (by decide))).trans (B11 39 (by decide))).trans (B10 39 (by decide))).trans N8), (((((((((((((((((((((((((((((((((((((((((((((((((((((((((((((((((((((((((((((((((B141 40 (by decide)).trans (B139 40 (by decide))).trans (B137 40 (by decide))).trans (B135 40 (by decide))).trans (B133 40 (by decide))).trans (B131 40 (by decide))).trans (B129 40 (by decide))).trans (B127 40 (by decide))).trans (B125 40 (by decide))).trans (B123 40 (by decide))).trans (B121 40 (by decide))).trans (B119 40 (by decide))).trans (B117 40 (by decide))).trans (B115 40 (by decide))).trans (B113 40 (by decide))).trans (B111 40 (by decide))).trans (B109 40 (by decide))).trans (B107 40 (by decide))).trans (B105 40 (by decide))).trans (B103 40 (by decide))).trans (B101 40 (by decide))).trans (B99 40 (by decide))).trans (B97 40 (by decide))).trans (B96 40 (by decide))).trans (B95 40 (by decide))).trans (B93 40 (by decide))).trans (B92 40 (by decide))).trans (B90 40 (by decide))).trans (B89 40 (by decide))).trans (B87 40 (by decide))).trans (B86 40 (by decide))).trans (B84 40 (by decide))).trans (B83 40 (by decide))).trans (B81 40 (by decide))).trans (B80 40 (by decide))).trans (B78 40 (by decide))).trans (B77 40 (by decide))).trans (B75 40 (by decide))).trans (B74 40 (by decide))).trans (B72 40 (by decide))).trans (B71 40 (by decide))).trans (B69 40 (by decide))).trans (B68 40 (by decide))).trans (B67 40 (by decide))).trans (B65 40 (by decide))).trans (B64 40 (by decide))).trans (B62 40 (by decide))).trans (B61 40 (by decide))).trans (B59 40 (by decide))).trans (B58 40 (by decide))).trans (B56 40 (by decide))).trans (B55 40 (by decide))).trans (B53 40 (by decide))).trans (B52 40 (by decide))).trans (B50 40 (by decide))).trans (B49 40 (by decide))).trans (B47 40 (by decide))).trans (B46 40 (by decide))).trans (B44 40 (by decide))).trans (B43 40 (by decide))).trans (B41 40 (by decide))).trans (B40 40 (by decide))).trans (B38 40 (by decide))).trans (B37 40 (by decide))).trans (B35 40 (by decide))).trans (B34 40 (by decide))).trans (B32 40 (by decide))).trans (B31 40 (by decide))).trans (B29 40 (by decide))).trans (B28 40 (by decide))).trans (B26 40 (by decide))).trans (B25 40 (by decide))).trans (B23 40 (by decide))).trans (B22 40 (by decide))).trans (B20 40 (by decide))).trans (B19 40 (by decide))).trans (B17 40 (by decide))).trans (B16 40 (by decide))).trans (B14 40 (by decide))).trans (B13 40 (by decide))).trans N11), (((((((((((((((((((((((((((((((((((((((((((((((((((((((((((((((((((((((((((((((B141 41 (by decide)).trans (B139 41 (by decide))).trans (B137 41 (by decide))).trans (B135 41 (by decide))).trans (B133 41 (by decide))).trans (B131 41 (by decide))).trans (B129 41 (by decide))).trans (B127 41 (by decide))).trans (B125 41 (by decide))).trans (B123 41 (by decide))).trans (B121 41 (by decide))).trans (B119 41 (by decide))).trans (B117 41 (by decide))).trans (B115 41 (by decide))).trans (B113 41 (by decide))).trans (B111 41 (by decide))).trans (B109 41 (by decide))).trans (B107 41 (by decide))).trans (B105 41 (by decide))).trans (B103 41 (by decide))).trans (B101 41 (by decide))).trans (B99 41 (by decide))).trans (B97 41 (by decide))).trans (B96 41 (by decide))).trans (B95 41 (by decide))).trans (B93 41 (by decide))).trans (B92 41 (by decide))).trans (B90 41 (by decide))).trans (B89 41 (by decide))).trans (B87 41 (by decide))).trans (B86 41 (by decide))).trans (B84 41 (by decide))).trans (B83 41 (by decide))).trans (B81 41 (by decide))).trans (B80 41 (by decide))).trans (B78 41 (by decide))).trans (B77 41 (by decide))).trans (B75 41 (by decide))).trans (B74 41 (by decide))).trans (B72 41 (by decide))).trans (B71 41 (by decide))).trans (B69 41 (by decide))).trans (B68 41 (by decide))).trans (B67 41 (by decide))).trans (B65 41 (by decide))).trans (B64 41 (by decide))).trans (B62 41 (by decide))).trans (B61 41 (by decide))).trans (B59 41 (by decide))).trans (B58 41 (by decide))).trans (B56 41 (by decide))).trans (B55 41 (by decide))).trans (B53 41 (by decide))).trans (B52 41 (by decide))).trans (B50 41 (by decide))).trans (B49 41 (by decide))).trans (B47 41 (by decide))).trans (B46 41 (by decide))).trans (B44 41 (by decide))).trans (B43 41 (by decide))).trans (B41 41 (by decide))).trans (B40 41 (by decide))).trans (B38 41 (by decide))).trans (B37 41 (by decide))).trans (B35 41 (by decide))).trans (B34 41 (by decide))).trans (B32 41 (by decide))).trans (B31 41 (by decide))).trans (B29 41 (by decide))).trans (B28 41 (by decide))).trans (B26 41 (by decide))).trans (B25 41 (by decide))).trans (B23 41 (by decide))).trans (B22 41 (by decide))).trans (B20 41 (by decide))).trans (B19 41 (by decide))).trans (B17 41 (by decide))).trans (B16 41 (by decide))).trans N14), (((((((((((((((((((((((((((((((((((((((((((((((((((((((((((((((((((((((((((((B141 42 (by decide)).trans (B139 42 (by decide))).trans (B137 42 (by decide))).trans (B135 42 (by decide))).trans (B133 42 (by decide))).trans (B131 42 (by decide))).trans (B129 42 (by decide))).trans (B127 42 (by decide))).trans (B125 42 (by decide))).trans (B123 42 (by decide))).trans (B121 42 (by decide))).trans (B119 42 (by decide))).trans (B117 42 (by decide))).trans (B115 42 (by decide))).trans (B113 42 (by decide))).trans (B111 42 (by decide))).trans (B109 42 (by decide))).trans (B107 42 (by decide))).trans (B105 42 (by decide))).trans (B103 42 (by decide))).trans (B101 42 (by decide))).trans (B99 42 (by decide))).trans (B97 42 (by decide))).trans (B96 42 (by decide))).trans (B95 42 (by decide))).trans (B93 42 (by decide))).trans (B92 42 (by decide))).trans (B90 42 (by decide))).trans (B89 42 (by decide))).trans (B87 42 (by decide))).trans (B86 42 (by decide))).trans (B84 42 (by decide))).trans (B83 42 (by decide))).trans (B81 42 (by decide))).trans (B80 42 (by decide))).trans (B78 42 (by decide))).trans (B77 42 (by decide))).trans (B75 42 (by decide))).trans (B74 42 (by decide))).trans (B72 42 (by decide))).trans (B71 42 (by decide))).trans (B69 42 (by decide))).trans (B68 42 (by decide))).trans (B67 42 (by decide))).trans (B65 42 (by decide))).trans (B64 42 (by decide))).trans (B62 42 (by decide))).trans (B61 42 (by decide))).trans (B59 42 (by decide))).trans (B58 42 (by decide))).trans (B56 42 (by decide))).trans (B55 42 (by decide))).trans (B53 42 (by decide))).trans (B52 42 (by decide))).trans (B50 42 (by decide))).trans (B49 42 (by decide))).trans (B47 42 (by decide))).trans (B46 42 (by decide))).trans (B44 42 (by decide))).trans (B43 42 (by decide))).trans (B41 42 (by decide))).trans (B40 42 (by decide))).trans (B38 42 (by decide))).trans (B37 42 (by decide))).trans (B35 42 (by decide))).trans (B34 42 (by decide))).trans (B32 42 (by decide))).trans (B31 42 (by decide))).trans (B29 42 (by decide))).trans (B28 42 (by decide))).trans (B26 42 (by decide))).trans (B25 42 (by decide))).trans (B23 42 (by decide))).trans (B22 42 (by decide))).trans (B20 42 (by decide))).trans (B19 42 (by decide))).trans N17), (((((((((((((((((((((((((((((((((((((((((((((((((((((((((((((((((((((((((((B141 43 (by decide)).trans (B139 43 (by decide))).trans (B137 43 (by decide))).trans (B135 43 (by decide))).trans (B133 43 (by decide))).trans (B131 43 (by decide))).trans (B129 43 (by decide))).trans (B127 43 (by decide))).trans (B125 43 (by decide))).trans (B123 43 (by decide))).trans (B121 43 (by decide))).trans (B119 43 (by decide))).trans (B117 43 (by decide))).trans (B115 43 (by decide))).trans (B113 43 (by decide))).trans (B111 43 (by decide))).trans (B109 43 (by decide))).trans (B107 43 (by decide))).trans (B105 43 (by decide))).trans (B103 43 (by decide))).trans (B101 43 (by decide))).trans (B99 43 (by decide))).trans (B97 43 (by decide))).trans (B96 43 (by decide))).trans (B95 43 (by decide))).trans (B93 43 (by decide))).trans (B92 43 (by decide))).trans (B90 43 (by decide))).trans (B89 43 (by decide))).trans (B87 43 (by decide))).trans (B86 43 (by decide))).trans (B84 43 (by decide))).trans (B83 43 (by decide))).trans (B81 43 (by decide))).trans (B80 43 (by decide))).trans (B78 43 (by decide))).trans (B77 43 (by decide))).trans (B75 43 (by decide))).trans (B74 43 (by decide))).trans (B72 43 (by decide))).trans (B71 43 (by decide))).trans (B69 43 (by decide))).trans (B68 43 (by decide))).trans (B67 43 (by decide))).trans (B65 43 (by decide))).trans (B64 43 (by decide))).trans (B62 43 (by decide))).trans (B61 43 (by decide))).trans (B59 43 (by decide))).trans (B58 43 (by decide))).trans (B56 43 (by decide))).trans (B55 43 (by decide))).trans (B53 43 (by decide))).trans (B52 43 (by decide))).trans (B50 43 (by decide))).trans (B49 43 (by decide))).trans (B47 43 (by decide))).trans (B46 43 (by decide))).trans (B44 43 (by decide))).trans (B43 43 (by decide))).trans (B41 43 (by decide))).trans (B40 43 (by decide))).trans (B38 43 (by decide))).trans (B37 43 (by decide))).trans (B35 43 (by decide))).trans (B34 43 (by decide))).trans (B32 43 (by decide))).trans (B31 43 (by decide))).trans (B29 43 (by decide))).trans (B28 43 (by decide))).trans (B26 43 (by decide))).trans (B25 43 (by decide))).trans (B23 43 (by decide))).trans (B22 43 (by decide))).trans N20), (((((((((((((((((((((((((((((((((((((((((((((((((((((((((((((((((((((((((B141 44 (by decide)).trans (B139 44 (by decide))).trans (B137 44 (by decide))).trans (B135 44 (by decide))).trans (B133 44 (by decide))).trans (B131 44 (by decide))).trans (B129 44 (by decide))).trans (B127 44 (by decide))).trans (B125 44 (by decide))).trans (B123 44 (by decide))).trans (B121 44 (by decide))).trans (B119 44 (by decide))).trans (B117 44 (by decide))).trans (B115 44 (by decide))).trans (B113 44 (by decide))).trans (B111 44 (by decide))).trans (B109 44 (by decide))).trans (B107 44 (by decide))).trans (B105 44 (by decide))).trans (B103 44 (by decide))).trans (B101 44 (by decide))).trans (B99 44 (by decide))).trans (B97 44 (by decide))).trans (B96 44 (by decide))).trans (B95 44 (by decide))).trans (B93 44 (by decide))).trans (B92 44 (by decide))).trans (B90 44 (by decide))).trans (B89 44 (by decide))).trans (B87 44 (by decide))).trans (B86 44 (by decide))).trans (B84 44 (by decide))).trans (B83 44 (by decide))).trans (B81 44 (by decide))).trans (B80 44 (by decide))).trans (B78 44 (by decide))).trans (B77 44 (by decide))).trans (B75 44 (by decide))).trans (B74 44 (by decide))).trans (B72 44 (by decide))).trans (B71 44 (by decide))).trans (B69 44 (by decide))).trans (B68 44 (by decide))).trans (B67 44 (by decide))).trans (B65 44 (by decide))).trans (B64 44 (by decide))).trans (B62 44 (by decide))).trans (B61 44 (by decide))).trans (B59 44 (by decide))).trans (B58 44 (by decide))).trans (B56 44 (by decide))).trans (B55 44 (by decide))).trans (B53 44 (by decide))).trans (B52 44 (by decide))).trans (B50 44 (by decide))).trans (B49 44 (by decide))).trans (B47 44 (by decide))).trans (B46 44 (by decide))).trans (B44 44 (by decide))).trans (B43 44 (by decide))).trans (B41 44 (by decide))).trans (B40 44 (by decide))).trans (B38 44 (by decide))).trans (B37 44 (by decide))).trans (B35 44 (by decide))).trans (B34 44 (by decide))).trans (B32 44 (by decide))).trans (B31 44 (by decide))).trans (B29 44 (by decide))).trans (B28 44 (by decide))).trans (B26 44 (by decide))).trans (B25 44 (by decide))).trans N23), (((((((((((((((((((((((((((((((((((((((((((((((((((((((((((((((((((((((B141 45 (by decide)).trans (B139 45 (by decide))).trans (B137 45 (by decide))).trans (B135 45 (by decide))).trans (B133 45 (by decide))).trans (B131 45 (by decide))).trans (B129 45 (by decide))).trans (B127 45 (by decide))).trans (B125 45 (by decide))).trans (B123 45 (by decide))).trans (B121 45 (by decide))).trans (B119 45 (by decide))).trans (B117 45 (by decide))).trans (B115 45 (by decide))).trans (B113 45 (by decide))).trans (B111 45 (by decide))).trans (B109 45 (by decide))).trans (B107 45 (by decide))).trans (B105 45 (by decide))).trans (B103 45 (by decide))).trans (B101 45 (by decide))).trans (B99 45 (by decide))).trans (B97 45 (by decide))).trans (B96 45 (by decide))).trans (B95 45 (by decide))).trans (B93 45 (by decide))).trans (B92 45 (by decide))).trans (B90 45 (by decide))).trans (B89 45 (by decide))).trans (B87 45 (by decide))).trans (B86 45 (by decide))).trans (B84 45 (by decide))).trans (B83 45 (by decide))).trans (B81 45 (by decide))).trans (B80 45 (by decide))).trans (B78 45 (by decide))).trans (B77 45 (by decide))).trans (B75 45 (by decide))).trans (B74 45 (by decide))).trans (B72 45 (by decide))).trans (B71 45 (by decide))).trans (B69 45 (by decide))).trans (B68 45 (by decide))).trans (B67 45 (by decide))).trans (B65 45 (by decide))).trans (B64 45 (by decide))).trans (B62 45 (by decide))).trans (B61 45 (by decide))).trans (B59 45 (by decide))).trans (B58 45 (by decide))).trans (B56 45 (by decide))).trans (B55 45 (by decide))).trans (B53 45 (by decide))).trans (B52 45 (by decide))).trans (B50 45 (by decide))).trans (B49 45 (by decide))).trans (B47 45 (by decide))).trans (B46 45 (by decide))).trans (B44 45 (by decide))).trans (B43 45 (by decide))).trans (B41 45 (by decide))).trans (B40 45 (by decide))).trans (B38 45 (by decide))).trans (B37 45 (by decide))).trans (B35 45 (by decide))).trans (B34 45 (by decide))).trans (B32 45 (by decide))).trans (B31 45 (by decide))).trans (B29 45 (by decide))).trans (B28 45 (by decide))).trans N26), (((((((((((((((((((((((((((((((((((((((((((((((((((((((((((((((((((((B141 46 (by decide)).trans (B139 46 (by decide))).trans (B137 46 (by decide))).trans (B135 46 (by decide))).trans (B133 46 (by decide))).trans (B131 46 (by decide))).trans (B129 46 (by decide))).trans (B127 46 (by decide))).trans (B125 46 (by decide))).trans (B123 46 (by decide))).trans (B121 46 (by decide))).trans (B119 46 (by decide))).trans (B117 46 (by decide))).trans (B115 46 (by decide))).trans (B113 46 (by decide))).trans (B111 46 (by decide))).trans (B109 46 (by decide))).trans (B107 46 (by decide))).trans (B105 46 (by decide))).trans (B103 46 (by decide))).trans (B101 46 (by decide))).trans (B99 46 (by decide))).trans (B97 46 (by decide))).trans (B96 46 (by decide))).trans (B95 46 (by decide))).trans (B93 46 (by decide))).trans (B92 46 (by decide))).trans (B90 46 (by decide))).trans (B89 46 (by decide))).trans (B87 46 (by decide))).trans (B86 46 (by decide))).trans (B84 46 (by decide))).trans (B83 46 (by decide))).trans (B81 46 (by decide))).trans (B80 46 (by decide))).trans (B78 46 (by decide))).trans (B77 46 (by decide))).trans (B75 46 (by decide))).trans (B74 46 (by decide))).trans (B72 46 (by decide))).trans (B71 46 (by decide))).trans (B69 46 (by decide))).trans (B68 46 (by decide))).trans (B67 46 (by decide))).trans (B65 46 (by decide))).trans (B64 46 (by decide))).trans (B62 46 (by decide))).trans (B61 46 (by decide))).trans (B59 46 (by decide))).trans (B58 46 (by decide))).trans (B56 46 (by decide))).trans (B55 46 (by decide))).trans (B53 46 (by decide))).trans (B52 46 (by decide))).trans (B50 46 (by decide))).trans (B49 46 (by decide))).trans (B47 46 (by decide))).trans (B46 46 (by decide))).trans (B44 46 (by decide))).trans (B43 46 (by decide))).trans (B41 46 (by decide))).trans (B40 46 (by decide))).trans (B38 46 (by decide))).trans (B37 46 (by decide))).trans (B35 46 (by decide))).trans (B34 46 (by decide))).trans (B32 46 (by decide))).trans (B31 46 (by decide))).trans N29), (((((((((((((((((((((((((((((((((((((((((((((((((((((((((((((((((((B141 47 (by decide)).trans (B139 47 (by decide))).trans (B137 47 (by decide))).trans (B135 47 (by decide))).trans (B133 47 (by decide))).trans (B131 47 (by decide))).trans (B129 47 (by decide))).trans (B127 47 (by decide))).trans (B125 47 (by decide))).trans (B123 47 (by decide))).trans (B121 47 (by decide))).trans (B119 47 (by decide))).trans (B117 47 (by decide))).trans (B115 47 (by decide))).trans (B113 47 (by decide))).trans (B111 47 (by decide))).trans (B109 47 (by decide))).trans (B107 47 (by decide))).trans (B105 47 (by decide))).trans (B103 47 (by decide))).trans (B101 47 (by decide))).trans (B99 47 (by decide))).trans (B97 47 (by decide))).trans (B96 47 (by decide))).trans (B95 47 (by decide))).trans (B93 47 (by decide))).trans (B92 47 (by decide))).trans (B90 47 (by decide))).trans (B89 47 (by decide))).trans (B87 47 (by decide))).trans (B86 47 (by decide))).trans (B84 47 (by decide))).trans (B83 47 (by decide))).trans (B81 47 (by decide))).trans (B80 47 (by decide))).trans (B78 47 (by decide))).trans (B77 47 (by decide))).trans (B75 47 (by decide))).trans (B74 47 (by decide))).trans (B72 47 (by decide))).trans (B71 47 (by decide))).trans (B69 47 (by decide))).trans (B68 47 (by decide))).trans (B67 47 (by decide))).trans (B65 47 (by decide))).trans (B64 47 (by decide))).trans (B62 47 (by decide))).trans (B61 47 (by decide))).trans (B59 47 (by decide))).trans (B58 47 (by decide))).trans (B56 47 (by decide))).trans (B55 47 (by decide))).trans (B53 47 (by decide))).trans (B52 47 (by decide))).trans (B50 47 (by decide))).trans (B49 47 (by decide))).trans (B47 47 (by decide))).trans (B46 47 (by decide))).trans (B44 47 (by decide))).trans (B43 47 (by decide))).trans (B41 47 (by decide))).trans (B40 47 (by decide))).trans (B38 47 (by decide))).trans (B37 47 (by decide))).trans (B35 47 (by decide))).trans (B34 47 (by decide))).trans N32), (((((((((((((((((((((((((((((((((((((((((((((((((((((((((((((((((B141 48 (by decide)).trans (B139 48 (by decide))).trans (B137 48 (by decide))).trans (B135 48 (by decide))).trans (B133 48 (by decide))).trans (B131 48 (by decide))).trans (B129 48 (by decide))).trans (B127 48 (by decide))).trans (B125 48 (by decide))).trans (B123 48 (by decide))).trans (B121 48 (by decide))).trans (B119 48 (by decide))).trans (B117 48 (by decide))).trans (B115 48 (by decide))).trans (B113 48 (by decide))).trans (B111 48 (by decide))).trans (B109 48 (by decide))).trans (B107 48 (by decide))).trans (B105 48 (by decide))).trans (B103 48 (by decide))).trans (B101 48 (by decide))).trans (B99 48 (by decide))).trans (B97 48 (by decide))).trans (B96 48 (by decide))).trans (B95 48 (by decide))).trans (B93 48 (by decide))).trans (B92 48 (by decide))).trans (B90 48 (by decide))).trans (B89 48 (by decide))).trans (B87 48 (by decide))).trans (B86 48 (by decide))).trans (B84 48 (by decide))).trans (B83 48 (by decide))).trans (B81 48 (by decide))).trans (B80 48 (by decide))).trans (B78 48 (by decide))).trans (B77 48 (by decide))).trans (B75 48 (by decide))).trans (B74 48 (by decide))).trans (B72 48 (by decide))).trans (B71 48 (by decide))).trans (B69 48 (by decide))).trans (B68 48 (by decide))).trans (B67 48 (by decide))).trans (B65 48 (by decide))).trans (B64 48 (by decide))).trans (B62 48 (by decide))).trans (B61 48 (by decide))).trans (B59 48 (by decide))).trans (B58 48 (by decide))).trans (B56 48 (by decide))).trans (B55 48 (by decide))).trans (B53 48 (by decide))).trans (B52 48 (by decide))).trans (B50 48 (by decide))).trans (B49 48 (by decide))).trans (B47 48 (by decide))).trans (B46 48 (by decide))).trans (B44 48 (by decide))).trans (B43 48 (by decide))).trans (B41 48 (by decide))).trans (B40 48 (by decide))).trans (B38 48 (by decide))).trans (B37 48 (by decide))).trans N35), (((((((((((((((((((((((((((((((((((((((((((((((((((((((((((((((B141 49 (by decide)).trans (B139 49 (by decide))).trans (B137 49 (by decide))).trans (B135 49 (by decide))).trans (B133 49 (by decide))).trans (B131 49 (by decide))).trans (B129 49 (by decide))).trans (B127 49 (by decide))).trans (B125 49 (by decide))).trans (B123 49 (by decide))).trans (B121 49 (by decide))).trans (B119 49 (by decide))).trans (B117 49 (by decide))).trans (B115 49 (by decide))).trans (B113 49 (by decide))).trans (B111 49 (by decide))).trans (B109 49 (by decide))).trans (B107 49 (by decide))).trans (B105 49 (by decide))).trans (B103 49 (by decide))).trans (B101 49 (by decide))).trans (B99 49 (by decide))).trans (B97 49 (by decide))).trans (B96 49 (by decide))).trans (B95 49 (by decide))).trans (B93 49 (by decide))).trans (B92 49 (by decide))).trans (B90 49 (by decide))).trans (B89 49 (by decide))).trans (B87 49 (by decide))).trans (B86 49 (by decide))).trans (B84 49 (by decide))).trans (B83 49 (by decide))).trans (B81 49 (by decide))).trans (B80 49 (by decide))).trans (B78 49 (by decide))).trans (B77 49 (by decide))).trans (B75 49 (by decide))).trans (B74 49 (by decide))).trans (B72 49 (by decide))).trans (B71 49 (by decide))).trans (B69 49 (by decide))).trans (B68 49 (by decide))).trans (B67 49 (by decide))).trans (B65 49 (by decide))).trans (B64 49 (by decide))).trans (B62 49 (by decide))).trans (B61 49 (by decide))).trans (B59 49 (by decide))).trans (B58 49 (by decide))).trans (B56 49 (by decide))).trans (B55 49 (by decide))).trans (B53 49 (by decide))).trans (B52 49 (by decide))).trans (B50 49 (by decide))).trans (B49 49 (by decide))).trans (B47 49 (by decide))).trans (B46 49 (by decide))).trans (B44 49 (by decide))).trans (B43 49 (by decide))).trans (B41 49 (by decide))).trans (B40 49 (by decide))).trans N38), (((((((((((((((((((((((((((((((((((((((((((((((((((((((((((((B141 50 (by decide)).trans (B139 50 (by decide))).trans (B137 50 (by decide))).trans (B135 50 (by decide))).trans (B133 50 (by decide))).trans (B131 50 (by decide))).trans (B129 50 (by decide))).trans (B127 50 (by decide))).trans (B125 50 (by decide))).trans (B123 50 (by decide))).trans (B121 50 (by decide))).trans (B119 50 (by decide))).trans (B117 50 (by decide))).trans (B115 50 (by decide))).trans (B113 50 (by decide))).trans (B111 50 (by decide))).trans (B109 50 (by decide))).trans (B107 50 (by decide))).trans (B105 50 (by decide))).trans (B103 50 (by decide))).trans (B101 50 (by decide))).trans (B99 50 (by decide))).trans (B97 50 (by decide))).trans (B96 50 (by decide))).trans (B95 50 (by decide))).trans (B93 50 (by decide))).trans (B92 50 (by decide))).trans (B90 50 (by decide))).trans (B89 50 (by decide))).trans (B87 50 (by decide))).trans (B86 50 (by decide))).trans (B84 50 (by decide))).trans (B83 50 (by decide))).trans (B81 50 (by decide))).trans (B80 50 (by decide))).trans (B78 50 (by decide))).trans (B77 50 (by decide))).trans (B75 50 (by decide))).trans (B74 50 (by decide))).trans (B72 50 (by decide))).trans (B71 50 (by decide))).trans (B69 50 (by decide))).trans (B68 50 (by decide))).trans (B67 50 (by decide))).trans (B65 50 (by decide))).trans (B64 50 (by decide))).trans (B62 50 (by decide))).trans (B61 50 (by decide))).trans (B59 50 (by decide))).trans (B58 50 (by decide))).trans (B56 50 (by decide))).trans (B55 50 (by decide))).trans (B53 50 (by decide))).trans (B52 50 (by decide))).trans (B50 50 (by decide))).trans (B49 50 (by decide))).trans (B47 50 (by decide))).trans (B46 50 (by decide))).trans (B44 50 (by decide))).trans (B43 50 (by decide))).trans N41), (((((((((((((((((((((((((((((((((((((((((((((((((((((((((((B141 51 (by decide)).trans (B139 51 (by decide))).trans (B137 51 (by decide))).trans (B135 51 (by decide))).trans (B133 51 (by decide))).trans (B131 51 (by decide))).trans (B129 51 (by decide))).trans (B127 51 (by decide))).trans (B125 51 (by decide))).trans (B123 51 (by decide))).trans (B121 51 (by decide))).trans (B119 51 (by decide))).trans (B117 51 (by decide))).trans (B115 51 (by decide))).trans (B113 51 (by decide))).trans (B111 51 (by decide))).trans (B109 51 (by decide))).trans (B107 51 (by decide))).trans (B105 51 (by decide))).trans (B103 51 (by decide))).trans (B101 51 (by decide))).trans (B99 51 (by decide))).trans (B97 51 (by decide))).trans (B96 51 (by decide))).trans (B95 51 (by decide))).trans (B93 51 (by decide))).trans (B92 51 (by decide))).trans (B90 51 (by decide))).trans (B89 51 (by decide))).trans (B87 51 (by decide))).trans (B86 51 (by decide))).trans (B84 51 (by decide))).trans (B83 51 (by decide))).trans (B81 51 (by decide))).trans (B80 51 (by decide))).trans (B78 51 (by decide))).trans (B77 51 (by decide))).trans (B75 51 (by decide))).trans (B74 51 (by decide))).trans (B72 51 (by decide))).trans (B71 51 (by decide))).trans (B69 51 (by decide))).trans (B68 51 (by decide))).trans (B67 51 (by decide))).trans (B65 51 (by decide))).trans (B64 51 (by decide))).trans (B62 51 (by decide))).trans (B61 51 (by decide))).trans (B59 51 (by decide))).trans (B58 51 (by decide))).trans (B56 51 (by decide))).trans (B55 51 (by decide))).trans (B53 51 (by decide))).trans (B52 51 (by decide))).trans (B50 51 (by decide))).trans (B49 51 (by decide))).trans (B47 51 (by decide))).trans (B46 51 (by decide))).trans N44), (((((((((((((((((((((((((((((((((((((((((((((((((((((((((B141 52 (by decide)).trans (B139 52 (by decide))).trans (B137 52 (by decide))).trans (B135 52 (by decide))).trans (B133 52 (by decide))).trans (B131 52 (by decide))).trans (B129 52 (by decide))).trans (B127 52 (by decide))).trans (B125 52 (by decide))).trans (B123 52 (by decide))).trans (B121 52 (by decide))).trans (B119 52 (by decide))).trans (B117 52 (by decide))).trans (B115 52 (by decide))).trans (B113 52 (by decide))).trans (B111 52 (by decide))).trans (B109 52 (by decide))).trans (B107 52 (by decide))).trans (B105 52 (by decide))).trans (B103 52 (by decide))).trans (B101 52 (by decide))).trans (B99 52 (by decide))).trans (B97 52 (by decide))).trans (B96 52 (by decide))).trans (B95 52 (by decide))).trans (B93 52 (by decide))).trans (B92 52 (by decide))).trans (B90 52 (by decide))).trans (B89 52 (by decide))).trans (B87 52 (by decide))).trans (B86 52 (by decide))).trans (B84 52 (by decide))).trans (B83 52 (by decide))).trans (B81 52 (by decide))).trans (B80 52 (by decide))).trans (B78 52 (by decide))).trans (B77 52 (by decide))).trans (B75 52 (by decide))).trans (B74 52 (by decide))).trans (B72 52 (by decide))).trans (B71 52 (by decide))).trans (B69 52 (by decide))).trans (B68 52 (by decide))).trans (B67 52 (by decide))).trans (B65 52 (by decide))).trans (B64 52 (by decide))).trans (B62 52 (by decide))).trans (B61 52 (by decide))).trans (B59 52 (by decide))).trans (B58 52 (by decide))).trans (B56 52 (by decide))).trans (B55 52 (by decide))).trans (B53 52 (by decide))).trans (B52 52 (by decide))).trans (B50 52 (by decide))).trans (B49 52 (by decide))).trans N47), (((((((((((((((((((((((((((((((((((((((((((((((((((((((B141 53 (by decide)).trans (B139 53 (by decide))).trans (B137 53 (by decide))).trans (B135 53 (by decide))).trans (B133 53 (by decide))).trans (B131 53 (by decide))).trans (B129 53 (by decide))).trans (B127 53 (by decide))).trans (B125 53 (by decide))).trans (B123 53 (by decide))).trans (B121 53 (by decide))).trans (B119 53 (by decide))).trans (B117 53 (by decide))).trans (B115 53 (by decide))).trans (B113 53 (by decide))).trans (B111 53 (by decide))).trans (B109 53 (by decide))).trans (B107 53 (by decide))).trans (B105 53 (by decide))).trans (B103 53 (by decide))).trans (B101 53 (by decide))).trans (B99 53 (by decide))).trans (B97 53 (by decide))).trans (B96 53 (by decide))).trans (B95 53 (by decide))).trans (B93 53 (by decide))).trans (B92 53 (by decide))).trans (B90 53 (by decide))).trans (B89 53 (by decide))).trans (B87 53 (by decide))).trans (B86 53 (by decide))).trans (B84 53 (by decide))).trans (B83 53 (by decide))).trans (B81 53 (by decide))).trans (B80 53 (by decide))).trans (B78 53 (by decide))).trans (B77 53 (by decide))).trans (B75 53 (by decide))).trans (B74 53 (by decide))).trans (B72 53 (by decide))).trans (B71 53 (by decide))).trans (B69 53 (by decide))).trans (B68 53 (by decide))).trans (B67 53 (by decide))).trans (B65 53 (by decide))).trans (B64 53 (by decide))).trans (B62 53 (by decide))).trans (B61 53 (by decide))).trans (B59 53 (by decide))).trans (B58 53 (by decide))).trans (B56 53 (by decide))).trans (B55 53 (by decide))).trans (B53 53 (by decide))).trans (B52 53 (by decide))).trans N50), (((((((((((((((((((((((((((((((((((((((((((((((((((((B141 54 (by decide)).trans (B139 54 (by decide))).trans (B137 54 (by decide))).trans (B135 54 (by decide))).trans (B133 54 (by decide))).trans (B131 54 (by decide))).trans (B129 54 (by decide))).trans (B127 54 (by decide))).trans (B125 54 (by decide))).trans (B123 54 (by decide))).trans (B121 54 (by decide))).trans (B119 54 (by decide))).trans (B117 54 (by decide))).trans (B115 54 (by decide))).trans (B113 54 (by decide))).trans (B111 54 (by decide))).trans (B109 54 (by decide))).trans (B107 54 (by decide))).trans (B105 54 (by decide))).trans (B103 54 (by decide))).trans (B101 54 (by decide))).trans (B99 54 (by decide))).trans (B97 54 (by decide))).trans (B96 54 (by decide))).trans (B95 54 (by decide))).trans (B93 54 (by decide))).trans (B92 54 (by decide))).trans (B90 54 (by decide))).trans (B89 54 (by decide))).trans (B87 54 (by decide))).trans (B86 54 (by decide))).trans (B84 54 (by decide))).trans (B83 54 (by decide))).trans (B81 54 (by decide))).trans (B80 54 (by decide))).trans (B78 54 (by decide))).trans (B77 54 (by decide))).trans (B75 54 (by decide))).trans (B74 54 (by decide))).trans (B72 54 (by decide))).trans (B71 54 (by decide))).trans (B69 54 (by decide))).trans (B68 54 (by decide))).trans (B67 54 (by decide))).trans (B65 54 (by decide))).trans (B64 54 (by decide))).trans (B62 54 (by decide))).trans (B61 54 (by decide))).trans (B59 54 (by decide))).trans (B58 54 (by decide))).trans (B56 54 (by decide))).trans (B55 54 (by decide))).trans N53), (((((((((((((((((((((((((((((((((((((((((((((((((((B141 55 (by decide)).trans (B139 55 (by decide))).trans (B137 55 (by decide))).trans (B135 55 (by decide))).trans (B133 55 (by decide))).trans (B131 55 (by decide))).trans (B129 55 (by decide))).trans (B127 55 (by decide))).trans (B125 55 (by decide))).trans (B123 55 (by decide))).trans (B121 55 (by decide))).trans (B119 55 (by decide))).trans (B117 55 (by decide))).trans (B115 55 (by decide))).trans (B113 55 (by decide))).trans (B111 55 (by decide))).trans (B109 55 (by decide))).trans (B107 55 (by decide))).trans (B105 55 (by decide))).trans (B103 55 (by decide))).trans (B101 55 (by decide))).trans (B99 55 (by decide))).trans (B97 55 (by decide))).trans (B96 55 (by decide))).trans (B95 55 (by decide))).trans (B93 55 (by decide))).trans (B92 55 (by decide))).trans (B90 55 (by decide))).trans (B89 55 (by decide))).trans (B87 55 (by decide))).trans (B86 55 (by decide))).trans (B84 55 (by decide))).trans (B83 55 (by decide))).trans (B81 55 (by decide))).trans (B80 55 (by decide))).trans (B78 55 (by decide))).trans (B77 55 (by decide))).trans (B75 55 (by decide))).trans (B74 55 (by decide))).trans (B72 55 (by decide))).trans (B71 55 (by decide))).trans (B69 55 (by decide))).trans (B68 55 (by decide))).trans (B67 55 (by decide))).trans (B65 55 (by decide))).trans (B64 55 (by decide))).trans (B62 55 (by decide))).trans (B61 55 (by decide))).trans (B59 55 (by decide))).trans (B58 55 (by decide))).trans N56), (((((((((((((((((((((((((((((((((((((((((((((((((B141 56 (by decide)).trans (B139 56 (by decide))).trans (B137 56 (by decide))).trans (B135 56 (by decide))).trans (B133 56 (by decide))).trans (B131 56 (by decide))).trans (B129 56 (by decide))).trans (B127 56 (by decide))).trans (B125 56 (by decide))).trans (B123 56 (by decide))).trans (B121 56 (by decide))).trans (B119 56 (by decide))).trans (B117 56 (by decide))).trans (B115 56 (by decide))).trans (B113 56 (by decide))).trans (B111 56 (by decide))).trans (B109 56 (by decide))).trans (B107 56 (by decide))).trans (B105 56 (by decide))).trans (B103 56 (by decide))).trans (B101 56 (by decide))).trans (B99 56 (by decide))).trans (B97 56 (by decide))).trans (B96 56 (by decide))).trans (B95 56 (by decide))).trans (B93 56 (by decide))).trans (B92 56 (by decide))).trans (B90 56 (by decide))).trans (B89 56 (by decide))).trans (B87 56 (by decide))).trans (B86 56 (by decide))).trans (B84 56 (by decide))).trans (B83 56 (by decide))).trans (B81 56 (by decide))).trans (B80 56 (by decide))).trans (B78 56 (by decide))).trans (B77 56 (by decide))).trans (B75 56 (by decide))).trans (B74 56 (by decide))).trans (B72 56 (by decide))).trans (B71 56 (by decide))).trans (B69 56 (by decide))).trans (B68 56 (by decide))).trans (B67 56 (by decide))).trans (B65 56 (by decide))).trans (B64 56 (by decide))).trans (B62 56 (by decide))).trans (B61 56 (by decide))).trans N59), (((((((((((((((((((((((((((((((((((((((((((((((B141 57 (by decide)).trans (B139 57 (by decide))).trans (B137 57 (by decide))).trans (B135 57 (by decide))).trans (B133 57 (by decide))).trans (B131 57 (by decide))).trans (B129 57 (by decide))).trans (B127 57 (by decide))).trans (B125 57 (by decide))).trans (B123 57 (by decide))).trans (B121 57 (by decide))).trans (B119 57 (by decide))).trans (B117 57 (by decide))).trans (B115 57 (by decide))).trans (B113 57 (by decide))).trans (B111 57 (by decide))).trans (B109 57 (by decide))).trans (B107 57 (by decide))).trans (B105 57 (by decide))).trans (B103 57 (by decide))).trans (B101 57 (by decide))).trans (B99 57 (by decide))).trans (B97 57 (by decide))).trans (B96 57 (by decide))).trans (B95 57 (by decide))).trans (B93 57 (by decide))).trans (B92 57 (by decide))).trans (B90 57 (by decide))).trans (B89 57 (by decide))).trans (B87 57 (by decide))).trans (B86 57 (by decide))).trans (B84 57 (by decide))).trans (B83 57 (by decide))).trans (B81 57 (by decide))).trans (B80 57 (by decide))).trans (B78 57 (by decide))).trans (B77 57 (by decide))).trans (B75 57 (by decide))).trans (B74 57 (by decide))).trans (B72 57 (by decide))).trans (B71 57 (by decide))).trans (B69 57 (by decide))).trans (B68 57 (by decide))).trans (B67 57 (by decide))).trans (B65 57 (by decide))).trans (B64 57 (by decide))).trans N62), (((((((((((((((((((((((((((((((((((((((((((((B141 58 (by decide)).trans (B139 58 (by decide))).trans (B137 58 (by decide))).trans (B135 58 (by decide))).trans (B133 58 (by decide))).trans (B131 58 (by decide))).trans (B129 58 (by decide))).trans (B127 58 (by decide))).trans (B125 58 (by decide))).trans (B123 58 (by decide))).trans (B121 58 (by decide))).trans (B119 58 (by decide))).trans (B117 58 (by decide))).trans (B115 58 (by decide))).trans (B113 58 (by decide))).trans (B111 58 (by decide))).trans (B109 58 (by decide))).trans (B107 58 (by decide))).trans (B105 58 (by decide))).trans (B103 58 (by decide))).trans (B101 58 (by decide))).trans (B99 58 (by decide))).trans (B97 58 (by decide))).trans (B96 58 (by decide))).trans (B95 58 (by decide))).trans (B93 58 (by decide))).trans (B92 58 (by decide))).trans (B90 58 (by decide))).trans (B89 58 (by decide))).trans (B87 58 (by decide))).trans (B86 58 (by decide))).trans (B84 58 (by decide))).trans (B83 58 (by decide))).trans (B81 58 (by decide))).trans (B80 58 (by decide))).trans (B78 58 (by decide))).trans (B77 58 (by decide))).trans (B75 58 (by decide))).trans (B74 58 (by decide))).trans (B72 58 (by decide))).trans (B71 58 (by decide))).trans (B69 58 (by decide))).trans (B68 58 (by decide))).trans (B67 58 (by decide))).trans N65), ((((((((((((((((((((((((((((((((((((((((((B141 64 (by decide)).trans (B139 64 (by decide))).trans (B137 64 (by decide))).trans (B135 64 (by decide))).trans (B133 64 (by decide))).trans (B131 64 (by decide))).trans (B129 64 (by decide))).trans (B127 64 (by decide))).trans (B125 64 (by decide))).trans (B123 64 (by decide))).trans (B121 64 (by decide))).trans (B119 64 (by decide))).trans (B117 64 (by decide))).trans (B115 64 (by decide))).trans (B113 64 (by decide))).trans (B111 64 (by decide))).trans (B109 64 (by decide))).trans (B107 64 (by decide))).trans (B105 64 (by decide))).trans (B103 64 (by decide))).trans (B101 64 (by decide))).trans (B99 64 (by decide))).trans (B97 64 (by decide))).trans (B96 64 (by decide))).trans (B95 64 (by decide))).trans (B93 64 (by decide))).trans (B92 64 (by decide))).trans (B90 64 (by decide))).trans (B89 64 (by decide))).trans (B87 64 (by decide))).trans (B86 64 (by decide))).trans (B84 64 (by decide))).trans (B83 64 (by decide))).trans (B81 64 (by decide))).trans (B80 64 (by decide))).trans (B78 64 (by decide))).trans (B77 64 (by decide))).trans (B75 64 (by decide))).trans (B74 64 (by decide))).trans (B72 64 (by decide))).trans (B71 64 (by decide))).trans N69), ((((((((((((((((((((((((((((((((((((((((B141 65 (by decide)).trans (B139 65 (by decide))).trans (B137 65 (by decide))).trans (B135 65 (by decide))).trans (B133 65 (by decide))).trans (B131 65 (by decide))).trans (B129 65 (by decide))).trans (B127 65 (by decide))).trans (B125 65 (by decide))).trans (B123 65 (by decide))).trans (B121 65 (by decide))).trans (B119 65 (by decide))).trans (B117 65 (by decide))).trans (B115 65 (by decide))).trans (B113 65 (by decide))).trans (B111 65 (by decide))).trans (B109 65 (by decide))).trans (B107 65 (by decide))).trans (B105 65 (by decide))).trans (B103 65 (by decide))).trans (B101 65 (by decide))).trans (B99 65 (by decide))).trans (B97 65 (by decide))).trans (B96 65 (by decide))).trans (B95 65 (by decide))).trans (B93 65 (by decide))).trans (B92 65 (by decide))).trans (B90 65 (by decide))).trans (B89 65 (by decide))).trans (B87 65 (by decide))).trans (B86 65 (by decide))).trans (B84 65 (by decide))).trans (B83 65 (by decide))).trans (B81 65 (by decide))).trans (B80 65 (by decide))).trans (B78 65 (by decide))).trans (B77 65 (by decide))).trans (B75 65 (by decide))).trans (B74 65 (by decide))).trans N72), ((((((((((((((((((((((((((((((((((((((B141 66 (by decide)).trans (B139 66 (by decide))).trans (B137 66 (by decide))).trans (B135 66 (by decide))).trans (B133 66 (by decide))).trans (B131 66 (by decide))).trans (B129 66 (by decide))).trans (B127 66 (by decide))).trans (B125 66 (by decide))).trans (B123 66 (by decide))).trans (B121 66 (by decide))).trans (B119 66 (by decide))).trans (B117 66 (by decide))).trans (B115 66 (by decide))).trans (B113 66 (by decide))).trans (B111 66 (by decide))).trans (B109 66 (by decide))).trans (B107 66 (by decide))).trans (B105 66 (by decide))).trans (B103 66 (by decide))).trans (B101 66 (by decide))).trans (B99 66 (by decide))).trans (B97 66 (by decide))).trans (B96 66 (by decide))).trans (B95 66 (by decide))).trans (B93 66 (by decide))).trans (B92 66 (by decide))).trans (B90 66 (by decide))).trans (B89 66 (by decide))).trans (B87 66 (by decide))).trans (B86 66 (by decide))).trans (B84 66 (by decide))).trans (B83 66 (by decide))).trans (B81 66 (by decide))).trans (B80 66 (by decide))).trans (B78 66 (by decide))).trans (B77 66 (by decide))).trans N75), ((((((((((((((((((((((((((((((((((((B141 67 (by decide)).trans (B139 67 (by decide))).trans (B137 67 (by decide))).trans (B135 67 (by decide))).trans (B133 67 (by decide))).trans (B131 67 (by decide))).trans (B129 67 (by decide))).trans (B127 67 (by decide))).trans (B125 67 (by decide))).trans (B123 67 (by decide))).trans (B121 67 (by decide))).trans (B119 67 (by decide))).trans (B117 67 (by decide))).trans (B115 67 (by decide))).trans (B113 67 (by decide))).trans (B111 67 (by decide))).trans (B109 67 (by decide))).trans (B107 67 (by decide))).trans (B105 67 (by decide))).trans (B103 67 (by decide))).trans (B101 67 (by decide))).trans (B99 67 (by decide))).trans (B97 67 (by decide))).trans (B96 67 (by decide))).trans (B95 67 (by decide))).trans (B93 67 (by decide))).trans (B92 67 (by decide))).trans (B90 67 (by decide))).trans (B89 67 (by decide))).trans (B87 67 (by decide))).trans (B86 67 (by decide))).trans (B84 67 (by decide))).trans (B83 67 (by decide))).trans (B81 67 (by decide))).trans (B80 67 (by decide))).trans N78), ((((((((((((((((((((((((((((((((((B141 68 (by decide)).trans (B139 68 (by decide))).trans (B137 68 (by decide))).trans (B135 68 (by decide))).trans (B133 68 (by decide))).trans (B131 68 (by decide))).trans (B129 68 (by decide))).trans (B127 68 (by decide))).trans (B125 68 (by decide))).trans (B123 68 (by decide))).trans (B121 68 (by decide))).trans (B119 68 (by decide))).trans (B117 68 (by decide))).trans (B115 68 (by decide))).trans (B113 68 (by decide))).trans (B111 68 (by decide))).trans (B109 68 (by decide))).trans (B107 68 (by decide))).trans (B105 68 (by decide))).trans (B103 68 (by decide))).trans (B101 68 (by decide))).trans (B99 68 (by decide))).trans (B97 68 (by decide))).trans (B96 68 (by decide))).trans (B95 68 (by decide))).trans (B93 68 (by decide))).trans (B92 68 (by decide))).trans (B90 68 (by decide))).trans (B89 68 (by decide))).trans (B87 68 (by decide))).trans (B86 68 (by decide))).trans (B84 68 (by decide))).trans (B83 68 (by decide))).trans N81), ((((((((((((((((((((((((((((((((B141 71 (by decide)).trans (B139 71 (by decide))).trans (B137 71 (by decide))).trans (B135 71 (by decide))).trans (B133 71 (by decide))).trans (B131 71 (by decide))).trans (B129 71 (by decide))).trans (B127 71 (by decide))).trans (B125 71 (by decide))).trans (B123 71 (by decide))).trans (B121 71 (by decide))).trans (B119 71 (by decide))).trans (B117 71 (by decide))).trans (B115 71 (by decide))).trans (B113 71 (by decide))).trans (B111 71 (by decide))).trans (B109 71 (by decide))).trans (B107 71 (by decide))).trans (B105 71 (by decide))).trans (B103 71 (by decide))).trans (B101 71 (by decide))).trans (B99 71 (by decide))).trans (B97 71 (by decide))).trans (B96 71 (by decide))).trans (B95 71 (by decide))).trans (B93 71 (by decide))).trans (B92 71 (by decide))).trans (B90 71 (by decide))).trans (B89 71 (by decide))).trans (B87 71 (by decide))).trans (B86 71 (by decide))).trans N84), ((((((((((((((((((((((((((((((B141 72 (by decide)).trans (B139 72 (by decide))).trans (B137 72 (by decide))).trans (B135 72 (by decide))).trans (B133 72 (by decide))).trans (B131 72 (by decide))).trans (B129 72 (by decide))).trans (B127 72 (by decide))).trans (B125 72 (by decide))).trans (B123 72 (by decide))).trans (B121 72 (by decide))).trans (B119 72 (by decide))).trans (B117 72 (by decide))).trans (B115 72 (by decide))).trans (B113 72 (by decide))).trans (B111 72 (by decide))).trans (B109 72 (by decide))).trans (B107 72 (by decide))).trans (B105 72 (by decide))).trans (B103 72 (by decide))).trans (B101 72 (by decide))).trans (B99 72 (by decide))).trans (B97 72 (by decide))).trans (B96 72 (by decide))).trans (B95 72 (by decide))).trans (B93 72 (by decide))).trans (B92 72 (by decide))).trans (B90 72 (by decide))).trans (B89 72 (by decide))).trans N87), ((((((((((((((((((((((((((((B141 73 (by decide)).trans (B139 73 (by decide))).trans (B137 73 (by decide))).trans (B135 73 (by decide))).trans (B133 73 (by decide))).trans (B131 73 (by decide))).trans (B129 73 (by decide))).trans (B127 73 (by decide))).trans (B125 73 (by decide))).trans (B123 73 (by decide))).trans (B121 73 (by decide))).trans (B119 73 (by decide))).trans (B117 73 (by decide))).trans (B115 73 (by decide))).trans (B113 73 (by decide))).trans (B111 73 (by decide))).trans (B109 73 (by decide))).trans (B107 73 (by decide))).trans (B105 73 (by decide))).trans (B103 73 (by decide))).trans (B101 73 (by decide))).trans (B99 73 (by decide))).trans (B97 73 (by decide))).trans (B96 73 (by decide))).trans (B95 73 (by decide))).trans (B93 73 (by decide))).trans (B92 73 (by decide))).trans N90), ((((((((((((((((((((((((((B141 74 (by decide)).trans (B139 74 (by decide))).trans (B137 74 (by decide))).trans (B135 74 (by decide))).trans (B133 74 (by decide))).trans (B131 74 (by decide))).trans (B129 74 (by decide))).trans (B127 74 (by decide))).trans (B125 74 (by decide))).trans (B123 74 (by decide))).trans (B121 74 (by decide))).trans (B119 74 (by decide))).trans (B117 74 (by decide))).trans (B115 74 (by decide))).trans (B113 74 (by decide))).trans (B111 74 (by decide))).trans (B109 74 (by decide))).trans (B107 74 (by decide))).trans (B105 74 (by decide))).trans (B103 74 (by decide))).trans (B101 74 (by decide))).trans (B99 74 (by decide))).trans (B97 74 (by decide))).trans (B96 74 (by decide))).trans (B95 74 (by decide))).trans N93)⟩

