section
-- ===== PART A: goes FIRST, ahead of the names: the tables' words, and 'selects' of the private methods out of them =====
/-- a private method of a class that the tables say can be made, by its rows of tables_1 -/
def lw_okq (q : MethodName × Nat) : Prop := (q.1.cls ≠ "java/lang/invoke/MethodHandle" ∧ q.1.cls ≠ "java/lang/invoke/VarHandle") ∧ Cond.instantiable q.1.cls q.2 ∈ tables_1 ∧ Cond.privateMethod q.1 ∈ tables_1 ∧ Cond.instanceMethod q.1 ∈ tables_1
theorem lw_p0 : lw_okq (⟨"TributeFleet$Reader", "step", "()V"⟩, 5) := ⟨⟨by decide +kernel, by decide +kernel⟩, List.mem_of_getElem? (i := 110) (by decide +kernel), List.mem_of_getElem? (i := 402) (by decide +kernel), List.mem_of_getElem? (i := 403) (by decide +kernel)⟩
theorem lw_p1 : lw_okq (⟨"TributeFleet$Reader", "takeStatement", "(LTributeFleet$Statute;)Z"⟩, 5) := ⟨⟨by decide +kernel, by decide +kernel⟩, List.mem_of_getElem? (i := 110) (by decide +kernel), List.mem_of_getElem? (i := 416) (by decide +kernel), List.mem_of_getElem? (i := 417) (by decide +kernel)⟩
theorem lw_p2 : lw_okq (⟨"TributeFleet$Reader", "isWord", "(Ljava/lang/String;)Z"⟩, 5) := ⟨⟨by decide +kernel, by decide +kernel⟩, List.mem_of_getElem? (i := 110) (by decide +kernel), List.mem_of_getElem? (i := 421) (by decide +kernel), List.mem_of_getElem? (i := 422) (by decide +kernel)⟩
theorem lw_p3 : lw_okq (⟨"TributeFleet$Reader", "takeOrder", "(LTributeFleet$Statute;)Z"⟩, 5) := ⟨⟨by decide +kernel, by decide +kernel⟩, List.mem_of_getElem? (i := 110) (by decide +kernel), List.mem_of_getElem? (i := 473) (by decide +kernel), List.mem_of_getElem? (i := 474) (by decide +kernel)⟩
theorem lw_p4 : lw_okq (⟨"TributeFleet$Reader", "takeSemicolon", "()Z"⟩, 5) := ⟨⟨by decide +kernel, by decide +kernel⟩, List.mem_of_getElem? (i := 110) (by decide +kernel), List.mem_of_getElem? (i := 480) (by decide +kernel), List.mem_of_getElem? (i := 481) (by decide +kernel)⟩
theorem lw_p5 : lw_okq (⟨"TributeFleet$Reader", "takeDays", "(LTributeFleet$Statute;)Z"⟩, 5) := ⟨⟨by decide +kernel, by decide +kernel⟩, List.mem_of_getElem? (i := 110) (by decide +kernel), List.mem_of_getElem? (i := 485) (by decide +kernel), List.mem_of_getElem? (i := 486) (by decide +kernel)⟩
theorem lw_p6 : lw_okq (⟨"TributeFleet$Reader", "takeNumber", "()I"⟩, 5) := ⟨⟨by decide +kernel, by decide +kernel⟩, List.mem_of_getElem? (i := 110) (by decide +kernel), List.mem_of_getElem? (i := 489) (by decide +kernel), List.mem_of_getElem? (i := 490) (by decide +kernel)⟩
theorem lw_p7 : lw_okq (⟨"TributeFleet$Fleet", "isAhead", "(III)Z"⟩, 3) := ⟨⟨by decide +kernel, by decide +kernel⟩, List.mem_of_getElem? (i := 76) (by decide +kernel), List.mem_of_getElem? (i := 573) (by decide +kernel), List.mem_of_getElem? (i := 574) (by decide +kernel)⟩
theorem lw_p8 : lw_okq (⟨"TributeFleet", "workLock", "(I)V"⟩, 9) := ⟨⟨by decide +kernel, by decide +kernel⟩, List.mem_of_getElem? (i := 19) (by decide +kernel), List.mem_of_getElem? (i := 577) (by decide +kernel), List.mem_of_getElem? (i := 578) (by decide +kernel)⟩
theorem lw_p9 : lw_okq (⟨"TributeFleet", "whatBars", "(LTributeFleet$Squadron;IZ)I"⟩, 9) := ⟨⟨by decide +kernel, by decide +kernel⟩, List.mem_of_getElem? (i := 19) (by decide +kernel), List.mem_of_getElem? (i := 590) (by decide +kernel), List.mem_of_getElem? (i := 591) (by decide +kernel)⟩
theorem lw_p10 : lw_okq (⟨"TributeFleet$Squadron", "tellDays", "(I)I"⟩, 12) := ⟨⟨by decide +kernel, by decide +kernel⟩, List.mem_of_getElem? (i := 319) (by decide +kernel), List.mem_of_getElem? (i := 623) (by decide +kernel), List.mem_of_getElem? (i := 624) (by decide +kernel)⟩
theorem lw_p11 : lw_okq (⟨"TributeFleet$Squadron", "daysOver", "(LTributeFleet$Statute;)I"⟩, 12) := ⟨⟨by decide +kernel, by decide +kernel⟩, List.mem_of_getElem? (i := 319) (by decide +kernel), List.mem_of_getElem? (i := 635) (by decide +kernel), List.mem_of_getElem? (i := 636) (by decide +kernel)⟩
theorem lw_p12 : lw_okq (⟨"TributeFleet$Squadron", "bagsShort", "(LTributeFleet$Statute;)I"⟩, 12) := ⟨⟨by decide +kernel, by decide +kernel⟩, List.mem_of_getElem? (i := 319) (by decide +kernel), List.mem_of_getElem? (i := 641) (by decide +kernel), List.mem_of_getElem? (i := 642) (by decide +kernel)⟩
theorem lw_p13 : lw_okq (⟨"TributeFleet$Squadron", "goodsOver", "(LTributeFleet$Statute;)I"⟩, 12) := ⟨⟨by decide +kernel, by decide +kernel⟩, List.mem_of_getElem? (i := 319) (by decide +kernel), List.mem_of_getElem? (i := 645) (by decide +kernel), List.mem_of_getElem? (i := 646) (by decide +kernel)⟩
theorem lw_p14 : lw_okq (⟨"TributeFleet$Schedule", "bestNext", "(I)I"⟩, 6) := ⟨⟨by decide +kernel, by decide +kernel⟩, List.mem_of_getElem? (i := 210) (by decide +kernel), List.mem_of_getElem? (i := 726) (by decide +kernel), List.mem_of_getElem? (i := 727) (by decide +kernel)⟩
theorem lw_p15 : lw_okq (⟨"TributeFleet$Schedule", "restWith", "(II)I"⟩, 6) := ⟨⟨by decide +kernel, by decide +kernel⟩, List.mem_of_getElem? (i := 210) (by decide +kernel), List.mem_of_getElem? (i := 730) (by decide +kernel), List.mem_of_getElem? (i := 731) (by decide +kernel)⟩
def lw_privs_1 : List (MethodName × Nat) := [(⟨"TributeFleet$Reader", "step", "()V"⟩, 5), (⟨"TributeFleet$Reader", "takeStatement", "(LTributeFleet$Statute;)Z"⟩, 5), (⟨"TributeFleet$Reader", "isWord", "(Ljava/lang/String;)Z"⟩, 5), (⟨"TributeFleet$Reader", "takeOrder", "(LTributeFleet$Statute;)Z"⟩, 5), (⟨"TributeFleet$Reader", "takeSemicolon", "()Z"⟩, 5), (⟨"TributeFleet$Reader", "takeDays", "(LTributeFleet$Statute;)Z"⟩, 5), (⟨"TributeFleet$Reader", "takeNumber", "()I"⟩, 5), (⟨"TributeFleet$Fleet", "isAhead", "(III)Z"⟩, 3), (⟨"TributeFleet", "workLock", "(I)V"⟩, 9), (⟨"TributeFleet", "whatBars", "(LTributeFleet$Squadron;IZ)I"⟩, 9), (⟨"TributeFleet$Squadron", "tellDays", "(I)I"⟩, 12), (⟨"TributeFleet$Squadron", "daysOver", "(LTributeFleet$Statute;)I"⟩, 12), (⟨"TributeFleet$Squadron", "bagsShort", "(LTributeFleet$Statute;)I"⟩, 12), (⟨"TributeFleet$Squadron", "goodsOver", "(LTributeFleet$Statute;)I"⟩, 12), (⟨"TributeFleet$Schedule", "bestNext", "(I)I"⟩, 6), (⟨"TributeFleet$Schedule", "restWith", "(II)I"⟩, 6)]
theorem lw_r1 : ∀ q ∈ lw_privs_1, lw_okq q := List.forall_mem_cons.mpr ⟨lw_p0, List.forall_mem_cons.mpr ⟨lw_p1, List.forall_mem_cons.mpr ⟨lw_p2, List.forall_mem_cons.mpr ⟨lw_p3, List.forall_mem_cons.mpr ⟨lw_p4, List.forall_mem_cons.mpr ⟨lw_p5, List.forall_mem_cons.mpr ⟨lw_p6, List.forall_mem_cons.mpr ⟨lw_p7, List.forall_mem_cons.mpr ⟨lw_p8, List.forall_mem_cons.mpr ⟨lw_p9, List.forall_mem_cons.mpr ⟨lw_p10, List.forall_mem_cons.mpr ⟨lw_p11, List.forall_mem_cons.mpr ⟨lw_p12, List.forall_mem_cons.mpr ⟨lw_p13, List.forall_mem_cons.mpr ⟨lw_p14, List.forall_mem_cons.mpr ⟨lw_p15, fun _ h => absurd h List.not_mem_nil⟩⟩⟩⟩⟩⟩⟩⟩⟩⟩⟩⟩⟩⟩⟩⟩
theorem lw_p16 : lw_okq (⟨"TributeFleet$Schedule", "endOf", "(I)I"⟩, 6) := ⟨⟨by decide +kernel, by decide +kernel⟩, List.mem_of_getElem? (i := 210) (by decide +kernel), List.mem_of_getElem? (i := 735) (by decide +kernel), List.mem_of_getElem? (i := 736) (by decide +kernel)⟩
theorem lw_p17 : lw_okq (⟨"TributeFleetModel", "isReach", "(I)Z"⟩, 45) := ⟨⟨by decide +kernel, by decide +kernel⟩, List.mem_of_getElem? (i := 759) (by decide +kernel), List.mem_of_getElem? (i := 908) (by decide +kernel), List.mem_of_getElem? (i := 909) (by decide +kernel)⟩
theorem lw_p18 : lw_okq (⟨"TributeFleetModel", "isLock", "(I)Z"⟩, 45) := ⟨⟨by decide +kernel, by decide +kernel⟩, List.mem_of_getElem? (i := 759) (by decide +kernel), List.mem_of_getElem? (i := 919) (by decide +kernel), List.mem_of_getElem? (i := 920) (by decide +kernel)⟩
theorem lw_p19 : lw_okq (⟨"TributeFleetModel", "four", "(I)V"⟩, 45) := ⟨⟨by decide +kernel, by decide +kernel⟩, List.mem_of_getElem? (i := 759) (by decide +kernel), List.mem_of_getElem? (i := 946) (by decide +kernel), List.mem_of_getElem? (i := 947) (by decide +kernel)⟩
theorem lw_p20 : lw_okq (⟨"TributeFleetModel", "blanks", "()V"⟩, 45) := ⟨⟨by decide +kernel, by decide +kernel⟩, List.mem_of_getElem? (i := 759) (by decide +kernel), List.mem_of_getElem? (i := 954) (by decide +kernel), List.mem_of_getElem? (i := 955) (by decide +kernel)⟩
theorem lw_p21 : lw_okq (⟨"TributeFleetModel", "statement", "(I)Z"⟩, 45) := ⟨⟨by decide +kernel, by decide +kernel⟩, List.mem_of_getElem? (i := 759) (by decide +kernel), List.mem_of_getElem? (i := 958) (by decide +kernel), List.mem_of_getElem? (i := 959) (by decide +kernel)⟩
theorem lw_p22 : lw_okq (⟨"TributeFleetModel", "takes", "(J)Z"⟩, 45) := ⟨⟨by decide +kernel, by decide +kernel⟩, List.mem_of_getElem? (i := 759) (by decide +kernel), List.mem_of_getElem? (i := 963) (by decide +kernel), List.mem_of_getElem? (i := 964) (by decide +kernel)⟩
theorem lw_p23 : lw_okq (⟨"TributeFleetModel", "word", "()J"⟩, 45) := ⟨⟨by decide +kernel, by decide +kernel⟩, List.mem_of_getElem? (i := 759) (by decide +kernel), List.mem_of_getElem? (i := 967) (by decide +kernel), List.mem_of_getElem? (i := 968) (by decide +kernel)⟩
theorem lw_p24 : lw_okq (⟨"TributeFleetModel", "takesNumber", "()Z"⟩, 45) := ⟨⟨by decide +kernel, by decide +kernel⟩, List.mem_of_getElem? (i := 759) (by decide +kernel), List.mem_of_getElem? (i := 978) (by decide +kernel), List.mem_of_getElem? (i := 979) (by decide +kernel)⟩
theorem lw_p25 : lw_okq (⟨"TributeFleetModel", "tells", "(IIII)I"⟩, 45) := ⟨⟨by decide +kernel, by decide +kernel⟩, List.mem_of_getElem? (i := 759) (by decide +kernel), List.mem_of_getElem? (i := 991) (by decide +kernel), List.mem_of_getElem? (i := 992) (by decide +kernel)⟩
theorem lw_p26 : lw_okq (⟨"TributeFleetModel", "inForce", "(I)I"⟩, 45) := ⟨⟨by decide +kernel, by decide +kernel⟩, List.mem_of_getElem? (i := 759) (by decide +kernel), List.mem_of_getElem? (i := 995) (by decide +kernel), List.mem_of_getElem? (i := 996) (by decide +kernel)⟩
theorem lw_p27 : lw_okq (⟨"TributeFleetModel", "allowed", "(II)I"⟩, 45) := ⟨⟨by decide +kernel, by decide +kernel⟩, List.mem_of_getElem? (i := 759) (by decide +kernel), List.mem_of_getElem? (i := 999) (by decide +kernel), List.mem_of_getElem? (i := 1000) (by decide +kernel)⟩
theorem lw_p28 : lw_okq (⟨"TributeFleetModel", "isSquadron", "(I)Z"⟩, 45) := ⟨⟨by decide +kernel, by decide +kernel⟩, List.mem_of_getElem? (i := 759) (by decide +kernel), List.mem_of_getElem? (i := 1007) (by decide +kernel), List.mem_of_getElem? (i := 1008) (by decide +kernel)⟩
theorem lw_p29 : lw_okq (⟨"TributeFleetModel", "opens", "(I)V"⟩, 45) := ⟨⟨by decide +kernel, by decide +kernel⟩, List.mem_of_getElem? (i := 759) (by decide +kernel), List.mem_of_getElem? (i := 1019) (by decide +kernel), List.mem_of_getElem? (i := 1020) (by decide +kernel)⟩
theorem lw_p30 : lw_okq (⟨"TributeFleetModel", "next", "(I)I"⟩, 45) := ⟨⟨by decide +kernel, by decide +kernel⟩, List.mem_of_getElem? (i := 759) (by decide +kernel), List.mem_of_getElem? (i := 1023) (by decide +kernel), List.mem_of_getElem? (i := 1024) (by decide +kernel)⟩
theorem lw_p31 : lw_okq (⟨"TributeFleetModel", "isAhead", "(III)Z"⟩, 45) := ⟨⟨by decide +kernel, by decide +kernel⟩, List.mem_of_getElem? (i := 759) (by decide +kernel), List.mem_of_getElem? (i := 1027) (by decide +kernel), List.mem_of_getElem? (i := 1028) (by decide +kernel)⟩
def lw_privs_2 : List (MethodName × Nat) := [(⟨"TributeFleet$Schedule", "endOf", "(I)I"⟩, 6), (⟨"TributeFleetModel", "isReach", "(I)Z"⟩, 45), (⟨"TributeFleetModel", "isLock", "(I)Z"⟩, 45), (⟨"TributeFleetModel", "four", "(I)V"⟩, 45), (⟨"TributeFleetModel", "blanks", "()V"⟩, 45), (⟨"TributeFleetModel", "statement", "(I)Z"⟩, 45), (⟨"TributeFleetModel", "takes", "(J)Z"⟩, 45), (⟨"TributeFleetModel", "word", "()J"⟩, 45), (⟨"TributeFleetModel", "takesNumber", "()Z"⟩, 45), (⟨"TributeFleetModel", "tells", "(IIII)I"⟩, 45), (⟨"TributeFleetModel", "inForce", "(I)I"⟩, 45), (⟨"TributeFleetModel", "allowed", "(II)I"⟩, 45), (⟨"TributeFleetModel", "isSquadron", "(I)Z"⟩, 45), (⟨"TributeFleetModel", "opens", "(I)V"⟩, 45), (⟨"TributeFleetModel", "next", "(I)I"⟩, 45), (⟨"TributeFleetModel", "isAhead", "(III)Z"⟩, 45)]
theorem lw_r2 : ∀ q ∈ lw_privs_2, lw_okq q := List.forall_mem_cons.mpr ⟨lw_p16, List.forall_mem_cons.mpr ⟨lw_p17, List.forall_mem_cons.mpr ⟨lw_p18, List.forall_mem_cons.mpr ⟨lw_p19, List.forall_mem_cons.mpr ⟨lw_p20, List.forall_mem_cons.mpr ⟨lw_p21, List.forall_mem_cons.mpr ⟨lw_p22, List.forall_mem_cons.mpr ⟨lw_p23, List.forall_mem_cons.mpr ⟨lw_p24, List.forall_mem_cons.mpr ⟨lw_p25, List.forall_mem_cons.mpr ⟨lw_p26, List.forall_mem_cons.mpr ⟨lw_p27, List.forall_mem_cons.mpr ⟨lw_p28, List.forall_mem_cons.mpr ⟨lw_p29, List.forall_mem_cons.mpr ⟨lw_p30, List.forall_mem_cons.mpr ⟨lw_p31, fun _ h => absurd h List.not_mem_nil⟩⟩⟩⟩⟩⟩⟩⟩⟩⟩⟩⟩⟩⟩⟩⟩
theorem lw_p32 : lw_okq (⟨"TributeFleetModel", "hasIce", "(I)Z"⟩, 45) := ⟨⟨by decide +kernel, by decide +kernel⟩, List.mem_of_getElem? (i := 759) (by decide +kernel), List.mem_of_getElem? (i := 1031) (by decide +kernel), List.mem_of_getElem? (i := 1032) (by decide +kernel)⟩
def lw_privs_3 : List (MethodName × Nat) := [(⟨"TributeFleetModel", "hasIce", "(I)Z"⟩, 45)]
theorem lw_r3 : ∀ q ∈ lw_privs_3, lw_okq q := List.forall_mem_cons.mpr ⟨lw_p32, fun _ h => absurd h List.not_mem_nil⟩
def lw_privs : List (MethodName × Nat) := lw_privs_1 ++ (lw_privs_2 ++ (lw_privs_3))
def lw_tbl : List Cond := k2_sels lw_privs ++ tables_1
theorem lw_privs_ok : ∀ q ∈ lw_privs, lw_okq q := by
  show ∀ q ∈ lw_privs_1 ++ (lw_privs_2 ++ (lw_privs_3)), lw_okq q
  exact List.forall_mem_append.mpr ⟨lw_r1, List.forall_mem_append.mpr ⟨lw_r2, lw_r3⟩⟩
-- ===== end of PART A; then your names; then what follows =====
end
section
/-! ===== BEGIN words of one list among another's, by their places ===== -/
theorem goodIn_r {big : List Cond} (ws : List Cond) (ps : List Nat) (hp : ws = ps.filterMap (fun i => big[i]?)) (h : ws.all goodWord = true) : GoodIn big ws := by
  intro w hw
  have h1 := List.all_eq_true.mp h w hw
  rw [hp] at hw
  obtain ⟨i, -, hi⟩ := List.mem_filterMap.mp hw
  have hm : w ∈ big := by first | exact List.mem_of_getElem? hi | exact List.getElem?_mem hi
  exact ⟨hm, good_of_word h1⟩
theorem goodIn_app {big a b : List Cond} (ha : GoodIn big a) (hb : GoodIn big b) : GoodIn big (a ++ b) := fun w h => (List.mem_append.mp h).elim (ha w) (hb w)
theorem goodIn_ca {big a b : List Cond} {c : Cond} (ha : GoodIn big (c :: a)) (hb : GoodIn big b) : GoodIn big (c :: (a ++ b)) := fun w h => (List.mem_cons.mp h).elim (fun e => ha w (List.mem_cons.mpr (Or.inl e))) (fun h => (List.mem_append.mp h).elim (fun h => ha w (List.mem_cons.mpr (Or.inr h))) (hb w))
theorem goodIn_sub {big ws : List Cond} (hm : ∀ w ∈ ws, w ∈ big) (h : ws.all goodWord = true) : GoodIn big ws := fun w hw => ⟨hm w hw, good_of_word (List.all_eq_true.mp h w hw)⟩
/-! ===== END ===== -/

/-! ===== BEGIN printed: names, fields, word lists, decode rows ===== -/
def RX0 : String := "TributeFleet$Canal"
def TX0 : u_T := fun k => match k with
  | 0 => ("TributeFleet$Canal", "reaches", "I", true)
  | 1 => ("TributeFleet$Canal", "water", "[I", true)
  | 2 => ("TributeFleet$Canal", "lockBoats", "[I", true)
  | 3 => ("TributeFleet$Canal", "lakeReach", "[I", true)
  | 4 => ("TributeFleet$Canal", "lakeStore", "[I", true)
  | 5 => ("TributeFleet$Canal", "lakeGives", "[I", true)
  | 6 => ("TributeFleet$Canal", "lakes", "I", false)
  | 7 => ("TributeFleet$Canal", "iceDay", "I", false)
  | _ => ("TributeFleet$Canal", "iceReach", "I", false)
def tyX0 : Nat → FieldType := fun k => match k with
  | 0 => .int
  | 1 => .array .int
  | 2 => .array .int
  | 3 => .array .int
  | 4 => .array .int
  | 5 => .array .int
  | 6 => .int
  | 7 => .int
  | _ => .int
abbrev wsX00 : List Cond := u_ws RX0 TX0 9
theorem nmX0 : ∀ a, a < 9 → ∀ b, b < 9 → a ≠ b → (TX0 a).2.1 ≠ (TX0 b).2.1 := by decide +kernel
theorem tyX0_ok : ∀ k, k < 9 → parseFieldDescriptor (TX0 k).2.2.1 = some (tyX0 k) := by decide +kernel
abbrev cX0_init : ByteArray := prog_2_method_1_code
def yX0_init : MethodName := ⟨RX0, "<init>", "(I)V"⟩
abbrev cX0_hasReach : ByteArray := prog_2_method_2_code
def yX0_hasReach : MethodName := ⟨RX0, "hasReach", "(I)Z"⟩
abbrev cX0_hasLock : ByteArray := prog_2_method_3_code
def yX0_hasLock : MethodName := ⟨RX0, "hasLock", "(I)Z"⟩
abbrev cX0_hasLake : ByteArray := prog_2_method_4_code
def yX0_hasLake : MethodName := ⟨RX0, "hasLake", "(I)Z"⟩
abbrev cX0_addLake : ByteArray := prog_2_method_5_code
def yX0_addLake : MethodName := ⟨RX0, "addLake", "(II)I"⟩
abbrev cX0_isIcy : ByteArray := prog_2_method_6_code
def yX0_isIcy : MethodName := ⟨RX0, "isIcy", "(II)Z"⟩
abbrev cX0_isTooLow : ByteArray := prog_2_method_7_code
def yX0_isTooLow : MethodName := ⟨RX0, "isTooLow", "(II)Z"⟩
abbrev cX0_boatsOf : ByteArray := prog_2_method_8_code
def yX0_boatsOf : MethodName := ⟨RX0, "boatsOf", "(I)I"⟩
abbrev cX0_takeFromLakes : ByteArray := prog_2_method_9_code
def yX0_takeFromLakes : MethodName := ⟨RX0, "takeFromLakes", "()V"⟩
abbrev cX0_letThrough : ByteArray := prog_2_method_10_code
def yX0_letThrough : MethodName := ⟨RX0, "letThrough", "(II)V"⟩
def RX1 : String := "TributeFleet$Code"
def TX1 : u_T := fun k => match k with
  | 0 => ("TributeFleet$Code", "taken", "[LTributeFleet$Statute;", true)
  | 1 => ("TributeFleet$Code", "unwritten", "LTributeFleet$Statute;", true)
  | _ => ("TributeFleet$Code", "size", "I", false)
def tyX1 : Nat → FieldType := fun k => match k with
  | 0 => .array (.object "TributeFleet$Statute")
  | 1 => .object "TributeFleet$Statute"
  | _ => .int
abbrev wsX10 : List Cond := u_ws RX1 TX1 3
theorem nmX1 : ∀ a, a < 3 → ∀ b, b < 3 → a ≠ b → (TX1 a).2.1 ≠ (TX1 b).2.1 := by decide +kernel
theorem tyX1_ok : ∀ k, k < 3 → parseFieldDescriptor (TX1 k).2.2.1 = some (tyX1 k) := by decide +kernel
abbrev cX1_init : ByteArray := prog_3_method_1_code
def yX1_init : MethodName := ⟨RX1, "<init>", "(I)V"⟩
abbrev cX1_isFull : ByteArray := prog_3_method_2_code
def yX1_isFull : MethodName := ⟨RX1, "isFull", "()Z"⟩
abbrev cX1_take : ByteArray := prog_3_method_3_code
def yX1_take : MethodName := ⟨RX1, "take", "(LTributeFleet$Statute;)I"⟩
abbrev cX1_inForce : ByteArray := prog_3_method_4_code
def yX1_inForce : MethodName := ⟨RX1, "inForce", "(I)LTributeFleet$Statute;"⟩
def RX2 : String := "TributeFleet$Counties"
def TX2 : u_T := fun k => match k with
  | 0 => ("TributeFleet$Counties", "allotted", "[I", true)
  | 1 => ("TributeFleet$Counties", "commuted", "[I", true)
  | 2 => ("TributeFleet$Counties", "paid", "[I", true)
  | _ => ("TributeFleet$Counties", "coinsABag", "I", false)
def tyX2 : Nat → FieldType := fun k => match k with
  | 0 => .array .int
  | 1 => .array .int
  | 2 => .array .int
  | _ => .int
abbrev wsX20 : List Cond := u_ws RX2 TX2 4
theorem nmX2 : ∀ a, a < 4 → ∀ b, b < 4 → a ≠ b → (TX2 a).2.1 ≠ (TX2 b).2.1 := by decide +kernel
theorem tyX2_ok : ∀ k, k < 4 → parseFieldDescriptor (TX2 k).2.2.1 = some (tyX2 k) := by decide +kernel
abbrev cX2_init : ByteArray := prog_4_method_1_code
def yX2_init : MethodName := ⟨RX2, "<init>", "()V"⟩
abbrev cX2_leftToCommute : ByteArray := prog_4_method_2_code
def yX2_leftToCommute : MethodName := ⟨RX2, "leftToCommute", "(I)I"⟩
abbrev cX2_payFor : ByteArray := prog_4_method_3_code
def yX2_payFor : MethodName := ⟨RX2, "payFor", "(II)I"⟩
def RX3 : String := "TributeFleet$Fleet"
def TX3 : u_T := fun k => match k with
  | 0 => ("TributeFleet$Fleet", "squadrons", "[LTributeFleet$Squadron;", true)
  | 1 => ("TributeFleet$Fleet", "line", "[I", true)
  | _ => ("TributeFleet$Fleet", "size", "I", false)
def tyX3 : Nat → FieldType := fun k => match k with
  | 0 => .array (.object "TributeFleet$Squadron")
  | 1 => .array .int
  | _ => .int
abbrev wsX30 : List Cond := u_ws RX3 TX3 3
theorem nmX3 : ∀ a, a < 3 → ∀ b, b < 3 → a ≠ b → (TX3 a).2.1 ≠ (TX3 b).2.1 := by decide +kernel
theorem tyX3_ok : ∀ k, k < 3 → parseFieldDescriptor (TX3 k).2.2.1 = some (tyX3 k) := by decide +kernel
abbrev cX3_init : ByteArray := prog_5_method_1_code
def yX3_init : MethodName := ⟨RX3, "<init>", "()V"⟩
abbrev cX3_isFull : ByteArray := prog_5_method_2_code
def yX3_isFull : MethodName := ⟨RX3, "isFull", "()Z"⟩
abbrev cX3_add : ByteArray := prog_5_method_3_code
def yX3_add : MethodName := ⟨RX3, "add", "(LTributeFleet$Squadron;)I"⟩
abbrev cX3_find : ByteArray := prog_5_method_4_code
def yX3_find : MethodName := ⟨RX3, "find", "(I)LTributeFleet$Squadron;"⟩
abbrev cX3_hasAll : ByteArray := prog_5_method_5_code
def yX3_hasAll : MethodName := ⟨RX3, "hasAll", "(I)Z"⟩
abbrev cX3_inLine : ByteArray := prog_5_method_6_code
def yX3_inLine : MethodName := ⟨RX3, "inLine", "(I)LTributeFleet$Squadron;"⟩
abbrev cX3_beginDay : ByteArray := prog_5_method_7_code
def yX3_beginDay : MethodName := ⟨RX3, "beginDay", "()V"⟩
abbrev cX3_lineUp : ByteArray := prog_5_method_8_code
def yX3_lineUp : MethodName := ⟨RX3, "lineUp", "(I)V"⟩
abbrev cX3_isAhead : ByteArray := prog_5_method_9_code
def yX3_isAhead : MethodName := ⟨RX3, "isAhead", "(III)Z"⟩
abbrev cX3_boatsIn : ByteArray := prog_5_method_10_code
def yX3_boatsIn : MethodName := ⟨RX3, "boatsIn", "(I)I"⟩
abbrev cX3_bagsComeOf : ByteArray := prog_5_method_11_code
def yX3_bagsComeOf : MethodName := ⟨RX3, "bagsComeOf", "(I)I"⟩
abbrev cX3_come : ByteArray := prog_5_method_12_code
def yX3_come : MethodName := ⟨RX3, "come", "()I"⟩
def RX4 : String := "TributeFleet$Reader"
def TX4 : u_T := fun k => match k with
  | 0 => ("TributeFleet$Reader", "tape", "LTributeFleet$Tape;", true)
  | 1 => ("TributeFleet$Reader", "length", "I", false)
  | 2 => ("TributeFleet$Reader", "start", "I", false)
  | 3 => ("TributeFleet$Reader", "end", "I", false)
  | _ => ("TributeFleet$Reader", "kind", "I", false)
def tyX4 : Nat → FieldType := fun k => match k with
  | 0 => .object "TributeFleet$Tape"
  | 1 => .int
  | 2 => .int
  | 3 => .int
  | _ => .int
abbrev wsX40 : List Cond := u_ws RX4 TX4 5
theorem nmX4 : ∀ a, a < 5 → ∀ b, b < 5 → a ≠ b → (TX4 a).2.1 ≠ (TX4 b).2.1 := by decide +kernel
theorem tyX4_ok : ∀ k, k < 5 → parseFieldDescriptor (TX4 k).2.2.1 = some (tyX4 k) := by decide +kernel
abbrev cX4_init : ByteArray := prog_6_method_1_code
def yX4_init : MethodName := ⟨RX4, "<init>", "(LTributeFleet$Tape;)V"⟩
abbrev cX4_read : ByteArray := prog_6_method_2_code
def yX4_read : MethodName := ⟨RX4, "read", "(ILTributeFleet$Statute;)I"⟩
abbrev cX4_takeStatement : ByteArray := prog_6_method_3_code
def yX4_takeStatement : MethodName := ⟨RX4, "takeStatement", "(LTributeFleet$Statute;)Z"⟩
abbrev cX4_takeOrder : ByteArray := prog_6_method_4_code
def yX4_takeOrder : MethodName := ⟨RX4, "takeOrder", "(LTributeFleet$Statute;)Z"⟩
abbrev cX4_takeDays : ByteArray := prog_6_method_5_code
def yX4_takeDays : MethodName := ⟨RX4, "takeDays", "(LTributeFleet$Statute;)Z"⟩
abbrev cX4_takeSemicolon : ByteArray := prog_6_method_6_code
def yX4_takeSemicolon : MethodName := ⟨RX4, "takeSemicolon", "()Z"⟩
abbrev cX4_takeNumber : ByteArray := prog_6_method_7_code
def yX4_takeNumber : MethodName := ⟨RX4, "takeNumber", "()I"⟩
abbrev cX4_step : ByteArray := prog_6_method_8_code
def yX4_step : MethodName := ⟨RX4, "step", "()V"⟩
abbrev cX4_isWord : ByteArray := prog_6_method_9_code
def yX4_isWord : MethodName := ⟨RX4, "isWord", "(Ljava/lang/String;)Z"⟩
abbrev cX4_isBlank : ByteArray := prog_6_method_10_code
def yX4_isBlank : MethodName := ⟨RX4, "isBlank", "(I)Z"⟩
abbrev cX4_kindOf : ByteArray := prog_6_method_11_code
def yX4_kindOf : MethodName := ⟨RX4, "kindOf", "(I)I"⟩
def RX5 : String := "TributeFleet$Schedule"
def TX5 : u_T := fun k => match k with
  | 0 => ("TributeFleet$Schedule", "numbers", "[I", true)
  | 1 => ("TributeFleet$Schedule", "takes", "[I", true)
  | 2 => ("TributeFleet$Schedule", "dueDays", "[I", true)
  | 3 => ("TributeFleet$Schedule", "rest", "[I", true)
  | 4 => ("TributeFleet$Schedule", "size", "I", false)
  | _ => ("TributeFleet$Schedule", "firstDay", "I", false)
def tyX5 : Nat → FieldType := fun k => match k with
  | 0 => .array .int
  | 1 => .array .int
  | 2 => .array .int
  | 3 => .array .int
  | 4 => .int
  | _ => .int
abbrev wsX50 : List Cond := u_ws RX5 TX5 6
theorem nmX5 : ∀ a, a < 6 → ∀ b, b < 6 → a ≠ b → (TX5 a).2.1 ≠ (TX5 b).2.1 := by decide +kernel
theorem tyX5_ok : ∀ k, k < 6 → parseFieldDescriptor (TX5 k).2.2.1 = some (tyX5 k) := by decide +kernel
abbrev cX5_init : ByteArray := prog_7_method_1_code
def yX5_init : MethodName := ⟨RX5, "<init>", "()V"⟩
abbrev cX5_clear : ByteArray := prog_7_method_2_code
def yX5_clear : MethodName := ⟨RX5, "clear", "()V"⟩
abbrev cX5_add : ByteArray := prog_7_method_3_code
def yX5_add : MethodName := ⟨RX5, "add", "(III)V"⟩
abbrev cX5_weigh : ByteArray := prog_7_method_4_code
def yX5_weigh : MethodName := ⟨RX5, "weigh", "(I)V"⟩
abbrev cX5_leastSum : ByteArray := prog_7_method_5_code
def yX5_leastSum : MethodName := ⟨RX5, "leastSum", "()I"⟩
abbrev cX5_inPlace : ByteArray := prog_7_method_6_code
def yX5_inPlace : MethodName := ⟨RX5, "inPlace", "(I)I"⟩
abbrev cX5_bestNext : ByteArray := prog_7_method_7_code
def yX5_bestNext : MethodName := ⟨RX5, "bestNext", "(I)I"⟩
abbrev cX5_restWith : ByteArray := prog_7_method_8_code
def yX5_restWith : MethodName := ⟨RX5, "restWith", "(II)I"⟩
abbrev cX5_endOf : ByteArray := prog_7_method_9_code
def yX5_endOf : MethodName := ⟨RX5, "endOf", "(I)I"⟩
def RX6 : String := "TributeFleet$Squadron"
def TX6 : u_T := fun k => match k with
  | 0 => ("TributeFleet$Squadron", "county", "I", true)
  | 1 => ("TributeFleet$Squadron", "boats", "I", true)
  | 2 => ("TributeFleet$Squadron", "bags", "I", true)
  | 3 => ("TributeFleet$Squadron", "goods", "I", true)
  | 4 => ("TributeFleet$Squadron", "daysIn", "[I", true)
  | 5 => ("TributeFleet$Squadron", "daysBy", "[I", true)
  | 6 => ("TributeFleet$Squadron", "reach", "I", false)
  | 7 => ("TributeFleet$Squadron", "cameOn", "I", false)
  | 8 => ("TributeFleet$Squadron", "lost", "I", false)
  | 9 => ("TributeFleet$Squadron", "why", "I", false)
  | 10 => ("TributeFleet$Squadron", "dueDay", "I", false)
  | _ => ("TributeFleet$Squadron", "hasLeave", "Z", false)
def tyX6 : Nat → FieldType := fun k => match k with
  | 0 => .int
  | 1 => .int
  | 2 => .int
  | 3 => .int
  | 4 => .array .int
  | 5 => .array .int
  | 6 => .int
  | 7 => .int
  | 8 => .int
  | 9 => .int
  | 10 => .int
  | _ => .boolean
abbrev wsX60 : List Cond := u_ws RX6 TX6 12
theorem nmX6 : ∀ a, a < 12 → ∀ b, b < 12 → a ≠ b → (TX6 a).2.1 ≠ (TX6 b).2.1 := by decide +kernel
theorem tyX6_ok : ∀ k, k < 12 → parseFieldDescriptor (TX6 k).2.2.1 = some (tyX6 k) := by decide +kernel
abbrev cX6_init : ByteArray := prog_8_method_1_code
def yX6_init : MethodName := ⟨RX6, "<init>", "(IIIII)V"⟩
abbrev cX6_hasCome : ByteArray := prog_8_method_2_code
def yX6_hasCome : MethodName := ⟨RX6, "hasCome", "()Z"⟩
abbrev cX6_bagsLeft : ByteArray := prog_8_method_3_code
def yX6_bagsLeft : MethodName := ⟨RX6, "bagsLeft", "()I"⟩
abbrev cX6_beginDay : ByteArray := prog_8_method_4_code
def yX6_beginDay : MethodName := ⟨RX6, "beginDay", "()V"⟩
abbrev cX6_moveUp : ByteArray := prog_8_method_5_code
def yX6_moveUp : MethodName := ⟨RX6, "moveUp", "(I)V"⟩
abbrev cX6_stay : ByteArray := prog_8_method_6_code
def yX6_stay : MethodName := ⟨RX6, "stay", "(I)V"⟩
abbrev cX6_tell : ByteArray := prog_8_method_7_code
def yX6_tell : MethodName := ⟨RX6, "tell", "(I)I"⟩
abbrev cX6_tellDays : ByteArray := prog_8_method_8_code
def yX6_tellDays : MethodName := ⟨RX6, "tellDays", "(I)I"⟩
abbrev cX6_judgedBy : ByteArray := prog_8_method_9_code
def yX6_judgedBy : MethodName := ⟨RX6, "judgedBy", "(LTributeFleet$Statute;I)I"⟩
abbrev cX6_daysOver : ByteArray := prog_8_method_10_code
def yX6_daysOver : MethodName := ⟨RX6, "daysOver", "(LTributeFleet$Statute;)I"⟩
abbrev cX6_bagsShort : ByteArray := prog_8_method_11_code
def yX6_bagsShort : MethodName := ⟨RX6, "bagsShort", "(LTributeFleet$Statute;)I"⟩
abbrev cX6_goodsOver : ByteArray := prog_8_method_12_code
def yX6_goodsOver : MethodName := ⟨RX6, "goodsOver", "(LTributeFleet$Statute;)I"⟩
def RX7 : String := "TributeFleet$Statute"
def TX7 : u_T := fun k => match k with
  | 0 => ("TributeFleet$Statute", "number", "I", true)
  | 1 => ("TributeFleet$Statute", "fromDay", "I", true)
  | 2 => ("TributeFleet$Statute", "allowed", "[I", true)
  | 3 => ("TributeFleet$Statute", "order", "I", false)
  | 4 => ("TributeFleet$Statute", "loss", "I", false)
  | 5 => ("TributeFleet$Statute", "goodsABoat", "I", false)
  | _ => ("TributeFleet$Statute", "fine", "I", false)
def tyX7 : Nat → FieldType := fun k => match k with
  | 0 => .int
  | 1 => .int
  | 2 => .array .int
  | 3 => .int
  | 4 => .int
  | 5 => .int
  | _ => .int
abbrev wsX70 : List Cond := u_ws RX7 TX7 7
theorem nmX7 : ∀ a, a < 7 → ∀ b, b < 7 → a ≠ b → (TX7 a).2.1 ≠ (TX7 b).2.1 := by decide +kernel
theorem tyX7_ok : ∀ k, k < 7 → parseFieldDescriptor (TX7 k).2.2.1 = some (tyX7 k) := by decide +kernel
abbrev cX7_init : ByteArray := prog_9_method_1_code
def yX7_init : MethodName := ⟨RX7, "<init>", "(III)V"⟩
abbrev cX7_allow : ByteArray := prog_9_method_2_code
def yX7_allow : MethodName := ⟨RX7, "allow", "(II)V"⟩
abbrev cX7_allowedIn : ByteArray := prog_9_method_3_code
def yX7_allowedIn : MethodName := ⟨RX7, "allowedIn", "(I)I"⟩
abbrev cX7_tell : ByteArray := prog_9_method_4_code
def yX7_tell : MethodName := ⟨RX7, "tell", "(I)I"⟩
def RX8 : String := "TributeFleet$Tape"
def TX8 : u_T := fun k => match k with
  | 0 => ("TributeFleet$Tape", "bytes", "[B", true)
  | _ => ("TributeFleet$Tape", "size", "I", false)
def tyX8 : Nat → FieldType := fun k => match k with
  | 0 => .array .byte
  | _ => .int
abbrev wsX80 : List Cond := u_ws RX8 TX8 2
theorem nmX8 : ∀ a, a < 2 → ∀ b, b < 2 → a ≠ b → (TX8 a).2.1 ≠ (TX8 b).2.1 := by decide +kernel
theorem tyX8_ok : ∀ k, k < 2 → parseFieldDescriptor (TX8 k).2.2.1 = some (tyX8 k) := by decide +kernel
abbrev cX8_init : ByteArray := prog_10_method_1_code
def yX8_init : MethodName := ⟨RX8, "<init>", "()V"⟩
abbrev cX8_hasRoom : ByteArray := prog_10_method_2_code
def yX8_hasRoom : MethodName := ⟨RX8, "hasRoom", "()Z"⟩
abbrev cX8_append : ByteArray := prog_10_method_3_code
def yX8_append : MethodName := ⟨RX8, "append", "(I)V"⟩
abbrev cX8_at : ByteArray := prog_10_method_4_code
def yX8_at : MethodName := ⟨RX8, "at", "(I)I"⟩
def RX9 : String := "TributeFleet"
def TX9 : u_T := fun k => match k with
  | 0 => ("TributeFleet", "canal", "LTributeFleet$Canal;", true)
  | 1 => ("TributeFleet", "fleet", "LTributeFleet$Fleet;", true)
  | 2 => ("TributeFleet", "tape", "LTributeFleet$Tape;", true)
  | 3 => ("TributeFleet", "reader", "LTributeFleet$Reader;", true)
  | 4 => ("TributeFleet", "code", "LTributeFleet$Code;", true)
  | 5 => ("TributeFleet", "counties", "LTributeFleet$Counties;", true)
  | 6 => ("TributeFleet", "schedule", "LTributeFleet$Schedule;", true)
  | 7 => ("TributeFleet", "today", "I", false)
  | _ => ("TributeFleet", "faultPlace", "I", false)
def tyX9 : Nat → FieldType := fun k => match k with
  | 0 => .object "TributeFleet$Canal"
  | 1 => .object "TributeFleet$Fleet"
  | 2 => .object "TributeFleet$Tape"
  | 3 => .object "TributeFleet$Reader"
  | 4 => .object "TributeFleet$Code"
  | 5 => .object "TributeFleet$Counties"
  | 6 => .object "TributeFleet$Schedule"
  | 7 => .int
  | _ => .int
abbrev wsX90 : List Cond := u_ws RX9 TX9 9
theorem nmX9 : ∀ a, a < 9 → ∀ b, b < 9 → a ≠ b → (TX9 a).2.1 ≠ (TX9 b).2.1 := by decide +kernel
theorem tyX9_ok : ∀ k, k < 9 → parseFieldDescriptor (TX9 k).2.2.1 = some (tyX9 k) := by decide +kernel
abbrev cX9_init : ByteArray := prog_1_method_1_code
def yX9_init : MethodName := ⟨RX9, "<init>", "(I)V"⟩
abbrev cX9_water : ByteArray := prog_1_method_2_code
def yX9_water : MethodName := ⟨RX9, "water", "(II)Z"⟩
abbrev cX9_lock : ByteArray := prog_1_method_3_code
def yX9_lock : MethodName := ⟨RX9, "lock", "(II)Z"⟩
abbrev cX9_lake : ByteArray := prog_1_method_4_code
def yX9_lake : MethodName := ⟨RX9, "lake", "(II)I"⟩
abbrev cX9_give : ByteArray := prog_1_method_5_code
def yX9_give : MethodName := ⟨RX9, "give", "(II)Z"⟩
abbrev cX9_ice : ByteArray := prog_1_method_6_code
def yX9_ice : MethodName := ⟨RX9, "ice", "(II)Z"⟩
abbrev cX9_squadron : ByteArray := prog_1_method_7_code
def yX9_squadron : MethodName := ⟨RX9, "squadron", "(IIII)I"⟩
abbrev cX9_feed : ByteArray := prog_1_method_8_code
def yX9_feed : MethodName := ⟨RX9, "feed", "(IIIII)I"⟩
abbrev cX9_statute : ByteArray := prog_1_method_9_code
def yX9_statute : MethodName := ⟨RX9, "statute", "(I)I"⟩
abbrev cX9_fault : ByteArray := prog_1_method_10_code
def yX9_fault : MethodName := ⟨RX9, "fault", "()I"⟩
abbrev cX9_law : ByteArray := prog_1_method_11_code
def yX9_law : MethodName := ⟨RX9, "law", "(II)I"⟩
abbrev cX9_leave : ByteArray := prog_1_method_12_code
def yX9_leave : MethodName := ⟨RX9, "leave", "(IZ)Z"⟩
abbrev cX9_lose : ByteArray := prog_1_method_13_code
def yX9_lose : MethodName := ⟨RX9, "lose", "(II)I"⟩
abbrev cX9_day : ByteArray := prog_1_method_14_code
def yX9_day : MethodName := ⟨RX9, "day", "()I"⟩
abbrev cX9_told : ByteArray := prog_1_method_15_code
def yX9_told : MethodName := ⟨RX9, "told", "(II)I"⟩
abbrev cX9_judge : ByteArray := prog_1_method_16_code
def yX9_judge : MethodName := ⟨RX9, "judge", "(II)I"⟩
abbrev cX9_reach : ByteArray := prog_1_method_17_code
def yX9_reach : MethodName := ⟨RX9, "reach", "(II)I"⟩
abbrev cX9_store : ByteArray := prog_1_method_18_code
def yX9_store : MethodName := ⟨RX9, "store", "(I)I"⟩
abbrev cX9_allot : ByteArray := prog_1_method_19_code
def yX9_allot : MethodName := ⟨RX9, "allot", "(II)Z"⟩
abbrev cX9_rate : ByteArray := prog_1_method_20_code
def yX9_rate : MethodName := ⟨RX9, "rate", "(I)Z"⟩
abbrev cX9_commute : ByteArray := prog_1_method_21_code
def yX9_commute : MethodName := ⟨RX9, "commute", "(II)I"⟩
abbrev cX9_county : ByteArray := prog_1_method_22_code
def yX9_county : MethodName := ⟨RX9, "county", "(II)I"⟩
abbrev cX9_due : ByteArray := prog_1_method_23_code
def yX9_due : MethodName := ⟨RX9, "due", "(II)Z"⟩
abbrev cX9_least : ByteArray := prog_1_method_24_code
def yX9_least : MethodName := ⟨RX9, "least", "(III)I"⟩
abbrev cX9_count : ByteArray := prog_1_method_25_code
def yX9_count : MethodName := ⟨RX9, "count", "(I)I"⟩
abbrev cX9_workLock : ByteArray := prog_1_method_26_code
def yX9_workLock : MethodName := ⟨RX9, "workLock", "(I)V"⟩
abbrev cX9_whatBars : ByteArray := prog_1_method_27_code
def yX9_whatBars : MethodName := ⟨RX9, "whatBars", "(LTributeFleet$Squadron;IZ)I"⟩
abbrev cX9_isWithin : ByteArray := prog_1_method_28_code
def yX9_isWithin : MethodName := ⟨RX9, "isWithin", "(III)Z"⟩
abbrev cX9_isDay : ByteArray := prog_1_method_29_code
def yX9_isDay : MethodName := ⟨RX9, "isDay", "(I)Z"⟩
abbrev cX9_isCounty : ByteArray := prog_1_method_30_code
def yX9_isCounty : MethodName := ⟨RX9, "isCounty", "(I)Z"⟩
abbrev cX9_isPlace : ByteArray := prog_1_method_31_code
def yX9_isPlace : MethodName := ⟨RX9, "isPlace", "(II)Z"⟩
abbrev cX9_daysToPass : ByteArray := prog_1_method_32_code
def yX9_daysToPass : MethodName := ⟨RX9, "daysToPass", "(II)I"⟩
def RX10 : String := "TributeFleetModel"
def TX10 : u_T := fun k => match k with
  | 0 => ("TributeFleetModel", "reaches", "I", true)
  | 1 => ("TributeFleetModel", "water", "[I", true)
  | 2 => ("TributeFleetModel", "boatsADay", "[I", true)
  | 3 => ("TributeFleetModel", "today", "I", false)
  | 4 => ("TributeFleetModel", "lakes", "I", false)
  | 5 => ("TributeFleetModel", "squadrons", "I", false)
  | 6 => ("TributeFleetModel", "iceDay", "I", false)
  | 7 => ("TributeFleetModel", "iceReach", "I", false)
  | 8 => ("TributeFleetModel", "rate", "I", false)
  | 9 => ("TributeFleetModel", "lakeReach", "[I", true)
  | 10 => ("TributeFleetModel", "store", "[I", true)
  | 11 => ("TributeFleetModel", "gives", "[I", true)
  | 12 => ("TributeFleetModel", "county", "[I", true)
  | 13 => ("TributeFleetModel", "boats", "[I", true)
  | 14 => ("TributeFleetModel", "loaded", "[I", true)
  | 15 => ("TributeFleetModel", "lost", "[I", true)
  | 16 => ("TributeFleetModel", "goods", "[I", true)
  | 17 => ("TributeFleetModel", "at", "[I", true)
  | 18 => ("TributeFleetModel", "came", "[I", true)
  | 19 => ("TributeFleetModel", "why", "[I", true)
  | 20 => ("TributeFleetModel", "due", "[I", true)
  | 21 => ("TributeFleetModel", "hasLeave", "[Z", true)
  | 22 => ("TributeFleetModel", "days", "[I", true)
  | 23 => ("TributeFleetModel", "causes", "[I", true)
  | 24 => ("TributeFleetModel", "allotment", "[I", true)
  | 25 => ("TributeFleetModel", "commuted", "[I", true)
  | 26 => ("TributeFleetModel", "paid", "[I", true)
  | 27 => ("TributeFleetModel", "tape", "[B", true)
  | 28 => ("TributeFleetModel", "text", "[B", true)
  | 29 => ("TributeFleetModel", "taped", "I", false)
  | 30 => ("TributeFleetModel", "size", "I", false)
  | 31 => ("TributeFleetModel", "place", "I", false)
  | 32 => ("TributeFleetModel", "fault", "I", false)
  | 33 => ("TributeFleetModel", "statutes", "I", false)
  | 34 => ("TributeFleetModel", "statements", "[I", true)
  | 35 => ("TributeFleetModel", "taken", "[I", true)
  | 36 => ("TributeFleetModel", "sort", "[I", true)
  | 37 => ("TributeFleetModel", "first", "[I", true)
  | 38 => ("TributeFleetModel", "second", "[I", true)
  | 39 => ("TributeFleetModel", "wordEnd", "I", false)
  | 40 => ("TributeFleetModel", "number", "I", false)
  | 41 => ("TributeFleetModel", "hasGone", "[Z", true)
  | 42 => ("TributeFleetModel", "few", "[I", true)
  | 43 => ("TributeFleetModel", "row", "[I", true)
  | _ => ("TributeFleetModel", "bestRow", "[I", true)
def tyX10 : Nat → FieldType := fun k => match k with
  | 0 => .int
  | 1 => .array .int
  | 2 => .array .int
  | 3 => .int
  | 4 => .int
  | 5 => .int
  | 6 => .int
  | 7 => .int
  | 8 => .int
  | 9 => .array .int
  | 10 => .array .int
  | 11 => .array .int
  | 12 => .array .int
  | 13 => .array .int
  | 14 => .array .int
  | 15 => .array .int
  | 16 => .array .int
  | 17 => .array .int
  | 18 => .array .int
  | 19 => .array .int
  | 20 => .array .int
  | 21 => .array .boolean
  | 22 => .array .int
  | 23 => .array .int
  | 24 => .array .int
  | 25 => .array .int
  | 26 => .array .int
  | 27 => .array .byte
  | 28 => .array .byte
  | 29 => .int
  | 30 => .int
  | 31 => .int
  | 32 => .int
  | 33 => .int
  | 34 => .array .int
  | 35 => .array .int
  | 36 => .array .int
  | 37 => .array .int
  | 38 => .array .int
  | 39 => .int
  | 40 => .int
  | 41 => .array .boolean
  | 42 => .array .int
  | 43 => .array .int
  | _ => .array .int
abbrev wsX100 : List Cond := u_ws RX10 TX10 45
theorem nmX10 : ∀ a, a < 45 → ∀ b, b < 45 → a ≠ b → (TX10 a).2.1 ≠ (TX10 b).2.1 := by decide +kernel
theorem tyX10_ok : ∀ k, k < 45 → parseFieldDescriptor (TX10 k).2.2.1 = some (tyX10 k) := by decide +kernel
abbrev cX10_init : ByteArray := prog_12_method_1_code
def yX10_init : MethodName := ⟨RX10, "<init>", "(I)V"⟩
abbrev cX10_isIn : ByteArray := prog_12_method_2_code
def yX10_isIn : MethodName := ⟨RX10, "isIn", "(III)Z"⟩
abbrev cX10_one : ByteArray := prog_12_method_3_code
def yX10_one : MethodName := ⟨RX10, "one", "(Z)I"⟩
abbrev cX10_isReach : ByteArray := prog_12_method_4_code
def yX10_isReach : MethodName := ⟨RX10, "isReach", "(I)Z"⟩
abbrev cX10_isLock : ByteArray := prog_12_method_5_code
def yX10_isLock : MethodName := ⟨RX10, "isLock", "(I)Z"⟩
abbrev cX10_isSquadron : ByteArray := prog_12_method_6_code
def yX10_isSquadron : MethodName := ⟨RX10, "isSquadron", "(I)Z"⟩
abbrev cX10_isCounty : ByteArray := prog_12_method_7_code
def yX10_isCounty : MethodName := ⟨RX10, "isCounty", "(I)Z"⟩
abbrev cX10_water : ByteArray := prog_12_method_8_code
def yX10_water : MethodName := ⟨RX10, "water", "(II)Z"⟩
abbrev cX10_lock : ByteArray := prog_12_method_9_code
def yX10_lock : MethodName := ⟨RX10, "lock", "(II)Z"⟩
abbrev cX10_lake : ByteArray := prog_12_method_10_code
def yX10_lake : MethodName := ⟨RX10, "lake", "(II)I"⟩
abbrev cX10_give : ByteArray := prog_12_method_11_code
def yX10_give : MethodName := ⟨RX10, "give", "(II)Z"⟩
abbrev cX10_ice : ByteArray := prog_12_method_12_code
def yX10_ice : MethodName := ⟨RX10, "ice", "(II)Z"⟩
abbrev cX10_hasIce : ByteArray := prog_12_method_13_code
def yX10_hasIce : MethodName := ⟨RX10, "hasIce", "(I)Z"⟩
abbrev cX10_squadron : ByteArray := prog_12_method_14_code
def yX10_squadron : MethodName := ⟨RX10, "squadron", "(IIII)I"⟩
abbrev cX10_feed : ByteArray := prog_12_method_15_code
def yX10_feed : MethodName := ⟨RX10, "feed", "(IIIII)I"⟩
abbrev cX10_four : ByteArray := prog_12_method_16_code
def yX10_four : MethodName := ⟨RX10, "four", "(I)V"⟩
abbrev cX10_blanks : ByteArray := prog_12_method_17_code
def yX10_blanks : MethodName := ⟨RX10, "blanks", "()V"⟩
abbrev cX10_word : ByteArray := prog_12_method_18_code
def yX10_word : MethodName := ⟨RX10, "word", "()J"⟩
abbrev cX10_takes : ByteArray := prog_12_method_19_code
def yX10_takes : MethodName := ⟨RX10, "takes", "(J)Z"⟩
abbrev cX10_takesNumber : ByteArray := prog_12_method_20_code
def yX10_takesNumber : MethodName := ⟨RX10, "takesNumber", "()Z"⟩
abbrev cX10_statement : ByteArray := prog_12_method_21_code
def yX10_statement : MethodName := ⟨RX10, "statement", "(I)Z"⟩
abbrev cX10_statute : ByteArray := prog_12_method_22_code
def yX10_statute : MethodName := ⟨RX10, "statute", "(I)I"⟩
abbrev cX10_fault : ByteArray := prog_12_method_23_code
def yX10_fault : MethodName := ⟨RX10, "fault", "()I"⟩
abbrev cX10_inForce : ByteArray := prog_12_method_24_code
def yX10_inForce : MethodName := ⟨RX10, "inForce", "(I)I"⟩
abbrev cX10_tells : ByteArray := prog_12_method_25_code
def yX10_tells : MethodName := ⟨RX10, "tells", "(IIII)I"⟩
abbrev cX10_allowed : ByteArray := prog_12_method_26_code
def yX10_allowed : MethodName := ⟨RX10, "allowed", "(II)I"⟩
abbrev cX10_law : ByteArray := prog_12_method_27_code
def yX10_law : MethodName := ⟨RX10, "law", "(II)I"⟩
abbrev cX10_leave : ByteArray := prog_12_method_28_code
def yX10_leave : MethodName := ⟨RX10, "leave", "(IZ)Z"⟩
abbrev cX10_lose : ByteArray := prog_12_method_29_code
def yX10_lose : MethodName := ⟨RX10, "lose", "(II)I"⟩
abbrev cX10_isAhead : ByteArray := prog_12_method_30_code
def yX10_isAhead : MethodName := ⟨RX10, "isAhead", "(III)Z"⟩
abbrev cX10_day : ByteArray := prog_12_method_31_code
def yX10_day : MethodName := ⟨RX10, "day", "()I"⟩
abbrev cX10_opens : ByteArray := prog_12_method_32_code
def yX10_opens : MethodName := ⟨RX10, "opens", "(I)V"⟩
abbrev cX10_next : ByteArray := prog_12_method_33_code
def yX10_next : MethodName := ⟨RX10, "next", "(I)I"⟩
abbrev cX10_told : ByteArray := prog_12_method_34_code
def yX10_told : MethodName := ⟨RX10, "told", "(II)I"⟩
abbrev cX10_judge : ByteArray := prog_12_method_35_code
def yX10_judge : MethodName := ⟨RX10, "judge", "(II)I"⟩
abbrev cX10_reach : ByteArray := prog_12_method_36_code
def yX10_reach : MethodName := ⟨RX10, "reach", "(II)I"⟩
abbrev cX10_store : ByteArray := prog_12_method_37_code
def yX10_store : MethodName := ⟨RX10, "store", "(I)I"⟩
abbrev cX10_allot : ByteArray := prog_12_method_38_code
def yX10_allot : MethodName := ⟨RX10, "allot", "(II)Z"⟩
abbrev cX10_rate : ByteArray := prog_12_method_39_code
def yX10_rate : MethodName := ⟨RX10, "rate", "(I)Z"⟩
abbrev cX10_commute : ByteArray := prog_12_method_40_code
def yX10_commute : MethodName := ⟨RX10, "commute", "(II)I"⟩
abbrev cX10_county : ByteArray := prog_12_method_41_code
def yX10_county : MethodName := ⟨RX10, "county", "(II)I"⟩
abbrev cX10_due : ByteArray := prog_12_method_42_code
def yX10_due : MethodName := ⟨RX10, "due", "(II)Z"⟩
abbrev cX10_least : ByteArray := prog_12_method_43_code
def yX10_least : MethodName := ⟨RX10, "least", "(III)I"⟩
abbrev cX10_count : ByteArray := prog_12_method_44_code
def yX10_count : MethodName := ⟨RX10, "count", "(I)I"⟩
def RJ6 : String := "java/lang/Integer"
def TJ6 : u_T := fun k => match k with
  | _ => ("", "", "", false)
def tyJ6 : Nat → FieldType := fun k => match k with
  | _ => .int
abbrev wsJ60 : List Cond := u_ws RJ6 TJ6 0
theorem nmJ6 : ∀ a, a < 0 → ∀ b, b < 0 → a ≠ b → (TJ6 a).2.1 ≠ (TJ6 b).2.1 := by decide +kernel
theorem tyJ6_ok : ∀ k, k < 0 → parseFieldDescriptor (TJ6 k).2.2.1 = some (tyJ6 k) := by decide +kernel
abbrev cJ6_bitCount_0f7a4 : ByteArray := prog_13_method_49_code
def yJ6_bitCount_0f7a4 : MethodName := ⟨RJ6, "bitCount", "(I)I"⟩
def RJ9 : String := "java/lang/Math"
def TJ9 : u_T := fun k => match k with
  | _ => ("", "", "", false)
def tyJ9 : Nat → FieldType := fun k => match k with
  | _ => .int
abbrev wsJ90 : List Cond := u_ws RJ9 TJ9 0
theorem nmJ9 : ∀ a, a < 0 → ∀ b, b < 0 → a ≠ b → (TJ9 a).2.1 ≠ (TJ9 b).2.1 := by decide +kernel
theorem tyJ9_ok : ∀ k, k < 0 → parseFieldDescriptor (TJ9 k).2.2.1 = some (tyJ9 k) := by decide +kernel
abbrev cJ9_max_7cf53 : ByteArray := prog_14_method_65_code
def yJ9_max_7cf53 : MethodName := ⟨RJ9, "max", "(II)I"⟩
abbrev cJ9_min_7cf53 : ByteArray := prog_14_method_69_code
def yJ9_min_7cf53 : MethodName := ⟨RJ9, "min", "(II)I"⟩
def RJ0 : String := "java/lang/String"
def TJ0 : u_T := fun k => match k with
  | _ => ("", "", "", false)
def tyJ0 : Nat → FieldType := fun k => match k with
  | _ => .int
abbrev wsJ00 : List Cond := u_ws RJ0 TJ0 0
theorem nmJ0 : ∀ a, a < 0 → ∀ b, b < 0 → a ≠ b → (TJ0 a).2.1 ≠ (TJ0 b).2.1 := by decide +kernel
theorem tyJ0_ok : ∀ k, k < 0 → parseFieldDescriptor (TJ0 k).2.2.1 = some (tyJ0 k) := by decide +kernel
abbrev cJ0_length_8abf5 : ByteArray := prog_15_method_54_code
def yJ0_length_8abf5 : MethodName := ⟨RJ0, "length", "()I"⟩
abbrev cJ0_charAt_5068e : ByteArray := prog_15_method_56_code
def yJ0_charAt_5068e : MethodName := ⟨RJ0, "charAt", "(I)C"⟩
abbrev cJ0_coder_7d493 : ByteArray := prog_15_method_152_code
def yJ0_coder_7d493 : MethodName := ⟨RJ0, "coder", "()B"⟩
abbrev cJ0_isLatin1_aae02 : ByteArray := prog_15_method_154_code
def yJ0_isLatin1_aae02 : MethodName := ⟨RJ0, "isLatin1", "()Z"⟩
abbrev cJ0_checkIndex_df160 : ByteArray := prog_15_method_155_code
def yJ0_checkIndex_df160 : MethodName := ⟨RJ0, "checkIndex", "(II)V"⟩
def RJ1 : String := "java/lang/StringLatin1"
def TJ1 : u_T := fun k => match k with
  | _ => ("", "", "", false)
def tyJ1 : Nat → FieldType := fun k => match k with
  | _ => .int
abbrev wsJ10 : List Cond := u_ws RJ1 TJ1 0
theorem nmJ1 : ∀ a, a < 0 → ∀ b, b < 0 → a ≠ b → (TJ1 a).2.1 ≠ (TJ1 b).2.1 := by decide +kernel
theorem tyJ1_ok : ∀ k, k < 0 → parseFieldDescriptor (TJ1 k).2.2.1 = some (tyJ1 k) := by decide +kernel
abbrev cJ1_charAt_3b067 : ByteArray := prog_16_method_2_code
def yJ1_charAt_3b067 : MethodName := ⟨RJ1, "charAt", "([BI)C"⟩
def RJ2 : String := "java/lang/StringUTF16"
def TJ2 : u_T := fun k => match k with
  | _ => ("", "", "", false)
def tyJ2 : Nat → FieldType := fun k => match k with
  | _ => .int
abbrev wsJ20 : List Cond := u_ws RJ2 TJ2 0
theorem nmJ2 : ∀ a, a < 0 → ∀ b, b < 0 → a ≠ b → (TJ2 a).2.1 ≠ (TJ2 b).2.1 := by decide +kernel
theorem tyJ2_ok : ∀ k, k < 0 → parseFieldDescriptor (TJ2 k).2.2.1 = some (tyJ2 k) := by decide +kernel
abbrev cJ2_getChar_3b067 : ByteArray := prog_17_method_5_code
def yJ2_getChar_3b067 : MethodName := ⟨RJ2, "getChar", "([BI)C"⟩
abbrev cJ2_length_9d52b : ByteArray := prog_17_method_6_code
def yJ2_length_9d52b : MethodName := ⟨RJ2, "length", "([B)I"⟩
abbrev cJ2_charAt_3b067 : ByteArray := prog_17_method_83_code
def yJ2_charAt_3b067 : MethodName := ⟨RJ2, "charAt", "([BI)C"⟩
abbrev cJ2_checkIndex_2214a : ByteArray := prog_17_method_91_code
def yJ2_checkIndex_2214a : MethodName := ⟨RJ2, "checkIndex", "(I[B)V"⟩
def RJ3 : String := "jdk/internal/util/Preconditions"
def TJ3 : u_T := fun k => match k with
  | _ => ("", "", "", false)
def tyJ3 : Nat → FieldType := fun k => match k with
  | _ => .int
abbrev wsJ30 : List Cond := u_ws RJ3 TJ3 0
theorem nmJ3 : ∀ a, a < 0 → ∀ b, b < 0 → a ≠ b → (TJ3 a).2.1 ≠ (TJ3 b).2.1 := by decide +kernel
theorem tyJ3_ok : ∀ k, k < 0 → parseFieldDescriptor (TJ3 k).2.2.1 = some (tyJ3 k) := by decide +kernel
abbrev cJ3_checkIndex_8e157 : ByteArray := prog_18_method_11_code
def yJ3_checkIndex_8e157 : MethodName := ⟨RJ3, "checkIndex", "(IILjava/util/function/BiFunction;)I"⟩
def RL : String := "TributeFleetLaw"
abbrev cL_cell : ByteArray := method_2_code
def yL_cell : MethodName := ⟨RL, "cell", "([II)I"⟩
abbrev cL_law : ByteArray := code
def yL_law : MethodName := ⟨RL, "law", "([I)Z"⟩
def wsX0_init : List Cond := .code yX0_init cX0_init 3 none :: ([.methodLink RX0 3 objectInit, .instanceMethod objectInit, .code objectInit ⟨#[0xb1]⟩ 1 none, .fieldLink RX0 9 "TributeFleet$Canal" "reaches" "I", .arrayClass .int, .fieldLink RX0 15 "TributeFleet$Canal" "water" "[I", .fieldLink RX0 19 "TributeFleet$Canal" "lockBoats" "[I", .fieldLink RX0 22 "TributeFleet$Canal" "lakeReach" "[I", .fieldLink RX0 25 "TributeFleet$Canal" "lakeStore" "[I", .fieldLink RX0 28 "TributeFleet$Canal" "lakeGives" "[I", .fieldLink RX0 31 "TributeFleet$Canal" "lakes" "I", .fieldLink RX0 34 "TributeFleet$Canal" "iceDay" "I", .fieldLink RX0 37 "TributeFleet$Canal" "iceReach" "I"] ++ wsX00)
def wsX9_isPlace : List Cond := .code yX9_isPlace cX9_isPlace 2 (some .boolean) :: ([])
def wsX0_hasReach : List Cond := .code yX0_hasReach cX0_hasReach 2 (some .boolean) :: ([.fieldLink RX0 9 "TributeFleet$Canal" "reaches" "I", .static yX9_isPlace, .initialized RX9, .code yX9_isPlace cX9_isPlace 2 (some .boolean)] ++ wsX00)
def wsX0_hasLock : List Cond := .code yX0_hasLock cX0_hasLock 2 (some .boolean) :: ([.fieldLink RX0 9 "TributeFleet$Canal" "reaches" "I", .static yX9_isPlace, .initialized RX9, .code yX9_isPlace cX9_isPlace 2 (some .boolean)] ++ wsX00)
def wsX0_hasLake : List Cond := .code yX0_hasLake cX0_hasLake 2 (some .boolean) :: ([.fieldLink RX0 31 "TributeFleet$Canal" "lakes" "I", .static yX9_isPlace, .initialized RX9, .code yX9_isPlace cX9_isPlace 2 (some .boolean)] ++ wsX00)
def wsX0_addLake : List Cond := .code yX0_addLake cX0_addLake 3 (some .int) :: ([.fieldLink RX0 31 "TributeFleet$Canal" "lakes" "I", .fieldLink RX0 22 "TributeFleet$Canal" "lakeReach" "[I", .fieldLink RX0 25 "TributeFleet$Canal" "lakeStore" "[I"] ++ wsX00)
def wsX0_isIcy : List Cond := .code yX0_isIcy cX0_isIcy 3 (some .boolean) :: ([.fieldLink RX0 34 "TributeFleet$Canal" "iceDay" "I", .fieldLink RX0 37 "TributeFleet$Canal" "iceReach" "I"] ++ wsX00)
def wsX0_isTooLow : List Cond := .code yX0_isTooLow cX0_isTooLow 3 (some .boolean) :: ([.fieldLink RX0 15 "TributeFleet$Canal" "water" "[I", .methodLink RX0 44 yX0_hasReach, .instanceMethod yX0_hasReach, .selects RX0 yX0_hasReach yX0_hasReach, .initialized RX0, .code yX0_hasReach cX0_hasReach 2 (some .boolean), .fieldLink RX0 9 "TributeFleet$Canal" "reaches" "I", .static yX9_isPlace, .initialized RX9, .code yX9_isPlace cX9_isPlace 2 (some .boolean)] ++ wsX00)
def wsX0_boatsOf : List Cond := .code yX0_boatsOf cX0_boatsOf 2 (some .int) :: ([.fieldLink RX0 19 "TributeFleet$Canal" "lockBoats" "[I", .methodLink RX0 48 yX0_hasLock, .instanceMethod yX0_hasLock, .selects RX0 yX0_hasLock yX0_hasLock, .initialized RX0, .code yX0_hasLock cX0_hasLock 2 (some .boolean), .fieldLink RX0 9 "TributeFleet$Canal" "reaches" "I", .static yX9_isPlace, .initialized RX9, .code yX9_isPlace cX9_isPlace 2 (some .boolean)] ++ wsX00)
def wsX0_takeFromLakes : List Cond := .code yX0_takeFromLakes cX0_takeFromLakes 4 none :: ([.fieldLink RX0 31 "TributeFleet$Canal" "lakes" "I", .fieldLink RX0 22 "TributeFleet$Canal" "lakeReach" "[I", .fieldLink RX0 28 "TributeFleet$Canal" "lakeGives" "[I", .fieldLink RX0 25 "TributeFleet$Canal" "lakeStore" "[I", .methodLink RX0 51 Lib.Math.min.name, .static Lib.Math.min.name, .initialized "java/lang/Math", .code Lib.Math.min.name Lib.Math.min.code 2 (some .int), .fieldLink RX0 15 "TributeFleet$Canal" "water" "[I", .methodLink RX0 44 yX0_hasReach, .instanceMethod yX0_hasReach, .selects RX0 yX0_hasReach yX0_hasReach, .initialized RX0, .code yX0_hasReach cX0_hasReach 2 (some .boolean), .fieldLink RX0 9 "TributeFleet$Canal" "reaches" "I", .static yX9_isPlace, .initialized RX9, .code yX9_isPlace cX9_isPlace 2 (some .boolean)] ++ wsX00)
def wsX0_letThrough : List Cond := .code yX0_letThrough cX0_letThrough 3 none :: ([.fieldLink RX0 15 "TributeFleet$Canal" "water" "[I", .methodLink RX0 51 Lib.Math.min.name, .static Lib.Math.min.name, .initialized "java/lang/Math", .code Lib.Math.min.name Lib.Math.min.code 2 (some .int), .methodLink RX0 48 yX0_hasLock, .instanceMethod yX0_hasLock, .selects RX0 yX0_hasLock yX0_hasLock, .initialized RX0, .code yX0_hasLock cX0_hasLock 2 (some .boolean), .fieldLink RX0 9 "TributeFleet$Canal" "reaches" "I", .static yX9_isPlace, .initialized RX9, .code yX9_isPlace cX9_isPlace 2 (some .boolean)] ++ wsX00)
def wsX7_init : List Cond := .code yX7_init cX7_init 5 none :: ([.methodLink RX7 3 objectInit, .instanceMethod objectInit, .code objectInit ⟨#[0xb1]⟩ 1 none, .fieldLink RX7 9 "TributeFleet$Statute" "number" "I", .fieldLink RX7 15 "TributeFleet$Statute" "fromDay" "I", .arrayClass .int, .fieldLink RX7 18 "TributeFleet$Statute" "allowed" "[I", .fieldLink RX7 22 "TributeFleet$Statute" "order" "I", .fieldLink RX7 25 "TributeFleet$Statute" "loss" "I", .fieldLink RX7 28 "TributeFleet$Statute" "goodsABoat" "I", .fieldLink RX7 31 "TributeFleet$Statute" "fine" "I"] ++ wsX70)
def wsX1_init : List Cond := .code yX1_init cX1_init 2 none :: ([.methodLink RX1 3 objectInit, .instanceMethod objectInit, .code objectInit ⟨#[0xb1]⟩ 1 none, .classLink RX1 11 RX7, .fieldLink RX1 13 "TributeFleet$Code" "taken" "[LTributeFleet$Statute;", .instantiable RX7 7, .initialized RX7, .fieldLink RX1 20 "TributeFleet$Code" "unwritten" "LTributeFleet$Statute;", .fieldLink RX1 24 "TributeFleet$Code" "size" "I", .methodLink RX1 17 yX7_init, .instanceMethod yX7_init, .code yX7_init cX7_init 5 none, .methodLink RX7 3 objectInit, .fieldLink RX7 9 "TributeFleet$Statute" "number" "I", .fieldLink RX7 15 "TributeFleet$Statute" "fromDay" "I", .arrayClass .int, .fieldLink RX7 18 "TributeFleet$Statute" "allowed" "[I", .fieldLink RX7 22 "TributeFleet$Statute" "order" "I", .fieldLink RX7 25 "TributeFleet$Statute" "loss" "I", .fieldLink RX7 28 "TributeFleet$Statute" "goodsABoat" "I", .fieldLink RX7 31 "TributeFleet$Statute" "fine" "I"] ++ wsX10 ++ wsX70)
def wsX1_isFull : List Cond := .code yX1_isFull cX1_isFull 1 (some .boolean) :: ([.fieldLink RX1 24 "TributeFleet$Code" "size" "I"] ++ wsX10)
def wsX1_take : List Cond := .code yX1_take cX1_take 2 (some .int) :: ([.fieldLink RX1 13 "TributeFleet$Code" "taken" "[LTributeFleet$Statute;", .fieldLink RX1 24 "TributeFleet$Code" "size" "I", .methodLink RX1 28 yX1_isFull, .instanceMethod yX1_isFull, .selects RX1 yX1_isFull yX1_isFull, .initialized RX1, .code yX1_isFull cX1_isFull 1 (some .boolean)] ++ wsX10)
def wsX1_inForce : List Cond := .code yX1_inForce cX1_inForce 4 (some (.object "TributeFleet$Statute")) :: ([.fieldLink RX1 24 "TributeFleet$Code" "size" "I", .fieldLink RX1 13 "TributeFleet$Code" "taken" "[LTributeFleet$Statute;", .fieldLink RX1 32 "TributeFleet$Statute" "fromDay" "I", .fieldLink RX1 20 "TributeFleet$Code" "unwritten" "LTributeFleet$Statute;"] ++ wsX10 ++ wsX70)
def wsX2_init : List Cond := .code yX2_init cX2_init 1 none :: ([.methodLink RX2 3 objectInit, .instanceMethod objectInit, .code objectInit ⟨#[0xb1]⟩ 1 none, .arrayClass .int, .fieldLink RX2 9 "TributeFleet$Counties" "allotted" "[I", .fieldLink RX2 15 "TributeFleet$Counties" "commuted" "[I", .fieldLink RX2 18 "TributeFleet$Counties" "paid" "[I", .fieldLink RX2 21 "TributeFleet$Counties" "coinsABag" "I"] ++ wsX20)
def wsX9_isWithin : List Cond := .code yX9_isWithin cX9_isWithin 3 (some .boolean) :: ([])
def wsX9_isCounty : List Cond := .code yX9_isCounty cX9_isCounty 1 (some .boolean) :: ([.methodLink RX9 82 yX9_isWithin, .static yX9_isWithin, .initialized RX9, .code yX9_isWithin cX9_isWithin 3 (some .boolean)])
def wsX2_leftToCommute : List Cond := .code yX2_leftToCommute cX2_leftToCommute 2 (some .int) :: ([.fieldLink RX2 9 "TributeFleet$Counties" "allotted" "[I", .fieldLink RX2 15 "TributeFleet$Counties" "commuted" "[I", .static yX9_isCounty, .initialized RX9, .code yX9_isCounty cX9_isCounty 1 (some .boolean), .methodLink RX9 82 yX9_isWithin, .static yX9_isWithin, .code yX9_isWithin cX9_isWithin 3 (some .boolean)] ++ wsX20)
def wsX2_payFor : List Cond := .code yX2_payFor cX2_payFor 4 (some .int) :: ([.fieldLink RX2 21 "TributeFleet$Counties" "coinsABag" "I", .fieldLink RX2 15 "TributeFleet$Counties" "commuted" "[I", .fieldLink RX2 18 "TributeFleet$Counties" "paid" "[I", .static yX9_isCounty, .initialized RX9, .code yX9_isCounty cX9_isCounty 1 (some .boolean), .methodLink RX9 82 yX9_isWithin, .static yX9_isWithin, .code yX9_isWithin cX9_isWithin 3 (some .boolean)] ++ wsX20)
def wsX3_init : List Cond := .code yX3_init cX3_init 1 none :: ([.methodLink RX3 3 objectInit, .instanceMethod objectInit, .code objectInit ⟨#[0xb1]⟩ 1 none, .classLink RX3 11 RX6, .fieldLink RX3 13 "TributeFleet$Fleet" "squadrons" "[LTributeFleet$Squadron;", .arrayClass .int, .fieldLink RX3 17 "TributeFleet$Fleet" "line" "[I", .fieldLink RX3 21 "TributeFleet$Fleet" "size" "I"] ++ wsX30)
def wsX3_isFull : List Cond := .code yX3_isFull cX3_isFull 1 (some .boolean) :: ([.fieldLink RX3 21 "TributeFleet$Fleet" "size" "I"] ++ wsX30)
def wsX3_add : List Cond := .code yX3_add cX3_add 2 (some .int) :: ([.fieldLink RX3 13 "TributeFleet$Fleet" "squadrons" "[LTributeFleet$Squadron;", .fieldLink RX3 21 "TributeFleet$Fleet" "size" "I", .methodLink RX3 25 yX3_isFull, .instanceMethod yX3_isFull, .selects RX3 yX3_isFull yX3_isFull, .initialized RX3, .code yX3_isFull cX3_isFull 1 (some .boolean)] ++ wsX30)
def wsX3_find : List Cond := .code yX3_find cX3_find 2 (some (.object "TributeFleet$Squadron")) :: ([.fieldLink RX3 21 "TributeFleet$Fleet" "size" "I", .fieldLink RX3 13 "TributeFleet$Fleet" "squadrons" "[LTributeFleet$Squadron;", .static yX9_isPlace, .initialized RX9, .code yX9_isPlace cX9_isPlace 2 (some .boolean)] ++ wsX30)
def wsX3_hasAll : List Cond := .code yX3_hasAll cX3_hasAll 2 (some .boolean) :: ([.fieldLink RX3 21 "TributeFleet$Fleet" "size" "I"] ++ wsX30)
def wsX3_inLine : List Cond := .code yX3_inLine cX3_inLine 2 (some (.object "TributeFleet$Squadron")) :: ([.fieldLink RX3 17 "TributeFleet$Fleet" "line" "[I", .static yX9_isPlace, .initialized RX9, .code yX9_isPlace cX9_isPlace 2 (some .boolean), .methodLink RX3 33 yX3_find, .instanceMethod yX3_find, .selects RX3 yX3_find yX3_find, .initialized RX3, .code yX3_find cX3_find 2 (some (.object "TributeFleet$Squadron")), .fieldLink RX3 21 "TributeFleet$Fleet" "size" "I", .fieldLink RX3 13 "TributeFleet$Fleet" "squadrons" "[LTributeFleet$Squadron;"] ++ wsX30)
def wsX6_hasCome : List Cond := .code yX6_hasCome cX6_hasCome 1 (some .boolean) :: ([.fieldLink RX6 34 "TributeFleet$Squadron" "cameOn" "I"] ++ wsX60)
def wsX6_beginDay : List Cond := .code yX6_beginDay cX6_beginDay 1 none :: ([.fieldLink RX6 40 "TributeFleet$Squadron" "why" "I", .fieldLink RX6 31 "TributeFleet$Squadron" "reach" "I", .fieldLink RX6 24 "TributeFleet$Squadron" "daysIn" "[I", .methodLink RX6 50 yX6_hasCome, .instanceMethod yX6_hasCome, .selects RX6 yX6_hasCome yX6_hasCome, .initialized RX6, .code yX6_hasCome cX6_hasCome 1 (some .boolean), .fieldLink RX6 34 "TributeFleet$Squadron" "cameOn" "I", .static yX9_isPlace, .initialized RX9, .code yX9_isPlace cX9_isPlace 2 (some .boolean)] ++ wsX60)
def wsX3_beginDay : List Cond := .code yX3_beginDay cX3_beginDay 3 none :: ([.fieldLink RX3 21 "TributeFleet$Fleet" "size" "I", .methodLink RX3 33 yX3_find, .instanceMethod yX3_find, .selects RX3 yX3_find yX3_find, .initialized RX3, .code yX3_find cX3_find 2 (some (.object "TributeFleet$Squadron")), .fieldLink RX3 13 "TributeFleet$Fleet" "squadrons" "[LTributeFleet$Squadron;", .static yX9_isPlace, .initialized RX9, .code yX9_isPlace cX9_isPlace 2 (some .boolean), .methodLink RX3 37 yX6_beginDay, .instanceMethod yX6_beginDay, .selects RX6 yX6_beginDay yX6_beginDay, .initialized RX6, .code yX6_beginDay cX6_beginDay 1 none, .fieldLink RX6 40 "TributeFleet$Squadron" "why" "I", .fieldLink RX6 31 "TributeFleet$Squadron" "reach" "I", .fieldLink RX6 24 "TributeFleet$Squadron" "daysIn" "[I", .methodLink RX6 50 yX6_hasCome, .instanceMethod yX6_hasCome, .selects RX6 yX6_hasCome yX6_hasCome, .code yX6_hasCome cX6_hasCome 1 (some .boolean), .fieldLink RX6 34 "TributeFleet$Squadron" "cameOn" "I"] ++ wsX30 ++ wsX60)
def wsX3_isAhead : List Cond := .code yX3_isAhead cX3_isAhead 6 (some .boolean) :: ([.fieldLink RX3 44 "TributeFleet$Squadron" "county" "I", .fieldLink RX3 47 "TributeFleet$Squadron" "boats" "I", .methodLink RX3 33 yX3_find, .instanceMethod yX3_find, .selects RX3 yX3_find yX3_find, .initialized RX3, .code yX3_find cX3_find 2 (some (.object "TributeFleet$Squadron")), .fieldLink RX3 21 "TributeFleet$Fleet" "size" "I", .fieldLink RX3 13 "TributeFleet$Fleet" "squadrons" "[LTributeFleet$Squadron;", .static yX9_isPlace, .initialized RX9, .code yX9_isPlace cX9_isPlace 2 (some .boolean)] ++ wsX60 ++ wsX30)
def wsX3_lineUp : List Cond := .code yX3_lineUp cX3_lineUp 4 none :: ([.fieldLink RX3 21 "TributeFleet$Fleet" "size" "I", .fieldLink RX3 17 "TributeFleet$Fleet" "line" "[I", .methodLink RX3 40 yX3_isAhead, .instanceMethod yX3_isAhead, .selects RX3 yX3_isAhead yX3_isAhead, .initialized RX3, .code yX3_isAhead cX3_isAhead 6 (some .boolean), .fieldLink RX3 44 "TributeFleet$Squadron" "county" "I", .fieldLink RX3 47 "TributeFleet$Squadron" "boats" "I", .methodLink RX3 33 yX3_find, .instanceMethod yX3_find, .selects RX3 yX3_find yX3_find, .code yX3_find cX3_find 2 (some (.object "TributeFleet$Squadron")), .fieldLink RX3 13 "TributeFleet$Fleet" "squadrons" "[LTributeFleet$Squadron;", .static yX9_isPlace, .initialized RX9, .code yX9_isPlace cX9_isPlace 2 (some .boolean)] ++ wsX30 ++ wsX60)
def wsX3_boatsIn : List Cond := .code yX3_boatsIn cX3_boatsIn 5 (some .int) :: ([.fieldLink RX3 21 "TributeFleet$Fleet" "size" "I", .fieldLink RX3 50 "TributeFleet$Squadron" "reach" "I", .fieldLink RX3 47 "TributeFleet$Squadron" "boats" "I", .methodLink RX3 33 yX3_find, .instanceMethod yX3_find, .selects RX3 yX3_find yX3_find, .initialized RX3, .code yX3_find cX3_find 2 (some (.object "TributeFleet$Squadron")), .fieldLink RX3 13 "TributeFleet$Fleet" "squadrons" "[LTributeFleet$Squadron;", .static yX9_isPlace, .initialized RX9, .code yX9_isPlace cX9_isPlace 2 (some .boolean)] ++ wsX30 ++ wsX60)
def wsX6_bagsLeft : List Cond := .code yX6_bagsLeft cX6_bagsLeft 1 (some .int) :: ([.fieldLink RX6 18 "TributeFleet$Squadron" "bags" "I", .fieldLink RX6 37 "TributeFleet$Squadron" "lost" "I"] ++ wsX60)
def wsX3_bagsComeOf : List Cond := .code yX3_bagsComeOf cX3_bagsComeOf 5 (some .int) :: ([.fieldLink RX3 21 "TributeFleet$Fleet" "size" "I", .fieldLink RX3 44 "TributeFleet$Squadron" "county" "I", .methodLink RX3 33 yX3_find, .instanceMethod yX3_find, .selects RX3 yX3_find yX3_find, .initialized RX3, .code yX3_find cX3_find 2 (some (.object "TributeFleet$Squadron")), .fieldLink RX3 13 "TributeFleet$Fleet" "squadrons" "[LTributeFleet$Squadron;", .static yX9_isPlace, .initialized RX9, .code yX9_isPlace cX9_isPlace 2 (some .boolean), .methodLink RX3 53 yX6_hasCome, .instanceMethod yX6_hasCome, .selects RX6 yX6_hasCome yX6_hasCome, .initialized RX6, .code yX6_hasCome cX6_hasCome 1 (some .boolean), .fieldLink RX6 34 "TributeFleet$Squadron" "cameOn" "I", .methodLink RX3 56 yX6_bagsLeft, .instanceMethod yX6_bagsLeft, .selects RX6 yX6_bagsLeft yX6_bagsLeft, .code yX6_bagsLeft cX6_bagsLeft 1 (some .int), .fieldLink RX6 18 "TributeFleet$Squadron" "bags" "I", .fieldLink RX6 37 "TributeFleet$Squadron" "lost" "I"] ++ wsX30 ++ wsX60)
def wsX3_come : List Cond := .code yX3_come cX3_come 4 (some .int) :: ([.fieldLink RX3 21 "TributeFleet$Fleet" "size" "I", .methodLink RX3 33 yX3_find, .instanceMethod yX3_find, .selects RX3 yX3_find yX3_find, .initialized RX3, .code yX3_find cX3_find 2 (some (.object "TributeFleet$Squadron")), .fieldLink RX3 13 "TributeFleet$Fleet" "squadrons" "[LTributeFleet$Squadron;", .static yX9_isPlace, .initialized RX9, .code yX9_isPlace cX9_isPlace 2 (some .boolean), .methodLink RX3 53 yX6_hasCome, .instanceMethod yX6_hasCome, .selects RX6 yX6_hasCome yX6_hasCome, .initialized RX6, .code yX6_hasCome cX6_hasCome 1 (some .boolean), .fieldLink RX6 34 "TributeFleet$Squadron" "cameOn" "I"] ++ wsX30 ++ wsX60)
def wsX4_init : List Cond := .code yX4_init cX4_init 2 none :: ([.methodLink RX4 3 objectInit, .instanceMethod objectInit, .code objectInit ⟨#[0xb1]⟩ 1 none, .fieldLink RX4 9 "TributeFleet$Reader" "tape" "LTributeFleet$Tape;", .fieldLink RX4 15 "TributeFleet$Reader" "length" "I", .fieldLink RX4 19 "TributeFleet$Reader" "start" "I", .fieldLink RX4 22 "TributeFleet$Reader" "end" "I", .fieldLink RX4 25 "TributeFleet$Reader" "kind" "I"] ++ wsX40)
def wsX8_at : List Cond := .code yX8_at cX8_at 2 (some .int) :: ([.fieldLink RX8 15 "TributeFleet$Tape" "size" "I", .fieldLink RX8 11 "TributeFleet$Tape" "bytes" "[B"] ++ wsX80)
def wsX4_isBlank : List Cond := .code yX4_isBlank cX4_isBlank 1 (some .boolean) :: ([])
def wsX4_kindOf : List Cond := .code yX4_kindOf cX4_kindOf 1 (some .int) :: ([])
def wsX4_step : List Cond := .code yX4_step cX4_step 1 none :: ([.fieldLink RX4 22 "TributeFleet$Reader" "end" "I", .fieldLink RX4 19 "TributeFleet$Reader" "start" "I", .fieldLink RX4 15 "TributeFleet$Reader" "length" "I", .fieldLink RX4 9 "TributeFleet$Reader" "tape" "LTributeFleet$Tape;", .fieldLink RX4 25 "TributeFleet$Reader" "kind" "I", .methodLink RX4 86 yX8_at, .instanceMethod yX8_at, .selects RX8 yX8_at yX8_at, .initialized RX8, .code yX8_at cX8_at 2 (some .int), .fieldLink RX8 15 "TributeFleet$Tape" "size" "I", .fieldLink RX8 11 "TributeFleet$Tape" "bytes" "[B", .methodLink RX4 92 yX4_isBlank, .static yX4_isBlank, .initialized RX4, .code yX4_isBlank cX4_isBlank 1 (some .boolean), .methodLink RX4 96 yX4_kindOf, .static yX4_kindOf, .code yX4_kindOf cX4_kindOf 1 (some .int)] ++ wsX40 ++ wsX80)
def wsJ0_coder_7d493 : List Cond := .code yJ0_coder_7d493 cJ0_coder_7d493 1 (some .byte) :: ([.fieldLink RJ0 38 "java/lang/String" "COMPACT_STRINGS" "Z", .fieldLink RJ0 15 "java/lang/String" "coder" "B"])
def wsJ0_length_8abf5 : List Cond := .code yJ0_length_8abf5 cJ0_length_8abf5 1 (some .int) :: ([.fieldLink RJ0 9 "java/lang/String" "value" "[B", .methodLink RJ0 335 yJ0_coder_7d493, .instanceMethod yJ0_coder_7d493, .selects RJ0 yJ0_coder_7d493 yJ0_coder_7d493, .initialized RJ0, .code yJ0_coder_7d493 cJ0_coder_7d493 1 (some .byte), .fieldLink RJ0 38 "java/lang/String" "COMPACT_STRINGS" "Z", .fieldLink RJ0 15 "java/lang/String" "coder" "B"])
def wsJ0_isLatin1_aae02 : List Cond := .code yJ0_isLatin1_aae02 cJ0_isLatin1_aae02 1 (some .boolean) :: ([.fieldLink RJ0 38 "java/lang/String" "COMPACT_STRINGS" "Z", .fieldLink RJ0 15 "java/lang/String" "coder" "B"])
def wsJ3_checkIndex_8e157 : List Cond := .code yJ3_checkIndex_8e157 cJ3_checkIndex_8e157 3 (some .int) :: ([])
def wsJ0_checkIndex_df160 : List Cond := .code yJ0_checkIndex_df160 cJ0_checkIndex_df160 2 none :: ([.fieldLink RJ0 1053 "jdk/internal/util/Preconditions" "SIOOBE_FORMATTER" "Ljava/util/function/BiFunction;", .methodLink RJ0 1059 yJ3_checkIndex_8e157, .static yJ3_checkIndex_8e157, .initialized RJ3, .code yJ3_checkIndex_8e157 cJ3_checkIndex_8e157 3 (some .int)])
def wsJ1_charAt_3b067 : List Cond := .code yJ1_charAt_3b067 cJ1_charAt_3b067 2 (some .char) :: ([.methodLink RJ1 9 yJ0_checkIndex_df160, .static yJ0_checkIndex_df160, .initialized RJ0, .code yJ0_checkIndex_df160 cJ0_checkIndex_df160 2 none, .fieldLink RJ0 1053 "jdk/internal/util/Preconditions" "SIOOBE_FORMATTER" "Ljava/util/function/BiFunction;", .methodLink RJ0 1059 yJ3_checkIndex_8e157, .static yJ3_checkIndex_8e157, .initialized RJ3, .code yJ3_checkIndex_8e157 cJ3_checkIndex_8e157 3 (some .int)])
def wsJ2_length_9d52b : List Cond := .code yJ2_length_9d52b cJ2_length_9d52b 1 (some .int) :: ([])
def wsJ2_checkIndex_2214a : List Cond := .code yJ2_checkIndex_2214a cJ2_checkIndex_2214a 2 none :: ([.methodLink RJ2 48 yJ2_length_9d52b, .static yJ2_length_9d52b, .initialized RJ2, .code yJ2_length_9d52b cJ2_length_9d52b 1 (some .int), .methodLink RJ2 414 yJ0_checkIndex_df160, .static yJ0_checkIndex_df160, .initialized RJ0, .code yJ0_checkIndex_df160 cJ0_checkIndex_df160 2 none, .fieldLink RJ0 1053 "jdk/internal/util/Preconditions" "SIOOBE_FORMATTER" "Ljava/util/function/BiFunction;", .methodLink RJ0 1059 yJ3_checkIndex_8e157, .static yJ3_checkIndex_8e157, .initialized RJ3, .code yJ3_checkIndex_8e157 cJ3_checkIndex_8e157 3 (some .int)])
def wsJ2_getChar_3b067 : List Cond := .code yJ2_getChar_3b067 cJ2_getChar_3b067 2 (some .char) :: ([.fieldLink RJ2 44 "java/lang/StringUTF16" "$assertionsDisabled" "Z", .fieldLink RJ2 59 "java/lang/StringUTF16" "HI_BYTE_SHIFT" "I", .fieldLink RJ2 63 "java/lang/StringUTF16" "LO_BYTE_SHIFT" "I", .methodLink RJ2 48 yJ2_length_9d52b, .static yJ2_length_9d52b, .initialized RJ2, .code yJ2_length_9d52b cJ2_length_9d52b 1 (some .int)])
def wsJ2_charAt_3b067 : List Cond := .code yJ2_charAt_3b067 cJ2_charAt_3b067 2 (some .char) :: ([.methodLink RJ2 67 yJ2_checkIndex_2214a, .static yJ2_checkIndex_2214a, .initialized RJ2, .code yJ2_checkIndex_2214a cJ2_checkIndex_2214a 2 none, .methodLink RJ2 48 yJ2_length_9d52b, .static yJ2_length_9d52b, .code yJ2_length_9d52b cJ2_length_9d52b 1 (some .int), .methodLink RJ2 414 yJ0_checkIndex_df160, .static yJ0_checkIndex_df160, .initialized RJ0, .code yJ0_checkIndex_df160 cJ0_checkIndex_df160 2 none, .fieldLink RJ0 1053 "jdk/internal/util/Preconditions" "SIOOBE_FORMATTER" "Ljava/util/function/BiFunction;", .methodLink RJ0 1059 yJ3_checkIndex_8e157, .static yJ3_checkIndex_8e157, .initialized RJ3, .code yJ3_checkIndex_8e157 cJ3_checkIndex_8e157 3 (some .int), .methodLink RJ2 71 yJ2_getChar_3b067, .static yJ2_getChar_3b067, .code yJ2_getChar_3b067 cJ2_getChar_3b067 2 (some .char), .fieldLink RJ2 44 "java/lang/StringUTF16" "$assertionsDisabled" "Z", .fieldLink RJ2 59 "java/lang/StringUTF16" "HI_BYTE_SHIFT" "I", .fieldLink RJ2 63 "java/lang/StringUTF16" "LO_BYTE_SHIFT" "I"])
def wsJ0_charAt_5068e_r1 : List Cond := [Cond.fieldLink RJ0 9 "java/lang/String" "value" "[B", Cond.methodLink RJ0 492 yJ0_isLatin1_aae02, Cond.instanceMethod yJ0_isLatin1_aae02, Cond.selects RJ0 yJ0_isLatin1_aae02 yJ0_isLatin1_aae02, Cond.initialized RJ0, Cond.code yJ0_isLatin1_aae02 cJ0_isLatin1_aae02 1 (some .boolean), Cond.fieldLink RJ0 38 "java/lang/String" "COMPACT_STRINGS" "Z", Cond.fieldLink RJ0 15 "java/lang/String" "coder" "B", Cond.methodLink RJ0 495 yJ1_charAt_3b067, Cond.static yJ1_charAt_3b067, Cond.initialized RJ1, Cond.code yJ1_charAt_3b067 cJ1_charAt_3b067 2 (some .char), Cond.methodLink RJ1 9 yJ0_checkIndex_df160, Cond.static yJ0_checkIndex_df160, Cond.code yJ0_checkIndex_df160 cJ0_checkIndex_df160 2 none, Cond.fieldLink RJ0 1053 "jdk/internal/util/Preconditions" "SIOOBE_FORMATTER" "Ljava/util/function/BiFunction;", Cond.methodLink RJ0 1059 yJ3_checkIndex_8e157, Cond.static yJ3_checkIndex_8e157, Cond.initialized RJ3, Cond.code yJ3_checkIndex_8e157 cJ3_checkIndex_8e157 3 (some .int), Cond.methodLink RJ0 498 yJ2_charAt_3b067, Cond.static yJ2_charAt_3b067, Cond.initialized RJ2, Cond.code yJ2_charAt_3b067 cJ2_charAt_3b067 2 (some .char)]
def wsJ0_charAt_5068e_r2 : List Cond := [Cond.methodLink RJ2 67 yJ2_checkIndex_2214a, Cond.static yJ2_checkIndex_2214a, Cond.code yJ2_checkIndex_2214a cJ2_checkIndex_2214a 2 none, Cond.methodLink RJ2 48 yJ2_length_9d52b, Cond.static yJ2_length_9d52b, Cond.code yJ2_length_9d52b cJ2_length_9d52b 1 (some .int), Cond.methodLink RJ2 414 yJ0_checkIndex_df160, Cond.methodLink RJ2 71 yJ2_getChar_3b067, Cond.static yJ2_getChar_3b067, Cond.code yJ2_getChar_3b067 cJ2_getChar_3b067 2 (some .char), Cond.fieldLink RJ2 44 "java/lang/StringUTF16" "$assertionsDisabled" "Z", Cond.fieldLink RJ2 59 "java/lang/StringUTF16" "HI_BYTE_SHIFT" "I", Cond.fieldLink RJ2 63 "java/lang/StringUTF16" "LO_BYTE_SHIFT" "I"]
def wsJ0_charAt_5068e : List Cond := .code yJ0_charAt_5068e cJ0_charAt_5068e 2 (some .char) :: ((wsJ0_charAt_5068e_r1 ++ wsJ0_charAt_5068e_r2))
def wsX4_isWord_r1 : List Cond := [Cond.fieldLink RX4 25 "TributeFleet$Reader" "kind" "I", Cond.fieldLink RX4 22 "TributeFleet$Reader" "end" "I", Cond.fieldLink RX4 19 "TributeFleet$Reader" "start" "I", Cond.fieldLink RX4 9 "TributeFleet$Reader" "tape" "LTributeFleet$Tape;", Cond.methodLink RX4 99 yJ0_length_8abf5, Cond.instanceMethod yJ0_length_8abf5, Cond.selects RJ0 yJ0_length_8abf5 yJ0_length_8abf5, Cond.initialized RJ0, Cond.code yJ0_length_8abf5 cJ0_length_8abf5 1 (some .int), Cond.fieldLink RJ0 9 "java/lang/String" "value" "[B", Cond.methodLink RJ0 335 yJ0_coder_7d493, Cond.instanceMethod yJ0_coder_7d493, Cond.selects RJ0 yJ0_coder_7d493 yJ0_coder_7d493, Cond.code yJ0_coder_7d493 cJ0_coder_7d493 1 (some .byte), Cond.fieldLink RJ0 38 "java/lang/String" "COMPACT_STRINGS" "Z", Cond.fieldLink RJ0 15 "java/lang/String" "coder" "B", Cond.methodLink RX4 86 yX8_at, Cond.instanceMethod yX8_at, Cond.selects RX8 yX8_at yX8_at, Cond.initialized RX8, Cond.code yX8_at cX8_at 2 (some .int), Cond.fieldLink RX8 15 "TributeFleet$Tape" "size" "I", Cond.fieldLink RX8 11 "TributeFleet$Tape" "bytes" "[B", Cond.methodLink RX4 103 yJ0_charAt_5068e]
def wsX4_isWord_r2 : List Cond := [Cond.instanceMethod yJ0_charAt_5068e, Cond.selects RJ0 yJ0_charAt_5068e yJ0_charAt_5068e, Cond.code yJ0_charAt_5068e cJ0_charAt_5068e 2 (some .char), Cond.methodLink RJ0 492 yJ0_isLatin1_aae02, Cond.instanceMethod yJ0_isLatin1_aae02, Cond.selects RJ0 yJ0_isLatin1_aae02 yJ0_isLatin1_aae02, Cond.code yJ0_isLatin1_aae02 cJ0_isLatin1_aae02 1 (some .boolean), Cond.methodLink RJ0 495 yJ1_charAt_3b067, Cond.static yJ1_charAt_3b067, Cond.initialized RJ1, Cond.code yJ1_charAt_3b067 cJ1_charAt_3b067 2 (some .char), Cond.methodLink RJ1 9 yJ0_checkIndex_df160, Cond.static yJ0_checkIndex_df160, Cond.code yJ0_checkIndex_df160 cJ0_checkIndex_df160 2 none, Cond.fieldLink RJ0 1053 "jdk/internal/util/Preconditions" "SIOOBE_FORMATTER" "Ljava/util/function/BiFunction;", Cond.methodLink RJ0 1059 yJ3_checkIndex_8e157, Cond.static yJ3_checkIndex_8e157, Cond.initialized RJ3, Cond.code yJ3_checkIndex_8e157 cJ3_checkIndex_8e157 3 (some .int), Cond.methodLink RJ0 498 yJ2_charAt_3b067, Cond.static yJ2_charAt_3b067, Cond.initialized RJ2, Cond.code yJ2_charAt_3b067 cJ2_charAt_3b067 2 (some .char), Cond.methodLink RJ2 67 yJ2_checkIndex_2214a]
def wsX4_isWord_r3 : List Cond := [Cond.static yJ2_checkIndex_2214a, Cond.code yJ2_checkIndex_2214a cJ2_checkIndex_2214a 2 none, Cond.methodLink RJ2 48 yJ2_length_9d52b, Cond.static yJ2_length_9d52b, Cond.code yJ2_length_9d52b cJ2_length_9d52b 1 (some .int), Cond.methodLink RJ2 414 yJ0_checkIndex_df160, Cond.methodLink RJ2 71 yJ2_getChar_3b067, Cond.static yJ2_getChar_3b067, Cond.code yJ2_getChar_3b067 cJ2_getChar_3b067 2 (some .char), Cond.fieldLink RJ2 44 "java/lang/StringUTF16" "$assertionsDisabled" "Z", Cond.fieldLink RJ2 59 "java/lang/StringUTF16" "HI_BYTE_SHIFT" "I", Cond.fieldLink RJ2 63 "java/lang/StringUTF16" "LO_BYTE_SHIFT" "I"]
def wsX4_isWord : List Cond := .code yX4_isWord cX4_isWord 3 (some .boolean) :: ((wsX4_isWord_r1 ++ (wsX4_isWord_r2 ++ wsX4_isWord_r3)) ++ wsX40 ++ wsX80)
def wsX4_takeOrder_r1 : List Cond := [Cond.fieldLink RX4 74 "TributeFleet$Statute" "order" "I", Cond.methodLink RX4 28 yX4_step, Cond.instanceMethod yX4_step, Cond.selects RX4 yX4_step yX4_step, Cond.initialized RX4, Cond.code yX4_step cX4_step 1 none, Cond.fieldLink RX4 22 "TributeFleet$Reader" "end" "I", Cond.fieldLink RX4 19 "TributeFleet$Reader" "start" "I", Cond.fieldLink RX4 15 "TributeFleet$Reader" "length" "I", Cond.fieldLink RX4 9 "TributeFleet$Reader" "tape" "LTributeFleet$Tape;", Cond.fieldLink RX4 25 "TributeFleet$Reader" "kind" "I", Cond.methodLink RX4 86 yX8_at, Cond.instanceMethod yX8_at, Cond.selects RX8 yX8_at yX8_at, Cond.initialized RX8, Cond.code yX8_at cX8_at 2 (some .int), Cond.fieldLink RX8 15 "TributeFleet$Tape" "size" "I", Cond.fieldLink RX8 11 "TributeFleet$Tape" "bytes" "[B", Cond.methodLink RX4 92 yX4_isBlank, Cond.static yX4_isBlank, Cond.code yX4_isBlank cX4_isBlank 1 (some .boolean), Cond.methodLink RX4 96 yX4_kindOf, Cond.static yX4_kindOf, Cond.code yX4_kindOf cX4_kindOf 1 (some .int)]
def wsX4_takeOrder_r2 : List Cond := [Cond.methodLink RX4 37 yX4_isWord, Cond.instanceMethod yX4_isWord, Cond.selects RX4 yX4_isWord yX4_isWord, Cond.code yX4_isWord cX4_isWord 3 (some .boolean), Cond.methodLink RX4 99 yJ0_length_8abf5, Cond.instanceMethod yJ0_length_8abf5, Cond.selects RJ0 yJ0_length_8abf5 yJ0_length_8abf5, Cond.initialized RJ0, Cond.code yJ0_length_8abf5 cJ0_length_8abf5 1 (some .int), Cond.fieldLink RJ0 9 "java/lang/String" "value" "[B", Cond.methodLink RJ0 335 yJ0_coder_7d493, Cond.instanceMethod yJ0_coder_7d493, Cond.selects RJ0 yJ0_coder_7d493 yJ0_coder_7d493, Cond.code yJ0_coder_7d493 cJ0_coder_7d493 1 (some .byte), Cond.fieldLink RJ0 38 "java/lang/String" "COMPACT_STRINGS" "Z", Cond.fieldLink RJ0 15 "java/lang/String" "coder" "B", Cond.methodLink RX4 103 yJ0_charAt_5068e, Cond.instanceMethod yJ0_charAt_5068e, Cond.selects RJ0 yJ0_charAt_5068e yJ0_charAt_5068e, Cond.code yJ0_charAt_5068e cJ0_charAt_5068e 2 (some .char), Cond.methodLink RJ0 492 yJ0_isLatin1_aae02, Cond.instanceMethod yJ0_isLatin1_aae02, Cond.selects RJ0 yJ0_isLatin1_aae02 yJ0_isLatin1_aae02, Cond.code yJ0_isLatin1_aae02 cJ0_isLatin1_aae02 1 (some .boolean)]
def wsX4_takeOrder_r3 : List Cond := [Cond.methodLink RJ0 495 yJ1_charAt_3b067, Cond.static yJ1_charAt_3b067, Cond.initialized RJ1, Cond.code yJ1_charAt_3b067 cJ1_charAt_3b067 2 (some .char), Cond.methodLink RJ1 9 yJ0_checkIndex_df160, Cond.static yJ0_checkIndex_df160, Cond.code yJ0_checkIndex_df160 cJ0_checkIndex_df160 2 none, Cond.fieldLink RJ0 1053 "jdk/internal/util/Preconditions" "SIOOBE_FORMATTER" "Ljava/util/function/BiFunction;", Cond.methodLink RJ0 1059 yJ3_checkIndex_8e157, Cond.static yJ3_checkIndex_8e157, Cond.initialized RJ3, Cond.code yJ3_checkIndex_8e157 cJ3_checkIndex_8e157 3 (some .int), Cond.methodLink RJ0 498 yJ2_charAt_3b067, Cond.static yJ2_charAt_3b067, Cond.initialized RJ2, Cond.code yJ2_charAt_3b067 cJ2_charAt_3b067 2 (some .char), Cond.methodLink RJ2 67 yJ2_checkIndex_2214a, Cond.static yJ2_checkIndex_2214a, Cond.code yJ2_checkIndex_2214a cJ2_checkIndex_2214a 2 none, Cond.methodLink RJ2 48 yJ2_length_9d52b, Cond.static yJ2_length_9d52b, Cond.code yJ2_length_9d52b cJ2_length_9d52b 1 (some .int), Cond.methodLink RJ2 414 yJ0_checkIndex_df160, Cond.methodLink RJ2 71 yJ2_getChar_3b067]
def wsX4_takeOrder_r4 : List Cond := [Cond.static yJ2_getChar_3b067, Cond.code yJ2_getChar_3b067 cJ2_getChar_3b067 2 (some .char), Cond.fieldLink RJ2 44 "java/lang/StringUTF16" "$assertionsDisabled" "Z", Cond.fieldLink RJ2 59 "java/lang/StringUTF16" "HI_BYTE_SHIFT" "I", Cond.fieldLink RJ2 63 "java/lang/StringUTF16" "LO_BYTE_SHIFT" "I"]
def wsX4_takeOrder : List Cond := .code yX4_takeOrder cX4_takeOrder 2 (some .boolean) :: ((wsX4_takeOrder_r1 ++ (wsX4_takeOrder_r2 ++ (wsX4_takeOrder_r3 ++ wsX4_takeOrder_r4))) ++ wsX70 ++ wsX40 ++ wsX80)
def wsX4_takeSemicolon : List Cond := .code yX4_takeSemicolon cX4_takeSemicolon 1 (some .boolean) :: ([.fieldLink RX4 25 "TributeFleet$Reader" "kind" "I", .methodLink RX4 28 yX4_step, .instanceMethod yX4_step, .selects RX4 yX4_step yX4_step, .initialized RX4, .code yX4_step cX4_step 1 none, .fieldLink RX4 22 "TributeFleet$Reader" "end" "I", .fieldLink RX4 19 "TributeFleet$Reader" "start" "I", .fieldLink RX4 15 "TributeFleet$Reader" "length" "I", .fieldLink RX4 9 "TributeFleet$Reader" "tape" "LTributeFleet$Tape;", .methodLink RX4 86 yX8_at, .instanceMethod yX8_at, .selects RX8 yX8_at yX8_at, .initialized RX8, .code yX8_at cX8_at 2 (some .int), .fieldLink RX8 15 "TributeFleet$Tape" "size" "I", .fieldLink RX8 11 "TributeFleet$Tape" "bytes" "[B", .methodLink RX4 92 yX4_isBlank, .static yX4_isBlank, .code yX4_isBlank cX4_isBlank 1 (some .boolean), .methodLink RX4 96 yX4_kindOf, .static yX4_kindOf, .code yX4_kindOf cX4_kindOf 1 (some .int)] ++ wsX40 ++ wsX80)
def wsX4_takeNumber : List Cond := .code yX4_takeNumber cX4_takeNumber 3 (some .int) :: ([.fieldLink RX4 25 "TributeFleet$Reader" "kind" "I", .fieldLink RX4 22 "TributeFleet$Reader" "end" "I", .fieldLink RX4 19 "TributeFleet$Reader" "start" "I", .fieldLink RX4 9 "TributeFleet$Reader" "tape" "LTributeFleet$Tape;", .methodLink RX4 28 yX4_step, .instanceMethod yX4_step, .selects RX4 yX4_step yX4_step, .initialized RX4, .code yX4_step cX4_step 1 none, .fieldLink RX4 15 "TributeFleet$Reader" "length" "I", .methodLink RX4 86 yX8_at, .instanceMethod yX8_at, .selects RX8 yX8_at yX8_at, .initialized RX8, .code yX8_at cX8_at 2 (some .int), .fieldLink RX8 15 "TributeFleet$Tape" "size" "I", .fieldLink RX8 11 "TributeFleet$Tape" "bytes" "[B", .methodLink RX4 92 yX4_isBlank, .static yX4_isBlank, .code yX4_isBlank cX4_isBlank 1 (some .boolean), .methodLink RX4 96 yX4_kindOf, .static yX4_kindOf, .code yX4_kindOf cX4_kindOf 1 (some .int)] ++ wsX40 ++ wsX80)
def wsX7_allow : List Cond := .code yX7_allow cX7_allow 3 none :: ([.fieldLink RX7 18 "TributeFleet$Statute" "allowed" "[I", .static yX9_isPlace, .initialized RX9, .code yX9_isPlace cX9_isPlace 2 (some .boolean)] ++ wsX70)
def wsX4_takeDays_r1 : List Cond := [Cond.methodLink RX4 55 yX4_takeNumber, Cond.instanceMethod yX4_takeNumber, Cond.selects RX4 yX4_takeNumber yX4_takeNumber, Cond.initialized RX4, Cond.code yX4_takeNumber cX4_takeNumber 3 (some .int), Cond.fieldLink RX4 25 "TributeFleet$Reader" "kind" "I", Cond.fieldLink RX4 22 "TributeFleet$Reader" "end" "I", Cond.fieldLink RX4 19 "TributeFleet$Reader" "start" "I", Cond.fieldLink RX4 9 "TributeFleet$Reader" "tape" "LTributeFleet$Tape;", Cond.methodLink RX4 28 yX4_step, Cond.instanceMethod yX4_step, Cond.selects RX4 yX4_step yX4_step, Cond.code yX4_step cX4_step 1 none, Cond.fieldLink RX4 15 "TributeFleet$Reader" "length" "I", Cond.methodLink RX4 86 yX8_at, Cond.instanceMethod yX8_at, Cond.selects RX8 yX8_at yX8_at, Cond.initialized RX8, Cond.code yX8_at cX8_at 2 (some .int), Cond.fieldLink RX8 15 "TributeFleet$Tape" "size" "I", Cond.fieldLink RX8 11 "TributeFleet$Tape" "bytes" "[B", Cond.methodLink RX4 92 yX4_isBlank, Cond.static yX4_isBlank, Cond.code yX4_isBlank cX4_isBlank 1 (some .boolean)]
def wsX4_takeDays_r2 : List Cond := [Cond.methodLink RX4 96 yX4_kindOf, Cond.static yX4_kindOf, Cond.code yX4_kindOf cX4_kindOf 1 (some .int), Cond.methodLink RX4 37 yX4_isWord, Cond.instanceMethod yX4_isWord, Cond.selects RX4 yX4_isWord yX4_isWord, Cond.code yX4_isWord cX4_isWord 3 (some .boolean), Cond.methodLink RX4 99 yJ0_length_8abf5, Cond.instanceMethod yJ0_length_8abf5, Cond.selects RJ0 yJ0_length_8abf5 yJ0_length_8abf5, Cond.initialized RJ0, Cond.code yJ0_length_8abf5 cJ0_length_8abf5 1 (some .int), Cond.fieldLink RJ0 9 "java/lang/String" "value" "[B", Cond.methodLink RJ0 335 yJ0_coder_7d493, Cond.instanceMethod yJ0_coder_7d493, Cond.selects RJ0 yJ0_coder_7d493 yJ0_coder_7d493, Cond.code yJ0_coder_7d493 cJ0_coder_7d493 1 (some .byte), Cond.fieldLink RJ0 38 "java/lang/String" "COMPACT_STRINGS" "Z", Cond.fieldLink RJ0 15 "java/lang/String" "coder" "B", Cond.methodLink RX4 103 yJ0_charAt_5068e, Cond.instanceMethod yJ0_charAt_5068e, Cond.selects RJ0 yJ0_charAt_5068e yJ0_charAt_5068e, Cond.code yJ0_charAt_5068e cJ0_charAt_5068e 2 (some .char), Cond.methodLink RJ0 492 yJ0_isLatin1_aae02]
def wsX4_takeDays_r3 : List Cond := [Cond.instanceMethod yJ0_isLatin1_aae02, Cond.selects RJ0 yJ0_isLatin1_aae02 yJ0_isLatin1_aae02, Cond.code yJ0_isLatin1_aae02 cJ0_isLatin1_aae02 1 (some .boolean), Cond.methodLink RJ0 495 yJ1_charAt_3b067, Cond.static yJ1_charAt_3b067, Cond.initialized RJ1, Cond.code yJ1_charAt_3b067 cJ1_charAt_3b067 2 (some .char), Cond.methodLink RJ1 9 yJ0_checkIndex_df160, Cond.static yJ0_checkIndex_df160, Cond.code yJ0_checkIndex_df160 cJ0_checkIndex_df160 2 none, Cond.fieldLink RJ0 1053 "jdk/internal/util/Preconditions" "SIOOBE_FORMATTER" "Ljava/util/function/BiFunction;", Cond.methodLink RJ0 1059 yJ3_checkIndex_8e157, Cond.static yJ3_checkIndex_8e157, Cond.initialized RJ3, Cond.code yJ3_checkIndex_8e157 cJ3_checkIndex_8e157 3 (some .int), Cond.methodLink RJ0 498 yJ2_charAt_3b067, Cond.static yJ2_charAt_3b067, Cond.initialized RJ2, Cond.code yJ2_charAt_3b067 cJ2_charAt_3b067 2 (some .char), Cond.methodLink RJ2 67 yJ2_checkIndex_2214a, Cond.static yJ2_checkIndex_2214a, Cond.code yJ2_checkIndex_2214a cJ2_checkIndex_2214a 2 none, Cond.methodLink RJ2 48 yJ2_length_9d52b, Cond.static yJ2_length_9d52b]
def wsX4_takeDays_r4 : List Cond := [Cond.code yJ2_length_9d52b cJ2_length_9d52b 1 (some .int), Cond.methodLink RJ2 414 yJ0_checkIndex_df160, Cond.methodLink RJ2 71 yJ2_getChar_3b067, Cond.static yJ2_getChar_3b067, Cond.code yJ2_getChar_3b067 cJ2_getChar_3b067 2 (some .char), Cond.fieldLink RJ2 44 "java/lang/StringUTF16" "$assertionsDisabled" "Z", Cond.fieldLink RJ2 59 "java/lang/StringUTF16" "HI_BYTE_SHIFT" "I", Cond.fieldLink RJ2 63 "java/lang/StringUTF16" "LO_BYTE_SHIFT" "I", Cond.methodLink RX4 82 yX7_allow, Cond.instanceMethod yX7_allow, Cond.selects RX7 yX7_allow yX7_allow, Cond.initialized RX7, Cond.code yX7_allow cX7_allow 3 none, Cond.fieldLink RX7 18 "TributeFleet$Statute" "allowed" "[I", Cond.static yX9_isPlace, Cond.initialized RX9, Cond.code yX9_isPlace cX9_isPlace 2 (some .boolean)]
def wsX4_takeDays : List Cond := .code yX4_takeDays cX4_takeDays 4 (some .boolean) :: ((wsX4_takeDays_r1 ++ (wsX4_takeDays_r2 ++ (wsX4_takeDays_r3 ++ wsX4_takeDays_r4))) ++ wsX40 ++ wsX80 ++ wsX70)
def wsX4_takeStatement_r1 : List Cond := [Cond.fieldLink RX4 59 "TributeFleet$Statute" "loss" "I", Cond.fieldLink RX4 65 "TributeFleet$Statute" "goodsABoat" "I", Cond.fieldLink RX4 70 "TributeFleet$Statute" "fine" "I", Cond.methodLink RX4 37 yX4_isWord, Cond.instanceMethod yX4_isWord, Cond.selects RX4 yX4_isWord yX4_isWord, Cond.initialized RX4, Cond.code yX4_isWord cX4_isWord 3 (some .boolean), Cond.fieldLink RX4 25 "TributeFleet$Reader" "kind" "I", Cond.fieldLink RX4 22 "TributeFleet$Reader" "end" "I", Cond.fieldLink RX4 19 "TributeFleet$Reader" "start" "I", Cond.fieldLink RX4 9 "TributeFleet$Reader" "tape" "LTributeFleet$Tape;", Cond.methodLink RX4 99 yJ0_length_8abf5, Cond.instanceMethod yJ0_length_8abf5, Cond.selects RJ0 yJ0_length_8abf5 yJ0_length_8abf5, Cond.initialized RJ0, Cond.code yJ0_length_8abf5 cJ0_length_8abf5 1 (some .int), Cond.fieldLink RJ0 9 "java/lang/String" "value" "[B", Cond.methodLink RJ0 335 yJ0_coder_7d493, Cond.instanceMethod yJ0_coder_7d493, Cond.selects RJ0 yJ0_coder_7d493 yJ0_coder_7d493, Cond.code yJ0_coder_7d493 cJ0_coder_7d493 1 (some .byte), Cond.fieldLink RJ0 38 "java/lang/String" "COMPACT_STRINGS" "Z", Cond.fieldLink RJ0 15 "java/lang/String" "coder" "B"]
def wsX4_takeStatement_r2 : List Cond := [Cond.methodLink RX4 86 yX8_at, Cond.instanceMethod yX8_at, Cond.selects RX8 yX8_at yX8_at, Cond.initialized RX8, Cond.code yX8_at cX8_at 2 (some .int), Cond.fieldLink RX8 15 "TributeFleet$Tape" "size" "I", Cond.fieldLink RX8 11 "TributeFleet$Tape" "bytes" "[B", Cond.methodLink RX4 103 yJ0_charAt_5068e, Cond.instanceMethod yJ0_charAt_5068e, Cond.selects RJ0 yJ0_charAt_5068e yJ0_charAt_5068e, Cond.code yJ0_charAt_5068e cJ0_charAt_5068e 2 (some .char), Cond.methodLink RJ0 492 yJ0_isLatin1_aae02, Cond.instanceMethod yJ0_isLatin1_aae02, Cond.selects RJ0 yJ0_isLatin1_aae02 yJ0_isLatin1_aae02, Cond.code yJ0_isLatin1_aae02 cJ0_isLatin1_aae02 1 (some .boolean), Cond.methodLink RJ0 495 yJ1_charAt_3b067, Cond.static yJ1_charAt_3b067, Cond.initialized RJ1, Cond.code yJ1_charAt_3b067 cJ1_charAt_3b067 2 (some .char), Cond.methodLink RJ1 9 yJ0_checkIndex_df160, Cond.static yJ0_checkIndex_df160, Cond.code yJ0_checkIndex_df160 cJ0_checkIndex_df160 2 none, Cond.fieldLink RJ0 1053 "jdk/internal/util/Preconditions" "SIOOBE_FORMATTER" "Ljava/util/function/BiFunction;", Cond.methodLink RJ0 1059 yJ3_checkIndex_8e157]
def wsX4_takeStatement_r3 : List Cond := [Cond.static yJ3_checkIndex_8e157, Cond.initialized RJ3, Cond.code yJ3_checkIndex_8e157 cJ3_checkIndex_8e157 3 (some .int), Cond.methodLink RJ0 498 yJ2_charAt_3b067, Cond.static yJ2_charAt_3b067, Cond.initialized RJ2, Cond.code yJ2_charAt_3b067 cJ2_charAt_3b067 2 (some .char), Cond.methodLink RJ2 67 yJ2_checkIndex_2214a, Cond.static yJ2_checkIndex_2214a, Cond.code yJ2_checkIndex_2214a cJ2_checkIndex_2214a 2 none, Cond.methodLink RJ2 48 yJ2_length_9d52b, Cond.static yJ2_length_9d52b, Cond.code yJ2_length_9d52b cJ2_length_9d52b 1 (some .int), Cond.methodLink RJ2 414 yJ0_checkIndex_df160, Cond.methodLink RJ2 71 yJ2_getChar_3b067, Cond.static yJ2_getChar_3b067, Cond.code yJ2_getChar_3b067 cJ2_getChar_3b067 2 (some .char), Cond.fieldLink RJ2 44 "java/lang/StringUTF16" "$assertionsDisabled" "Z", Cond.fieldLink RJ2 59 "java/lang/StringUTF16" "HI_BYTE_SHIFT" "I", Cond.fieldLink RJ2 63 "java/lang/StringUTF16" "LO_BYTE_SHIFT" "I", Cond.methodLink RX4 41 yX4_takeOrder, Cond.instanceMethod yX4_takeOrder, Cond.selects RX4 yX4_takeOrder yX4_takeOrder, Cond.code yX4_takeOrder cX4_takeOrder 2 (some .boolean)]
def wsX4_takeStatement_r4 : List Cond := [Cond.fieldLink RX4 74 "TributeFleet$Statute" "order" "I", Cond.methodLink RX4 28 yX4_step, Cond.instanceMethod yX4_step, Cond.selects RX4 yX4_step yX4_step, Cond.code yX4_step cX4_step 1 none, Cond.fieldLink RX4 15 "TributeFleet$Reader" "length" "I", Cond.methodLink RX4 92 yX4_isBlank, Cond.static yX4_isBlank, Cond.code yX4_isBlank cX4_isBlank 1 (some .boolean), Cond.methodLink RX4 96 yX4_kindOf, Cond.static yX4_kindOf, Cond.code yX4_kindOf cX4_kindOf 1 (some .int), Cond.methodLink RX4 44 yX4_takeSemicolon, Cond.instanceMethod yX4_takeSemicolon, Cond.selects RX4 yX4_takeSemicolon yX4_takeSemicolon, Cond.code yX4_takeSemicolon cX4_takeSemicolon 1 (some .boolean), Cond.methodLink RX4 50 yX4_takeDays, Cond.instanceMethod yX4_takeDays, Cond.selects RX4 yX4_takeDays yX4_takeDays, Cond.code yX4_takeDays cX4_takeDays 4 (some .boolean), Cond.methodLink RX4 55 yX4_takeNumber, Cond.instanceMethod yX4_takeNumber, Cond.selects RX4 yX4_takeNumber yX4_takeNumber, Cond.code yX4_takeNumber cX4_takeNumber 3 (some .int)]
def wsX4_takeStatement_r5 : List Cond := [Cond.methodLink RX4 82 yX7_allow, Cond.instanceMethod yX7_allow, Cond.selects RX7 yX7_allow yX7_allow, Cond.initialized RX7, Cond.code yX7_allow cX7_allow 3 none, Cond.fieldLink RX7 18 "TributeFleet$Statute" "allowed" "[I", Cond.static yX9_isPlace, Cond.initialized RX9, Cond.code yX9_isPlace cX9_isPlace 2 (some .boolean)]
def wsX4_takeStatement : List Cond := .code yX4_takeStatement cX4_takeStatement 2 (some .boolean) :: ((wsX4_takeStatement_r1 ++ (wsX4_takeStatement_r2 ++ (wsX4_takeStatement_r3 ++ (wsX4_takeStatement_r4 ++ wsX4_takeStatement_r5)))) ++ wsX70 ++ wsX40 ++ wsX80)
def wsX4_read_r1 : List Cond := [Cond.fieldLink RX4 15 "TributeFleet$Reader" "length" "I", Cond.fieldLink RX4 22 "TributeFleet$Reader" "end" "I", Cond.fieldLink RX4 25 "TributeFleet$Reader" "kind" "I", Cond.fieldLink RX4 19 "TributeFleet$Reader" "start" "I", Cond.methodLink RX4 28 yX4_step, Cond.instanceMethod yX4_step, Cond.selects RX4 yX4_step yX4_step, Cond.initialized RX4, Cond.code yX4_step cX4_step 1 none, Cond.fieldLink RX4 9 "TributeFleet$Reader" "tape" "LTributeFleet$Tape;", Cond.methodLink RX4 86 yX8_at, Cond.instanceMethod yX8_at, Cond.selects RX8 yX8_at yX8_at, Cond.initialized RX8, Cond.code yX8_at cX8_at 2 (some .int), Cond.fieldLink RX8 15 "TributeFleet$Tape" "size" "I", Cond.fieldLink RX8 11 "TributeFleet$Tape" "bytes" "[B", Cond.methodLink RX4 92 yX4_isBlank, Cond.static yX4_isBlank, Cond.code yX4_isBlank cX4_isBlank 1 (some .boolean), Cond.methodLink RX4 96 yX4_kindOf, Cond.static yX4_kindOf, Cond.code yX4_kindOf cX4_kindOf 1 (some .int), Cond.methodLink RX4 31 yX4_takeStatement]
def wsX4_read_r2 : List Cond := [Cond.instanceMethod yX4_takeStatement, Cond.selects RX4 yX4_takeStatement yX4_takeStatement, Cond.code yX4_takeStatement cX4_takeStatement 2 (some .boolean), Cond.fieldLink RX4 59 "TributeFleet$Statute" "loss" "I", Cond.fieldLink RX4 65 "TributeFleet$Statute" "goodsABoat" "I", Cond.fieldLink RX4 70 "TributeFleet$Statute" "fine" "I", Cond.methodLink RX4 37 yX4_isWord, Cond.instanceMethod yX4_isWord, Cond.selects RX4 yX4_isWord yX4_isWord, Cond.code yX4_isWord cX4_isWord 3 (some .boolean), Cond.methodLink RX4 99 yJ0_length_8abf5, Cond.instanceMethod yJ0_length_8abf5, Cond.selects RJ0 yJ0_length_8abf5 yJ0_length_8abf5, Cond.initialized RJ0, Cond.code yJ0_length_8abf5 cJ0_length_8abf5 1 (some .int), Cond.fieldLink RJ0 9 "java/lang/String" "value" "[B", Cond.methodLink RJ0 335 yJ0_coder_7d493, Cond.instanceMethod yJ0_coder_7d493, Cond.selects RJ0 yJ0_coder_7d493 yJ0_coder_7d493, Cond.code yJ0_coder_7d493 cJ0_coder_7d493 1 (some .byte), Cond.fieldLink RJ0 38 "java/lang/String" "COMPACT_STRINGS" "Z", Cond.fieldLink RJ0 15 "java/lang/String" "coder" "B", Cond.methodLink RX4 103 yJ0_charAt_5068e, Cond.instanceMethod yJ0_charAt_5068e]
def wsX4_read_r3 : List Cond := [Cond.selects RJ0 yJ0_charAt_5068e yJ0_charAt_5068e, Cond.code yJ0_charAt_5068e cJ0_charAt_5068e 2 (some .char), Cond.methodLink RJ0 492 yJ0_isLatin1_aae02, Cond.instanceMethod yJ0_isLatin1_aae02, Cond.selects RJ0 yJ0_isLatin1_aae02 yJ0_isLatin1_aae02, Cond.code yJ0_isLatin1_aae02 cJ0_isLatin1_aae02 1 (some .boolean), Cond.methodLink RJ0 495 yJ1_charAt_3b067, Cond.static yJ1_charAt_3b067, Cond.initialized RJ1, Cond.code yJ1_charAt_3b067 cJ1_charAt_3b067 2 (some .char), Cond.methodLink RJ1 9 yJ0_checkIndex_df160, Cond.static yJ0_checkIndex_df160, Cond.code yJ0_checkIndex_df160 cJ0_checkIndex_df160 2 none, Cond.fieldLink RJ0 1053 "jdk/internal/util/Preconditions" "SIOOBE_FORMATTER" "Ljava/util/function/BiFunction;", Cond.methodLink RJ0 1059 yJ3_checkIndex_8e157, Cond.static yJ3_checkIndex_8e157, Cond.initialized RJ3, Cond.code yJ3_checkIndex_8e157 cJ3_checkIndex_8e157 3 (some .int), Cond.methodLink RJ0 498 yJ2_charAt_3b067, Cond.static yJ2_charAt_3b067, Cond.initialized RJ2, Cond.code yJ2_charAt_3b067 cJ2_charAt_3b067 2 (some .char), Cond.methodLink RJ2 67 yJ2_checkIndex_2214a, Cond.static yJ2_checkIndex_2214a]
def wsX4_read_r4 : List Cond := [Cond.code yJ2_checkIndex_2214a cJ2_checkIndex_2214a 2 none, Cond.methodLink RJ2 48 yJ2_length_9d52b, Cond.static yJ2_length_9d52b, Cond.code yJ2_length_9d52b cJ2_length_9d52b 1 (some .int), Cond.methodLink RJ2 414 yJ0_checkIndex_df160, Cond.methodLink RJ2 71 yJ2_getChar_3b067, Cond.static yJ2_getChar_3b067, Cond.code yJ2_getChar_3b067 cJ2_getChar_3b067 2 (some .char), Cond.fieldLink RJ2 44 "java/lang/StringUTF16" "$assertionsDisabled" "Z", Cond.fieldLink RJ2 59 "java/lang/StringUTF16" "HI_BYTE_SHIFT" "I", Cond.fieldLink RJ2 63 "java/lang/StringUTF16" "LO_BYTE_SHIFT" "I", Cond.methodLink RX4 41 yX4_takeOrder, Cond.instanceMethod yX4_takeOrder, Cond.selects RX4 yX4_takeOrder yX4_takeOrder, Cond.code yX4_takeOrder cX4_takeOrder 2 (some .boolean), Cond.fieldLink RX4 74 "TributeFleet$Statute" "order" "I", Cond.methodLink RX4 44 yX4_takeSemicolon, Cond.instanceMethod yX4_takeSemicolon, Cond.selects RX4 yX4_takeSemicolon yX4_takeSemicolon, Cond.code yX4_takeSemicolon cX4_takeSemicolon 1 (some .boolean), Cond.methodLink RX4 50 yX4_takeDays, Cond.instanceMethod yX4_takeDays, Cond.selects RX4 yX4_takeDays yX4_takeDays, Cond.code yX4_takeDays cX4_takeDays 4 (some .boolean)]
def wsX4_read_r5 : List Cond := [Cond.methodLink RX4 55 yX4_takeNumber, Cond.instanceMethod yX4_takeNumber, Cond.selects RX4 yX4_takeNumber yX4_takeNumber, Cond.code yX4_takeNumber cX4_takeNumber 3 (some .int), Cond.methodLink RX4 82 yX7_allow, Cond.instanceMethod yX7_allow, Cond.selects RX7 yX7_allow yX7_allow, Cond.initialized RX7, Cond.code yX7_allow cX7_allow 3 none, Cond.fieldLink RX7 18 "TributeFleet$Statute" "allowed" "[I", Cond.static yX9_isPlace, Cond.initialized RX9, Cond.code yX9_isPlace cX9_isPlace 2 (some .boolean)]
def wsX4_read : List Cond := .code yX4_read cX4_read 4 (some .int) :: ((wsX4_read_r1 ++ (wsX4_read_r2 ++ (wsX4_read_r3 ++ (wsX4_read_r4 ++ wsX4_read_r5)))) ++ wsX40 ++ wsX80 ++ wsX70)
def wsX5_init : List Cond := .code yX5_init cX5_init 1 none :: ([.methodLink RX5 3 objectInit, .instanceMethod objectInit, .code objectInit ⟨#[0xb1]⟩ 1 none, .arrayClass .int, .fieldLink RX5 11 "TributeFleet$Schedule" "numbers" "[I", .fieldLink RX5 15 "TributeFleet$Schedule" "takes" "[I", .fieldLink RX5 18 "TributeFleet$Schedule" "dueDays" "[I", .fieldLink RX5 21 "TributeFleet$Schedule" "rest" "[I", .fieldLink RX5 24 "TributeFleet$Schedule" "size" "I", .fieldLink RX5 28 "TributeFleet$Schedule" "firstDay" "I"] ++ wsX50)
def wsX5_clear : List Cond := .code yX5_clear cX5_clear 1 none :: ([.fieldLink RX5 24 "TributeFleet$Schedule" "size" "I"] ++ wsX50)
def wsX5_add : List Cond := .code yX5_add cX5_add 4 none :: ([.fieldLink RX5 24 "TributeFleet$Schedule" "size" "I", .fieldLink RX5 11 "TributeFleet$Schedule" "numbers" "[I", .fieldLink RX5 15 "TributeFleet$Schedule" "takes" "[I", .fieldLink RX5 18 "TributeFleet$Schedule" "dueDays" "[I"] ++ wsX50)
def wsX5_endOf : List Cond := .code yX5_endOf cX5_endOf 4 (some .int) :: ([.fieldLink RX5 28 "TributeFleet$Schedule" "firstDay" "I", .fieldLink RX5 24 "TributeFleet$Schedule" "size" "I", .fieldLink RX5 15 "TributeFleet$Schedule" "takes" "[I"] ++ wsX50)
def wsX5_restWith : List Cond := .code yX5_restWith cX5_restWith 4 (some .int) :: ([.fieldLink RX5 24 "TributeFleet$Schedule" "size" "I", .fieldLink RX5 21 "TributeFleet$Schedule" "rest" "[I", .fieldLink RX5 18 "TributeFleet$Schedule" "dueDays" "[I", .methodLink RX5 46 Lib.Math.max.name, .static Lib.Math.max.name, .initialized "java/lang/Math", .code Lib.Math.max.name Lib.Math.max.code 2 (some .int), .static yX9_isPlace, .initialized RX9, .code yX9_isPlace cX9_isPlace 2 (some .boolean), .methodLink RX5 43 yX5_endOf, .instanceMethod yX5_endOf, .selects RX5 yX5_endOf yX5_endOf, .initialized RX5, .code yX5_endOf cX5_endOf 4 (some .int), .fieldLink RX5 28 "TributeFleet$Schedule" "firstDay" "I", .fieldLink RX5 15 "TributeFleet$Schedule" "takes" "[I"] ++ wsX50)
def wsX5_bestNext : List Cond := .code yX5_bestNext cX5_bestNext 5 (some .int) :: ([.fieldLink RX5 24 "TributeFleet$Schedule" "size" "I", .methodLink RX5 35 yX5_restWith, .instanceMethod yX5_restWith, .selects RX5 yX5_restWith yX5_restWith, .initialized RX5, .code yX5_restWith cX5_restWith 4 (some .int), .fieldLink RX5 21 "TributeFleet$Schedule" "rest" "[I", .fieldLink RX5 18 "TributeFleet$Schedule" "dueDays" "[I", .methodLink RX5 46 Lib.Math.max.name, .static Lib.Math.max.name, .initialized "java/lang/Math", .code Lib.Math.max.name Lib.Math.max.code 2 (some .int), .static yX9_isPlace, .initialized RX9, .code yX9_isPlace cX9_isPlace 2 (some .boolean), .methodLink RX5 43 yX5_endOf, .instanceMethod yX5_endOf, .selects RX5 yX5_endOf yX5_endOf, .code yX5_endOf cX5_endOf 4 (some .int), .fieldLink RX5 28 "TributeFleet$Schedule" "firstDay" "I", .fieldLink RX5 15 "TributeFleet$Schedule" "takes" "[I"] ++ wsX50)
def wsX5_weigh_r1 : List Cond := [Cond.fieldLink RX5 28 "TributeFleet$Schedule" "firstDay" "I", Cond.fieldLink RX5 24 "TributeFleet$Schedule" "size" "I", Cond.fieldLink RX5 21 "TributeFleet$Schedule" "rest" "[I", Cond.methodLink RX5 31 yX5_bestNext, Cond.instanceMethod yX5_bestNext, Cond.selects RX5 yX5_bestNext yX5_bestNext, Cond.initialized RX5, Cond.code yX5_bestNext cX5_bestNext 5 (some .int), Cond.methodLink RX5 35 yX5_restWith, Cond.instanceMethod yX5_restWith, Cond.selects RX5 yX5_restWith yX5_restWith, Cond.code yX5_restWith cX5_restWith 4 (some .int), Cond.fieldLink RX5 18 "TributeFleet$Schedule" "dueDays" "[I", Cond.methodLink RX5 46 Lib.Math.max.name, Cond.static Lib.Math.max.name, Cond.initialized "java/lang/Math", Cond.code Lib.Math.max.name Lib.Math.max.code 2 (some .int), Cond.static yX9_isPlace, Cond.initialized RX9, Cond.code yX9_isPlace cX9_isPlace 2 (some .boolean), Cond.methodLink RX5 43 yX5_endOf, Cond.instanceMethod yX5_endOf, Cond.selects RX5 yX5_endOf yX5_endOf, Cond.code yX5_endOf cX5_endOf 4 (some .int)]
def wsX5_weigh_r2 : List Cond := [Cond.fieldLink RX5 15 "TributeFleet$Schedule" "takes" "[I"]
def wsX5_weigh : List Cond := .code yX5_weigh cX5_weigh 5 none :: ((wsX5_weigh_r1 ++ wsX5_weigh_r2) ++ wsX50)
def wsX5_leastSum : List Cond := .code yX5_leastSum cX5_leastSum 1 (some .int) :: ([.fieldLink RX5 21 "TributeFleet$Schedule" "rest" "[I"] ++ wsX50)
def wsX5_inPlace_r1 : List Cond := [Cond.fieldLink RX5 24 "TributeFleet$Schedule" "size" "I", Cond.fieldLink RX5 11 "TributeFleet$Schedule" "numbers" "[I", Cond.static yX9_isPlace, Cond.initialized RX9, Cond.code yX9_isPlace cX9_isPlace 2 (some .boolean), Cond.methodLink RX5 31 yX5_bestNext, Cond.instanceMethod yX5_bestNext, Cond.selects RX5 yX5_bestNext yX5_bestNext, Cond.initialized RX5, Cond.code yX5_bestNext cX5_bestNext 5 (some .int), Cond.methodLink RX5 35 yX5_restWith, Cond.instanceMethod yX5_restWith, Cond.selects RX5 yX5_restWith yX5_restWith, Cond.code yX5_restWith cX5_restWith 4 (some .int), Cond.fieldLink RX5 21 "TributeFleet$Schedule" "rest" "[I", Cond.fieldLink RX5 18 "TributeFleet$Schedule" "dueDays" "[I", Cond.methodLink RX5 46 Lib.Math.max.name, Cond.static Lib.Math.max.name, Cond.initialized "java/lang/Math", Cond.code Lib.Math.max.name Lib.Math.max.code 2 (some .int), Cond.methodLink RX5 43 yX5_endOf, Cond.instanceMethod yX5_endOf, Cond.selects RX5 yX5_endOf yX5_endOf, Cond.code yX5_endOf cX5_endOf 4 (some .int)]
def wsX5_inPlace_r2 : List Cond := [Cond.fieldLink RX5 28 "TributeFleet$Schedule" "firstDay" "I", Cond.fieldLink RX5 15 "TributeFleet$Schedule" "takes" "[I"]
def wsX5_inPlace : List Cond := .code yX5_inPlace cX5_inPlace 5 (some .int) :: ((wsX5_inPlace_r1 ++ wsX5_inPlace_r2) ++ wsX50)
def wsX6_init : List Cond := .code yX6_init cX6_init 6 none :: ([.methodLink RX6 3 objectInit, .instanceMethod objectInit, .code objectInit ⟨#[0xb1]⟩ 1 none, .fieldLink RX6 9 "TributeFleet$Squadron" "county" "I", .fieldLink RX6 15 "TributeFleet$Squadron" "boats" "I", .fieldLink RX6 18 "TributeFleet$Squadron" "bags" "I", .fieldLink RX6 21 "TributeFleet$Squadron" "goods" "I", .arrayClass .int, .fieldLink RX6 24 "TributeFleet$Squadron" "daysIn" "[I", .fieldLink RX6 28 "TributeFleet$Squadron" "daysBy" "[I", .fieldLink RX6 31 "TributeFleet$Squadron" "reach" "I", .fieldLink RX6 34 "TributeFleet$Squadron" "cameOn" "I", .fieldLink RX6 37 "TributeFleet$Squadron" "lost" "I", .fieldLink RX6 40 "TributeFleet$Squadron" "why" "I", .fieldLink RX6 43 "TributeFleet$Squadron" "dueDay" "I", .fieldLink RX6 46 "TributeFleet$Squadron" "hasLeave" "Z"] ++ wsX60)
def wsX6_moveUp : List Cond := .code yX6_moveUp cX6_moveUp 2 none :: ([.fieldLink RX6 31 "TributeFleet$Squadron" "reach" "I", .fieldLink RX6 24 "TributeFleet$Squadron" "daysIn" "[I", .fieldLink RX6 34 "TributeFleet$Squadron" "cameOn" "I"] ++ wsX60)
def wsX6_stay : List Cond := .code yX6_stay cX6_stay 2 none :: ([.fieldLink RX6 40 "TributeFleet$Squadron" "why" "I", .fieldLink RX6 28 "TributeFleet$Squadron" "daysBy" "[I", .static yX9_isPlace, .initialized RX9, .code yX9_isPlace cX9_isPlace 2 (some .boolean)] ++ wsX60)
def wsX6_tellDays : List Cond := .code yX6_tellDays cX6_tellDays 2 (some .int) :: ([.fieldLink RX6 24 "TributeFleet$Squadron" "daysIn" "[I", .fieldLink RX6 28 "TributeFleet$Squadron" "daysBy" "[I", .static yX9_isPlace, .initialized RX9, .code yX9_isPlace cX9_isPlace 2 (some .boolean)] ++ wsX60)
def wsX6_tell : List Cond := .code yX6_tell cX6_tell 2 (some .int) :: ([.fieldLink RX6 31 "TributeFleet$Squadron" "reach" "I", .fieldLink RX6 34 "TributeFleet$Squadron" "cameOn" "I", .fieldLink RX6 40 "TributeFleet$Squadron" "why" "I", .fieldLink RX6 24 "TributeFleet$Squadron" "daysIn" "[I", .fieldLink RX6 46 "TributeFleet$Squadron" "hasLeave" "Z", .methodLink RX6 58 yX6_bagsLeft, .instanceMethod yX6_bagsLeft, .selects RX6 yX6_bagsLeft yX6_bagsLeft, .initialized RX6, .code yX6_bagsLeft cX6_bagsLeft 1 (some .int), .fieldLink RX6 18 "TributeFleet$Squadron" "bags" "I", .fieldLink RX6 37 "TributeFleet$Squadron" "lost" "I", .static yX9_isPlace, .initialized RX9, .code yX9_isPlace cX9_isPlace 2 (some .boolean), .methodLink RX6 62 yX6_tellDays, .instanceMethod yX6_tellDays, .selects RX6 yX6_tellDays yX6_tellDays, .code yX6_tellDays cX6_tellDays 2 (some .int), .fieldLink RX6 28 "TributeFleet$Squadron" "daysBy" "[I"] ++ wsX60)
def wsX7_allowedIn : List Cond := .code yX7_allowedIn cX7_allowedIn 2 (some .int) :: ([.fieldLink RX7 18 "TributeFleet$Statute" "allowed" "[I", .static yX9_isPlace, .initialized RX9, .code yX9_isPlace cX9_isPlace 2 (some .boolean)] ++ wsX70)
def wsX6_daysOver : List Cond := .code yX6_daysOver cX6_daysOver 4 (some .int) :: ([.fieldLink RX6 24 "TributeFleet$Squadron" "daysIn" "[I", .methodLink RX6 84 Lib.Math.max.name, .static Lib.Math.max.name, .initialized "java/lang/Math", .code Lib.Math.max.name Lib.Math.max.code 2 (some .int), .methodLink RX6 81 yX7_allowedIn, .instanceMethod yX7_allowedIn, .selects RX7 yX7_allowedIn yX7_allowedIn, .initialized RX7, .code yX7_allowedIn cX7_allowedIn 2 (some .int), .fieldLink RX7 18 "TributeFleet$Statute" "allowed" "[I", .static yX9_isPlace, .initialized RX9, .code yX9_isPlace cX9_isPlace 2 (some .boolean)] ++ wsX60 ++ wsX70)
def wsX6_bagsShort : List Cond := .code yX6_bagsShort cX6_bagsShort 2 (some .int) :: ([.fieldLink RX6 37 "TributeFleet$Squadron" "lost" "I", .fieldLink RX6 18 "TributeFleet$Squadron" "bags" "I", .fieldLink RX6 90 "TributeFleet$Statute" "loss" "I", .methodLink RX6 84 Lib.Math.max.name, .static Lib.Math.max.name, .initialized "java/lang/Math", .code Lib.Math.max.name Lib.Math.max.code 2 (some .int)] ++ wsX60 ++ wsX70)
def wsX6_goodsOver : List Cond := .code yX6_goodsOver cX6_goodsOver 2 (some .int) :: ([.fieldLink RX6 21 "TributeFleet$Squadron" "goods" "I", .fieldLink RX6 93 "TributeFleet$Statute" "goodsABoat" "I", .fieldLink RX6 15 "TributeFleet$Squadron" "boats" "I", .methodLink RX6 84 Lib.Math.max.name, .static Lib.Math.max.name, .initialized "java/lang/Math", .code Lib.Math.max.name Lib.Math.max.code 2 (some .int)] ++ wsX60 ++ wsX70)
def wsX6_judgedBy_r1 : List Cond := [Cond.fieldLink RX6 76 "TributeFleet$Statute" "fine" "I", Cond.methodLink RX6 66 yX6_daysOver, Cond.instanceMethod yX6_daysOver, Cond.selects RX6 yX6_daysOver yX6_daysOver, Cond.initialized RX6, Cond.code yX6_daysOver cX6_daysOver 4 (some .int), Cond.fieldLink RX6 24 "TributeFleet$Squadron" "daysIn" "[I", Cond.methodLink RX6 84 Lib.Math.max.name, Cond.static Lib.Math.max.name, Cond.initialized "java/lang/Math", Cond.code Lib.Math.max.name Lib.Math.max.code 2 (some .int), Cond.methodLink RX6 81 yX7_allowedIn, Cond.instanceMethod yX7_allowedIn, Cond.selects RX7 yX7_allowedIn yX7_allowedIn, Cond.initialized RX7, Cond.code yX7_allowedIn cX7_allowedIn 2 (some .int), Cond.fieldLink RX7 18 "TributeFleet$Statute" "allowed" "[I", Cond.static yX9_isPlace, Cond.initialized RX9, Cond.code yX9_isPlace cX9_isPlace 2 (some .boolean), Cond.methodLink RX6 70 yX6_bagsShort, Cond.instanceMethod yX6_bagsShort, Cond.selects RX6 yX6_bagsShort yX6_bagsShort, Cond.code yX6_bagsShort cX6_bagsShort 2 (some .int)]
def wsX6_judgedBy_r2 : List Cond := [Cond.fieldLink RX6 37 "TributeFleet$Squadron" "lost" "I", Cond.fieldLink RX6 18 "TributeFleet$Squadron" "bags" "I", Cond.fieldLink RX6 90 "TributeFleet$Statute" "loss" "I", Cond.methodLink RX6 73 yX6_goodsOver, Cond.instanceMethod yX6_goodsOver, Cond.selects RX6 yX6_goodsOver yX6_goodsOver, Cond.code yX6_goodsOver cX6_goodsOver 2 (some .int), Cond.fieldLink RX6 21 "TributeFleet$Squadron" "goods" "I", Cond.fieldLink RX6 93 "TributeFleet$Statute" "goodsABoat" "I", Cond.fieldLink RX6 15 "TributeFleet$Squadron" "boats" "I"]
def wsX6_judgedBy : List Cond := .code yX6_judgedBy cX6_judgedBy 3 (some .int) :: ((wsX6_judgedBy_r1 ++ wsX6_judgedBy_r2) ++ wsX70 ++ wsX60)
def wsX7_tell : List Cond := .code yX7_tell cX7_tell 2 (some .int) :: ([.fieldLink RX7 22 "TributeFleet$Statute" "order" "I", .fieldLink RX7 25 "TributeFleet$Statute" "loss" "I", .fieldLink RX7 28 "TributeFleet$Statute" "goodsABoat" "I", .fieldLink RX7 31 "TributeFleet$Statute" "fine" "I", .fieldLink RX7 9 "TributeFleet$Statute" "number" "I", .methodLink RX7 38 yX7_allowedIn, .instanceMethod yX7_allowedIn, .selects RX7 yX7_allowedIn yX7_allowedIn, .initialized RX7, .code yX7_allowedIn cX7_allowedIn 2 (some .int), .fieldLink RX7 18 "TributeFleet$Statute" "allowed" "[I", .static yX9_isPlace, .initialized RX9, .code yX9_isPlace cX9_isPlace 2 (some .boolean)] ++ wsX70)
def wsX8_init : List Cond := .code yX8_init cX8_init 1 none :: ([.methodLink RX8 3 objectInit, .instanceMethod objectInit, .code objectInit ⟨#[0xb1]⟩ 1 none, .arrayClass .byte, .fieldLink RX8 11 "TributeFleet$Tape" "bytes" "[B", .fieldLink RX8 15 "TributeFleet$Tape" "size" "I"] ++ wsX80)
def wsX8_hasRoom : List Cond := .code yX8_hasRoom cX8_hasRoom 1 (some .boolean) :: ([.fieldLink RX8 15 "TributeFleet$Tape" "size" "I"] ++ wsX80)
def wsX8_append : List Cond := .code yX8_append cX8_append 3 none :: ([.fieldLink RX8 15 "TributeFleet$Tape" "size" "I", .fieldLink RX8 11 "TributeFleet$Tape" "bytes" "[B"] ++ wsX80)
def wsX9_init_r1 : List Cond := [Cond.methodLink RX9 1 objectInit, Cond.instanceMethod objectInit, Cond.code objectInit ⟨#[0xb1]⟩ 1 none, Cond.methodLink RX9 9 Lib.Math.min.name, Cond.static Lib.Math.min.name, Cond.initialized "java/lang/Math", Cond.code Lib.Math.min.name Lib.Math.min.code 2 (some .int), Cond.methodLink RX9 15 Lib.Math.max.name, Cond.static Lib.Math.max.name, Cond.code Lib.Math.max.name Lib.Math.max.code 2 (some .int), Cond.classLink RX9 18 RX0, Cond.instantiable RX0 9, Cond.initialized RX0, Cond.fieldLink RX9 23 "TributeFleet" "canal" "LTributeFleet$Canal;", Cond.classLink RX9 27 RX3, Cond.instantiable RX3 3, Cond.initialized RX3, Cond.fieldLink RX9 30 "TributeFleet" "fleet" "LTributeFleet$Fleet;", Cond.classLink RX9 34 RX8, Cond.instantiable RX8 2, Cond.initialized RX8, Cond.fieldLink RX9 37 "TributeFleet" "tape" "LTributeFleet$Tape;", Cond.classLink RX9 41 RX4, Cond.instantiable RX4 5]
def wsX9_init_r2 : List Cond := [Cond.initialized RX4, Cond.fieldLink RX9 46 "TributeFleet" "reader" "LTributeFleet$Reader;", Cond.classLink RX9 50 RX1, Cond.instantiable RX1 3, Cond.initialized RX1, Cond.fieldLink RX9 53 "TributeFleet" "code" "LTributeFleet$Code;", Cond.classLink RX9 57 RX2, Cond.instantiable RX2 4, Cond.initialized RX2, Cond.fieldLink RX9 60 "TributeFleet" "counties" "LTributeFleet$Counties;", Cond.classLink RX9 64 RX5, Cond.instantiable RX5 6, Cond.initialized RX5, Cond.fieldLink RX9 67 "TributeFleet" "schedule" "LTributeFleet$Schedule;", Cond.fieldLink RX9 71 "TributeFleet" "today" "I", Cond.fieldLink RX9 75 "TributeFleet" "faultPlace" "I", Cond.methodLink RX9 20 yX0_init, Cond.instanceMethod yX0_init, Cond.code yX0_init cX0_init 3 none, Cond.methodLink RX0 3 objectInit, Cond.fieldLink RX0 9 "TributeFleet$Canal" "reaches" "I", Cond.arrayClass .int, Cond.fieldLink RX0 15 "TributeFleet$Canal" "water" "[I", Cond.fieldLink RX0 19 "TributeFleet$Canal" "lockBoats" "[I"]
def wsX9_init_r3 : List Cond := [Cond.fieldLink RX0 22 "TributeFleet$Canal" "lakeReach" "[I", Cond.fieldLink RX0 25 "TributeFleet$Canal" "lakeStore" "[I", Cond.fieldLink RX0 28 "TributeFleet$Canal" "lakeGives" "[I", Cond.fieldLink RX0 31 "TributeFleet$Canal" "lakes" "I", Cond.fieldLink RX0 34 "TributeFleet$Canal" "iceDay" "I", Cond.fieldLink RX0 37 "TributeFleet$Canal" "iceReach" "I", Cond.methodLink RX9 29 yX3_init, Cond.instanceMethod yX3_init, Cond.code yX3_init cX3_init 1 none, Cond.methodLink RX3 3 objectInit, Cond.classLink RX3 11 RX6, Cond.fieldLink RX3 13 "TributeFleet$Fleet" "squadrons" "[LTributeFleet$Squadron;", Cond.fieldLink RX3 17 "TributeFleet$Fleet" "line" "[I", Cond.fieldLink RX3 21 "TributeFleet$Fleet" "size" "I", Cond.methodLink RX9 36 yX8_init, Cond.instanceMethod yX8_init, Cond.code yX8_init cX8_init 1 none, Cond.methodLink RX8 3 objectInit, Cond.arrayClass .byte, Cond.fieldLink RX8 11 "TributeFleet$Tape" "bytes" "[B", Cond.fieldLink RX8 15 "TributeFleet$Tape" "size" "I", Cond.methodLink RX9 43 yX4_init, Cond.instanceMethod yX4_init, Cond.code yX4_init cX4_init 2 none]
def wsX9_init_r4 : List Cond := [Cond.methodLink RX4 3 objectInit, Cond.fieldLink RX4 9 "TributeFleet$Reader" "tape" "LTributeFleet$Tape;", Cond.fieldLink RX4 15 "TributeFleet$Reader" "length" "I", Cond.fieldLink RX4 19 "TributeFleet$Reader" "start" "I", Cond.fieldLink RX4 22 "TributeFleet$Reader" "end" "I", Cond.fieldLink RX4 25 "TributeFleet$Reader" "kind" "I", Cond.methodLink RX9 52 yX1_init, Cond.instanceMethod yX1_init, Cond.code yX1_init cX1_init 2 none, Cond.methodLink RX1 3 objectInit, Cond.classLink RX1 11 RX7, Cond.fieldLink RX1 13 "TributeFleet$Code" "taken" "[LTributeFleet$Statute;", Cond.instantiable RX7 7, Cond.initialized RX7, Cond.fieldLink RX1 20 "TributeFleet$Code" "unwritten" "LTributeFleet$Statute;", Cond.fieldLink RX1 24 "TributeFleet$Code" "size" "I", Cond.methodLink RX1 17 yX7_init, Cond.instanceMethod yX7_init, Cond.code yX7_init cX7_init 5 none, Cond.methodLink RX7 3 objectInit, Cond.fieldLink RX7 9 "TributeFleet$Statute" "number" "I", Cond.fieldLink RX7 15 "TributeFleet$Statute" "fromDay" "I", Cond.fieldLink RX7 18 "TributeFleet$Statute" "allowed" "[I", Cond.fieldLink RX7 22 "TributeFleet$Statute" "order" "I"]
def wsX9_init_r5 : List Cond := [Cond.fieldLink RX7 25 "TributeFleet$Statute" "loss" "I", Cond.fieldLink RX7 28 "TributeFleet$Statute" "goodsABoat" "I", Cond.fieldLink RX7 31 "TributeFleet$Statute" "fine" "I", Cond.methodLink RX9 59 yX2_init, Cond.instanceMethod yX2_init, Cond.code yX2_init cX2_init 1 none, Cond.methodLink RX2 3 objectInit, Cond.fieldLink RX2 9 "TributeFleet$Counties" "allotted" "[I", Cond.fieldLink RX2 15 "TributeFleet$Counties" "commuted" "[I", Cond.fieldLink RX2 18 "TributeFleet$Counties" "paid" "[I", Cond.fieldLink RX2 21 "TributeFleet$Counties" "coinsABag" "I", Cond.methodLink RX9 66 yX5_init, Cond.instanceMethod yX5_init, Cond.code yX5_init cX5_init 1 none, Cond.methodLink RX5 3 objectInit, Cond.fieldLink RX5 11 "TributeFleet$Schedule" "numbers" "[I", Cond.fieldLink RX5 15 "TributeFleet$Schedule" "takes" "[I", Cond.fieldLink RX5 18 "TributeFleet$Schedule" "dueDays" "[I", Cond.fieldLink RX5 21 "TributeFleet$Schedule" "rest" "[I", Cond.fieldLink RX5 24 "TributeFleet$Schedule" "size" "I", Cond.fieldLink RX5 28 "TributeFleet$Schedule" "firstDay" "I"]
def wsX9_init : List Cond := .code yX9_init cX9_init 3 none :: ((wsX9_init_r1 ++ (wsX9_init_r2 ++ (wsX9_init_r3 ++ (wsX9_init_r4 ++ wsX9_init_r5)))) ++ wsX00 ++ wsX90 ++ wsX30 ++ wsX80 ++ wsX40 ++ wsX10 ++ wsX20 ++ wsX50 ++ wsX70)
def wsX9_water : List Cond := .code yX9_water cX9_water 3 (some .boolean) :: ([.fieldLink RX9 23 "TributeFleet" "canal" "LTributeFleet$Canal;", .fieldLink RX9 86 "TributeFleet$Canal" "water" "[I", .methodLink RX9 78 yX0_hasReach, .instanceMethod yX0_hasReach, .selects RX0 yX0_hasReach yX0_hasReach, .initialized RX0, .code yX0_hasReach cX0_hasReach 2 (some .boolean), .fieldLink RX0 9 "TributeFleet$Canal" "reaches" "I", .static yX9_isPlace, .initialized RX9, .code yX9_isPlace cX9_isPlace 2 (some .boolean), .methodLink RX9 82 yX9_isWithin, .static yX9_isWithin, .code yX9_isWithin cX9_isWithin 3 (some .boolean)] ++ wsX90 ++ wsX00)
def wsX9_lock : List Cond := .code yX9_lock cX9_lock 3 (some .boolean) :: ([.fieldLink RX9 23 "TributeFleet" "canal" "LTributeFleet$Canal;", .fieldLink RX9 93 "TributeFleet$Canal" "lockBoats" "[I", .methodLink RX9 90 yX0_hasLock, .instanceMethod yX0_hasLock, .selects RX0 yX0_hasLock yX0_hasLock, .initialized RX0, .code yX0_hasLock cX0_hasLock 2 (some .boolean), .fieldLink RX0 9 "TributeFleet$Canal" "reaches" "I", .static yX9_isPlace, .initialized RX9, .code yX9_isPlace cX9_isPlace 2 (some .boolean), .methodLink RX9 82 yX9_isWithin, .static yX9_isWithin, .code yX9_isWithin cX9_isWithin 3 (some .boolean)] ++ wsX90 ++ wsX00)
def wsX9_lake : List Cond := .code yX9_lake cX9_lake 3 (some .int) :: ([.fieldLink RX9 23 "TributeFleet" "canal" "LTributeFleet$Canal;", .methodLink RX9 78 yX0_hasReach, .instanceMethod yX0_hasReach, .selects RX0 yX0_hasReach yX0_hasReach, .initialized RX0, .code yX0_hasReach cX0_hasReach 2 (some .boolean), .fieldLink RX0 9 "TributeFleet$Canal" "reaches" "I", .static yX9_isPlace, .initialized RX9, .code yX9_isPlace cX9_isPlace 2 (some .boolean), .methodLink RX9 82 yX9_isWithin, .static yX9_isWithin, .code yX9_isWithin cX9_isWithin 3 (some .boolean), .methodLink RX9 96 yX0_addLake, .instanceMethod yX0_addLake, .selects RX0 yX0_addLake yX0_addLake, .code yX0_addLake cX0_addLake 3 (some .int), .fieldLink RX0 31 "TributeFleet$Canal" "lakes" "I", .fieldLink RX0 22 "TributeFleet$Canal" "lakeReach" "[I", .fieldLink RX0 25 "TributeFleet$Canal" "lakeStore" "[I"] ++ wsX90 ++ wsX00)
def wsX9_give : List Cond := .code yX9_give cX9_give 3 (some .boolean) :: ([.fieldLink RX9 23 "TributeFleet" "canal" "LTributeFleet$Canal;", .fieldLink RX9 102 "TributeFleet$Canal" "lakeGives" "[I", .methodLink RX9 99 yX0_hasLake, .instanceMethod yX0_hasLake, .selects RX0 yX0_hasLake yX0_hasLake, .initialized RX0, .code yX0_hasLake cX0_hasLake 2 (some .boolean), .fieldLink RX0 31 "TributeFleet$Canal" "lakes" "I", .static yX9_isPlace, .initialized RX9, .code yX9_isPlace cX9_isPlace 2 (some .boolean), .methodLink RX9 82 yX9_isWithin, .static yX9_isWithin, .code yX9_isWithin cX9_isWithin 3 (some .boolean)] ++ wsX90 ++ wsX00)
def wsX9_isDay : List Cond := .code yX9_isDay cX9_isDay 1 (some .boolean) :: ([.methodLink RX9 82 yX9_isWithin, .static yX9_isWithin, .initialized RX9, .code yX9_isWithin cX9_isWithin 3 (some .boolean)])
def wsX9_ice : List Cond := .code yX9_ice cX9_ice 3 (some .boolean) :: ([.fieldLink RX9 23 "TributeFleet" "canal" "LTributeFleet$Canal;", .fieldLink RX9 108 "TributeFleet$Canal" "iceDay" "I", .fieldLink RX9 111 "TributeFleet$Canal" "iceReach" "I", .methodLink RX9 105 yX9_isDay, .static yX9_isDay, .initialized RX9, .code yX9_isDay cX9_isDay 1 (some .boolean), .methodLink RX9 82 yX9_isWithin, .static yX9_isWithin, .code yX9_isWithin cX9_isWithin 3 (some .boolean), .methodLink RX9 78 yX0_hasReach, .instanceMethod yX0_hasReach, .selects RX0 yX0_hasReach yX0_hasReach, .initialized RX0, .code yX0_hasReach cX0_hasReach 2 (some .boolean), .fieldLink RX0 9 "TributeFleet$Canal" "reaches" "I", .static yX9_isPlace, .code yX9_isPlace cX9_isPlace 2 (some .boolean)] ++ wsX90 ++ wsX00)
def wsX9_squadron_r1 : List Cond := [Cond.fieldLink RX9 30 "TributeFleet" "fleet" "LTributeFleet$Fleet;", Cond.classLink RX9 121 RX6, Cond.instantiable RX6 12, Cond.initialized RX6, Cond.fieldLink RX9 23 "TributeFleet" "canal" "LTributeFleet$Canal;", Cond.fieldLink RX9 123 "TributeFleet$Canal" "reaches" "I", Cond.methodLink RX9 114 yX9_isCounty, Cond.static yX9_isCounty, Cond.initialized RX9, Cond.code yX9_isCounty cX9_isCounty 1 (some .boolean), Cond.methodLink RX9 82 yX9_isWithin, Cond.static yX9_isWithin, Cond.code yX9_isWithin cX9_isWithin 3 (some .boolean), Cond.methodLink RX9 117 yX3_isFull, Cond.instanceMethod yX3_isFull, Cond.selects RX3 yX3_isFull yX3_isFull, Cond.initialized RX3, Cond.code yX3_isFull cX3_isFull 1 (some .boolean), Cond.fieldLink RX3 21 "TributeFleet$Fleet" "size" "I", Cond.methodLink RX9 126 yX6_init, Cond.instanceMethod yX6_init, Cond.code yX6_init cX6_init 6 none, Cond.methodLink RX6 3 objectInit, Cond.instanceMethod objectInit]
def wsX9_squadron_r2 : List Cond := [Cond.code objectInit ⟨#[0xb1]⟩ 1 none, Cond.fieldLink RX6 9 "TributeFleet$Squadron" "county" "I", Cond.fieldLink RX6 15 "TributeFleet$Squadron" "boats" "I", Cond.fieldLink RX6 18 "TributeFleet$Squadron" "bags" "I", Cond.fieldLink RX6 21 "TributeFleet$Squadron" "goods" "I", Cond.arrayClass .int, Cond.fieldLink RX6 24 "TributeFleet$Squadron" "daysIn" "[I", Cond.fieldLink RX6 28 "TributeFleet$Squadron" "daysBy" "[I", Cond.fieldLink RX6 31 "TributeFleet$Squadron" "reach" "I", Cond.fieldLink RX6 34 "TributeFleet$Squadron" "cameOn" "I", Cond.fieldLink RX6 37 "TributeFleet$Squadron" "lost" "I", Cond.fieldLink RX6 40 "TributeFleet$Squadron" "why" "I", Cond.fieldLink RX6 43 "TributeFleet$Squadron" "dueDay" "I", Cond.fieldLink RX6 46 "TributeFleet$Squadron" "hasLeave" "Z", Cond.methodLink RX9 129 yX3_add, Cond.instanceMethod yX3_add, Cond.selects RX3 yX3_add yX3_add, Cond.code yX3_add cX3_add 2 (some .int), Cond.fieldLink RX3 13 "TributeFleet$Fleet" "squadrons" "[LTributeFleet$Squadron;", Cond.methodLink RX3 25 yX3_isFull]
def wsX9_squadron : List Cond := .code yX9_squadron cX9_squadron 6 (some .int) :: ((wsX9_squadron_r1 ++ wsX9_squadron_r2) ++ wsX90 ++ wsX60 ++ wsX00 ++ wsX30)
def wsX9_feed : List Cond := .code yX9_feed cX9_feed 6 (some .int) :: ([.fieldLink RX9 37 "TributeFleet" "tape" "LTributeFleet$Tape;", .fieldLink RX9 139 "TributeFleet$Tape" "size" "I", .methodLink RX9 133 yX8_hasRoom, .instanceMethod yX8_hasRoom, .selects RX8 yX8_hasRoom yX8_hasRoom, .initialized RX8, .code yX8_hasRoom cX8_hasRoom 1 (some .boolean), .fieldLink RX8 15 "TributeFleet$Tape" "size" "I", .methodLink RX9 136 yX8_append, .instanceMethod yX8_append, .selects RX8 yX8_append yX8_append, .code yX8_append cX8_append 3 none, .fieldLink RX8 11 "TributeFleet$Tape" "bytes" "[B"] ++ wsX90 ++ wsX80)
def wsX9_statute_r1 : List Cond := [Cond.fieldLink RX9 37 "TributeFleet" "tape" "LTributeFleet$Tape;", Cond.fieldLink RX9 139 "TributeFleet$Tape" "size" "I", Cond.fieldLink RX9 53 "TributeFleet" "code" "LTributeFleet$Code;", Cond.classLink RX9 143 RX7, Cond.instantiable RX7 7, Cond.initialized RX7, Cond.fieldLink RX9 23 "TributeFleet" "canal" "LTributeFleet$Canal;", Cond.fieldLink RX9 123 "TributeFleet$Canal" "reaches" "I", Cond.fieldLink RX9 145 "TributeFleet$Code" "size" "I", Cond.fieldLink RX9 71 "TributeFleet" "today" "I", Cond.fieldLink RX9 46 "TributeFleet" "reader" "LTributeFleet$Reader;", Cond.fieldLink RX9 75 "TributeFleet" "faultPlace" "I", Cond.methodLink RX9 142 yX1_isFull, Cond.instanceMethod yX1_isFull, Cond.selects RX1 yX1_isFull yX1_isFull, Cond.initialized RX1, Cond.code yX1_isFull cX1_isFull 1 (some .boolean), Cond.fieldLink RX1 24 "TributeFleet$Code" "size" "I", Cond.methodLink RX9 146 yX7_init, Cond.instanceMethod yX7_init, Cond.code yX7_init cX7_init 5 none, Cond.methodLink RX7 3 objectInit, Cond.instanceMethod objectInit, Cond.code objectInit ⟨#[0xb1]⟩ 1 none]
def wsX9_statute_r2 : List Cond := [Cond.fieldLink RX7 9 "TributeFleet$Statute" "number" "I", Cond.fieldLink RX7 15 "TributeFleet$Statute" "fromDay" "I", Cond.arrayClass .int, Cond.fieldLink RX7 18 "TributeFleet$Statute" "allowed" "[I", Cond.fieldLink RX7 22 "TributeFleet$Statute" "order" "I", Cond.fieldLink RX7 25 "TributeFleet$Statute" "loss" "I", Cond.fieldLink RX7 28 "TributeFleet$Statute" "goodsABoat" "I", Cond.fieldLink RX7 31 "TributeFleet$Statute" "fine" "I", Cond.methodLink RX9 149 yX4_read, Cond.instanceMethod yX4_read, Cond.selects RX4 yX4_read yX4_read, Cond.initialized RX4, Cond.code yX4_read cX4_read 4 (some .int), Cond.fieldLink RX4 15 "TributeFleet$Reader" "length" "I", Cond.fieldLink RX4 22 "TributeFleet$Reader" "end" "I", Cond.fieldLink RX4 25 "TributeFleet$Reader" "kind" "I", Cond.fieldLink RX4 19 "TributeFleet$Reader" "start" "I", Cond.methodLink RX4 28 yX4_step, Cond.instanceMethod yX4_step, Cond.selects RX4 yX4_step yX4_step, Cond.code yX4_step cX4_step 1 none, Cond.fieldLink RX4 9 "TributeFleet$Reader" "tape" "LTributeFleet$Tape;", Cond.methodLink RX4 86 yX8_at, Cond.instanceMethod yX8_at]
def wsX9_statute_r3 : List Cond := [Cond.selects RX8 yX8_at yX8_at, Cond.initialized RX8, Cond.code yX8_at cX8_at 2 (some .int), Cond.fieldLink RX8 15 "TributeFleet$Tape" "size" "I", Cond.fieldLink RX8 11 "TributeFleet$Tape" "bytes" "[B", Cond.methodLink RX4 92 yX4_isBlank, Cond.static yX4_isBlank, Cond.code yX4_isBlank cX4_isBlank 1 (some .boolean), Cond.methodLink RX4 96 yX4_kindOf, Cond.static yX4_kindOf, Cond.code yX4_kindOf cX4_kindOf 1 (some .int), Cond.methodLink RX4 31 yX4_takeStatement, Cond.instanceMethod yX4_takeStatement, Cond.selects RX4 yX4_takeStatement yX4_takeStatement, Cond.code yX4_takeStatement cX4_takeStatement 2 (some .boolean), Cond.fieldLink RX4 59 "TributeFleet$Statute" "loss" "I", Cond.fieldLink RX4 65 "TributeFleet$Statute" "goodsABoat" "I", Cond.fieldLink RX4 70 "TributeFleet$Statute" "fine" "I", Cond.methodLink RX4 37 yX4_isWord, Cond.instanceMethod yX4_isWord, Cond.selects RX4 yX4_isWord yX4_isWord, Cond.code yX4_isWord cX4_isWord 3 (some .boolean), Cond.methodLink RX4 99 yJ0_length_8abf5, Cond.instanceMethod yJ0_length_8abf5]
def wsX9_statute_r4 : List Cond := [Cond.selects RJ0 yJ0_length_8abf5 yJ0_length_8abf5, Cond.initialized RJ0, Cond.code yJ0_length_8abf5 cJ0_length_8abf5 1 (some .int), Cond.fieldLink RJ0 9 "java/lang/String" "value" "[B", Cond.methodLink RJ0 335 yJ0_coder_7d493, Cond.instanceMethod yJ0_coder_7d493, Cond.selects RJ0 yJ0_coder_7d493 yJ0_coder_7d493, Cond.code yJ0_coder_7d493 cJ0_coder_7d493 1 (some .byte), Cond.fieldLink RJ0 38 "java/lang/String" "COMPACT_STRINGS" "Z", Cond.fieldLink RJ0 15 "java/lang/String" "coder" "B", Cond.methodLink RX4 103 yJ0_charAt_5068e, Cond.instanceMethod yJ0_charAt_5068e, Cond.selects RJ0 yJ0_charAt_5068e yJ0_charAt_5068e, Cond.code yJ0_charAt_5068e cJ0_charAt_5068e 2 (some .char), Cond.methodLink RJ0 492 yJ0_isLatin1_aae02, Cond.instanceMethod yJ0_isLatin1_aae02, Cond.selects RJ0 yJ0_isLatin1_aae02 yJ0_isLatin1_aae02, Cond.code yJ0_isLatin1_aae02 cJ0_isLatin1_aae02 1 (some .boolean), Cond.methodLink RJ0 495 yJ1_charAt_3b067, Cond.static yJ1_charAt_3b067, Cond.initialized RJ1, Cond.code yJ1_charAt_3b067 cJ1_charAt_3b067 2 (some .char), Cond.methodLink RJ1 9 yJ0_checkIndex_df160, Cond.static yJ0_checkIndex_df160]
def wsX9_statute_r5 : List Cond := [Cond.code yJ0_checkIndex_df160 cJ0_checkIndex_df160 2 none, Cond.fieldLink RJ0 1053 "jdk/internal/util/Preconditions" "SIOOBE_FORMATTER" "Ljava/util/function/BiFunction;", Cond.methodLink RJ0 1059 yJ3_checkIndex_8e157, Cond.static yJ3_checkIndex_8e157, Cond.initialized RJ3, Cond.code yJ3_checkIndex_8e157 cJ3_checkIndex_8e157 3 (some .int), Cond.methodLink RJ0 498 yJ2_charAt_3b067, Cond.static yJ2_charAt_3b067, Cond.initialized RJ2, Cond.code yJ2_charAt_3b067 cJ2_charAt_3b067 2 (some .char), Cond.methodLink RJ2 67 yJ2_checkIndex_2214a, Cond.static yJ2_checkIndex_2214a, Cond.code yJ2_checkIndex_2214a cJ2_checkIndex_2214a 2 none, Cond.methodLink RJ2 48 yJ2_length_9d52b, Cond.static yJ2_length_9d52b, Cond.code yJ2_length_9d52b cJ2_length_9d52b 1 (some .int), Cond.methodLink RJ2 414 yJ0_checkIndex_df160, Cond.methodLink RJ2 71 yJ2_getChar_3b067, Cond.static yJ2_getChar_3b067, Cond.code yJ2_getChar_3b067 cJ2_getChar_3b067 2 (some .char), Cond.fieldLink RJ2 44 "java/lang/StringUTF16" "$assertionsDisabled" "Z", Cond.fieldLink RJ2 59 "java/lang/StringUTF16" "HI_BYTE_SHIFT" "I", Cond.fieldLink RJ2 63 "java/lang/StringUTF16" "LO_BYTE_SHIFT" "I", Cond.methodLink RX4 41 yX4_takeOrder]
def wsX9_statute_r6 : List Cond := [Cond.instanceMethod yX4_takeOrder, Cond.selects RX4 yX4_takeOrder yX4_takeOrder, Cond.code yX4_takeOrder cX4_takeOrder 2 (some .boolean), Cond.fieldLink RX4 74 "TributeFleet$Statute" "order" "I", Cond.methodLink RX4 44 yX4_takeSemicolon, Cond.instanceMethod yX4_takeSemicolon, Cond.selects RX4 yX4_takeSemicolon yX4_takeSemicolon, Cond.code yX4_takeSemicolon cX4_takeSemicolon 1 (some .boolean), Cond.methodLink RX4 50 yX4_takeDays, Cond.instanceMethod yX4_takeDays, Cond.selects RX4 yX4_takeDays yX4_takeDays, Cond.code yX4_takeDays cX4_takeDays 4 (some .boolean), Cond.methodLink RX4 55 yX4_takeNumber, Cond.instanceMethod yX4_takeNumber, Cond.selects RX4 yX4_takeNumber yX4_takeNumber, Cond.code yX4_takeNumber cX4_takeNumber 3 (some .int), Cond.methodLink RX4 82 yX7_allow, Cond.instanceMethod yX7_allow, Cond.selects RX7 yX7_allow yX7_allow, Cond.code yX7_allow cX7_allow 3 none, Cond.static yX9_isPlace, Cond.initialized RX9, Cond.code yX9_isPlace cX9_isPlace 2 (some .boolean), Cond.methodLink RX9 153 yX1_take]
def wsX9_statute_r7 : List Cond := [Cond.instanceMethod yX1_take, Cond.selects RX1 yX1_take yX1_take, Cond.code yX1_take cX1_take 2 (some .int), Cond.fieldLink RX1 13 "TributeFleet$Code" "taken" "[LTributeFleet$Statute;", Cond.methodLink RX1 28 yX1_isFull]
def wsX9_statute : List Cond := .code yX9_statute cX9_statute 3 (some .int) :: ((wsX9_statute_r1 ++ (wsX9_statute_r2 ++ (wsX9_statute_r3 ++ (wsX9_statute_r4 ++ (wsX9_statute_r5 ++ (wsX9_statute_r6 ++ wsX9_statute_r7)))))) ++ wsX90 ++ wsX80 ++ wsX70 ++ wsX00 ++ wsX10 ++ wsX40)
def wsX9_fault : List Cond := .code yX9_fault cX9_fault 1 (some .int) :: ([.fieldLink RX9 75 "TributeFleet" "faultPlace" "I"] ++ wsX90)
def wsX9_law_r1 : List Cond := [Cond.fieldLink RX9 53 "TributeFleet" "code" "LTributeFleet$Code;", Cond.methodLink RX9 105 yX9_isDay, Cond.static yX9_isDay, Cond.initialized RX9, Cond.code yX9_isDay cX9_isDay 1 (some .boolean), Cond.methodLink RX9 82 yX9_isWithin, Cond.static yX9_isWithin, Cond.code yX9_isWithin cX9_isWithin 3 (some .boolean), Cond.methodLink RX9 157 yX1_inForce, Cond.instanceMethod yX1_inForce, Cond.selects RX1 yX1_inForce yX1_inForce, Cond.initialized RX1, Cond.code yX1_inForce cX1_inForce 4 (some (.object "TributeFleet$Statute")), Cond.fieldLink RX1 24 "TributeFleet$Code" "size" "I", Cond.fieldLink RX1 13 "TributeFleet$Code" "taken" "[LTributeFleet$Statute;", Cond.fieldLink RX1 32 "TributeFleet$Statute" "fromDay" "I", Cond.fieldLink RX1 20 "TributeFleet$Code" "unwritten" "LTributeFleet$Statute;", Cond.methodLink RX9 161 yX7_tell, Cond.instanceMethod yX7_tell, Cond.selects RX7 yX7_tell yX7_tell, Cond.initialized RX7, Cond.code yX7_tell cX7_tell 2 (some .int), Cond.fieldLink RX7 22 "TributeFleet$Statute" "order" "I", Cond.fieldLink RX7 25 "TributeFleet$Statute" "loss" "I"]
def wsX9_law_r2 : List Cond := [Cond.fieldLink RX7 28 "TributeFleet$Statute" "goodsABoat" "I", Cond.fieldLink RX7 31 "TributeFleet$Statute" "fine" "I", Cond.fieldLink RX7 9 "TributeFleet$Statute" "number" "I", Cond.methodLink RX7 38 yX7_allowedIn, Cond.instanceMethod yX7_allowedIn, Cond.selects RX7 yX7_allowedIn yX7_allowedIn, Cond.code yX7_allowedIn cX7_allowedIn 2 (some .int), Cond.fieldLink RX7 18 "TributeFleet$Statute" "allowed" "[I", Cond.static yX9_isPlace, Cond.code yX9_isPlace cX9_isPlace 2 (some .boolean)]
def wsX9_law : List Cond := .code yX9_law cX9_law 3 (some .int) :: ((wsX9_law_r1 ++ wsX9_law_r2) ++ wsX90 ++ wsX10 ++ wsX70)
def wsX9_leave : List Cond := .code yX9_leave cX9_leave 4 (some .boolean) :: ([.fieldLink RX9 30 "TributeFleet" "fleet" "LTributeFleet$Fleet;", .fieldLink RX9 169 "TributeFleet$Squadron" "hasLeave" "Z", .methodLink RX9 165 yX3_find, .instanceMethod yX3_find, .selects RX3 yX3_find yX3_find, .initialized RX3, .code yX3_find cX3_find 2 (some (.object "TributeFleet$Squadron")), .fieldLink RX3 21 "TributeFleet$Fleet" "size" "I", .fieldLink RX3 13 "TributeFleet$Fleet" "squadrons" "[LTributeFleet$Squadron;", .static yX9_isPlace, .initialized RX9, .code yX9_isPlace cX9_isPlace 2 (some .boolean)] ++ wsX90 ++ wsX60 ++ wsX30)
def wsX9_lose_r1 : List Cond := [Cond.fieldLink RX9 30 "TributeFleet" "fleet" "LTributeFleet$Fleet;", Cond.fieldLink RX9 180 "TributeFleet$Squadron" "lost" "I", Cond.methodLink RX9 165 yX3_find, Cond.instanceMethod yX3_find, Cond.selects RX3 yX3_find yX3_find, Cond.initialized RX3, Cond.code yX3_find cX3_find 2 (some (.object "TributeFleet$Squadron")), Cond.fieldLink RX3 21 "TributeFleet$Fleet" "size" "I", Cond.fieldLink RX3 13 "TributeFleet$Fleet" "squadrons" "[LTributeFleet$Squadron;", Cond.static yX9_isPlace, Cond.initialized RX9, Cond.code yX9_isPlace cX9_isPlace 2 (some .boolean), Cond.methodLink RX9 173 yX6_hasCome, Cond.instanceMethod yX6_hasCome, Cond.selects RX6 yX6_hasCome yX6_hasCome, Cond.initialized RX6, Cond.code yX6_hasCome cX6_hasCome 1 (some .boolean), Cond.fieldLink RX6 34 "TributeFleet$Squadron" "cameOn" "I", Cond.methodLink RX9 176 yX6_bagsLeft, Cond.instanceMethod yX6_bagsLeft, Cond.selects RX6 yX6_bagsLeft yX6_bagsLeft, Cond.code yX6_bagsLeft cX6_bagsLeft 1 (some .int), Cond.fieldLink RX6 18 "TributeFleet$Squadron" "bags" "I", Cond.fieldLink RX6 37 "TributeFleet$Squadron" "lost" "I"]
def wsX9_lose_r2 : List Cond := [Cond.methodLink RX9 82 yX9_isWithin, Cond.static yX9_isWithin, Cond.code yX9_isWithin cX9_isWithin 3 (some .boolean)]
def wsX9_lose : List Cond := .code yX9_lose cX9_lose 4 (some .int) :: ((wsX9_lose_r1 ++ wsX9_lose_r2) ++ wsX90 ++ wsX60 ++ wsX30)
def wsX9_whatBars_r1 : List Cond := [Cond.fieldLink RX9 23 "TributeFleet" "canal" "LTributeFleet$Canal;", Cond.fieldLink RX9 282 "TributeFleet$Squadron" "reach" "I", Cond.fieldLink RX9 71 "TributeFleet" "today" "I", Cond.fieldLink RX9 253 "TributeFleet$Squadron" "boats" "I", Cond.fieldLink RX9 169 "TributeFleet$Squadron" "hasLeave" "Z", Cond.methodLink RX9 209 yX0_isIcy, Cond.instanceMethod yX0_isIcy, Cond.selects RX0 yX0_isIcy yX0_isIcy, Cond.initialized RX0, Cond.code yX0_isIcy cX0_isIcy 3 (some .boolean), Cond.fieldLink RX0 34 "TributeFleet$Canal" "iceDay" "I", Cond.fieldLink RX0 37 "TributeFleet$Canal" "iceReach" "I", Cond.methodLink RX9 299 yX0_isTooLow, Cond.instanceMethod yX0_isTooLow, Cond.selects RX0 yX0_isTooLow yX0_isTooLow, Cond.code yX0_isTooLow cX0_isTooLow 3 (some .boolean), Cond.fieldLink RX0 15 "TributeFleet$Canal" "water" "[I", Cond.methodLink RX0 44 yX0_hasReach, Cond.instanceMethod yX0_hasReach, Cond.selects RX0 yX0_hasReach yX0_hasReach, Cond.code yX0_hasReach cX0_hasReach 2 (some .boolean), Cond.fieldLink RX0 9 "TributeFleet$Canal" "reaches" "I", Cond.static yX9_isPlace, Cond.initialized RX9]
def wsX9_whatBars_r2 : List Cond := [Cond.code yX9_isPlace cX9_isPlace 2 (some .boolean)]
def wsX9_whatBars : List Cond := .code yX9_whatBars cX9_whatBars 4 (some .int) :: ((wsX9_whatBars_r1 ++ wsX9_whatBars_r2) ++ wsX90 ++ wsX60 ++ wsX00)
def wsX9_workLock_r1 : List Cond := [Cond.fieldLink RX9 23 "TributeFleet" "canal" "LTributeFleet$Canal;", Cond.fieldLink RX9 30 "TributeFleet" "fleet" "LTributeFleet$Fleet;", Cond.fieldLink RX9 252 "TributeFleet$Fleet" "size" "I", Cond.fieldLink RX9 282 "TributeFleet$Squadron" "reach" "I", Cond.fieldLink RX9 253 "TributeFleet$Squadron" "boats" "I", Cond.fieldLink RX9 71 "TributeFleet" "today" "I", Cond.methodLink RX9 276 yX0_boatsOf, Cond.instanceMethod yX0_boatsOf, Cond.selects RX0 yX0_boatsOf yX0_boatsOf, Cond.initialized RX0, Cond.code yX0_boatsOf cX0_boatsOf 2 (some .int), Cond.fieldLink RX0 19 "TributeFleet$Canal" "lockBoats" "[I", Cond.methodLink RX0 48 yX0_hasLock, Cond.instanceMethod yX0_hasLock, Cond.selects RX0 yX0_hasLock yX0_hasLock, Cond.code yX0_hasLock cX0_hasLock 2 (some .boolean), Cond.fieldLink RX0 9 "TributeFleet$Canal" "reaches" "I", Cond.static yX9_isPlace, Cond.initialized RX9, Cond.code yX9_isPlace cX9_isPlace 2 (some .boolean), Cond.methodLink RX9 279 yX3_inLine, Cond.instanceMethod yX3_inLine, Cond.selects RX3 yX3_inLine yX3_inLine, Cond.initialized RX3]
def wsX9_workLock_r2 : List Cond := [Cond.code yX3_inLine cX3_inLine 2 (some (.object "TributeFleet$Squadron")), Cond.fieldLink RX3 17 "TributeFleet$Fleet" "line" "[I", Cond.methodLink RX3 33 yX3_find, Cond.instanceMethod yX3_find, Cond.selects RX3 yX3_find yX3_find, Cond.code yX3_find cX3_find 2 (some (.object "TributeFleet$Squadron")), Cond.fieldLink RX3 21 "TributeFleet$Fleet" "size" "I", Cond.fieldLink RX3 13 "TributeFleet$Fleet" "squadrons" "[LTributeFleet$Squadron;", Cond.methodLink RX9 285 yX9_whatBars, Cond.instanceMethod yX9_whatBars, Cond.selects RX9 yX9_whatBars yX9_whatBars, Cond.code yX9_whatBars cX9_whatBars 4 (some .int), Cond.fieldLink RX9 169 "TributeFleet$Squadron" "hasLeave" "Z", Cond.methodLink RX9 209 yX0_isIcy, Cond.instanceMethod yX0_isIcy, Cond.selects RX0 yX0_isIcy yX0_isIcy, Cond.code yX0_isIcy cX0_isIcy 3 (some .boolean), Cond.fieldLink RX0 34 "TributeFleet$Canal" "iceDay" "I", Cond.fieldLink RX0 37 "TributeFleet$Canal" "iceReach" "I", Cond.methodLink RX9 299 yX0_isTooLow, Cond.instanceMethod yX0_isTooLow, Cond.selects RX0 yX0_isTooLow yX0_isTooLow, Cond.code yX0_isTooLow cX0_isTooLow 3 (some .boolean), Cond.fieldLink RX0 15 "TributeFleet$Canal" "water" "[I"]
def wsX9_workLock_r3 : List Cond := [Cond.methodLink RX0 44 yX0_hasReach, Cond.instanceMethod yX0_hasReach, Cond.selects RX0 yX0_hasReach yX0_hasReach, Cond.code yX0_hasReach cX0_hasReach 2 (some .boolean), Cond.methodLink RX9 289 yX0_letThrough, Cond.instanceMethod yX0_letThrough, Cond.selects RX0 yX0_letThrough yX0_letThrough, Cond.code yX0_letThrough cX0_letThrough 3 none, Cond.methodLink RX0 51 Lib.Math.min.name, Cond.static Lib.Math.min.name, Cond.initialized "java/lang/Math", Cond.code Lib.Math.min.name Lib.Math.min.code 2 (some .int), Cond.methodLink RX9 293 yX6_moveUp, Cond.instanceMethod yX6_moveUp, Cond.selects RX6 yX6_moveUp yX6_moveUp, Cond.initialized RX6, Cond.code yX6_moveUp cX6_moveUp 2 none, Cond.fieldLink RX6 31 "TributeFleet$Squadron" "reach" "I", Cond.fieldLink RX6 24 "TributeFleet$Squadron" "daysIn" "[I", Cond.fieldLink RX6 34 "TributeFleet$Squadron" "cameOn" "I", Cond.methodLink RX9 296 yX6_stay, Cond.instanceMethod yX6_stay, Cond.selects RX6 yX6_stay yX6_stay, Cond.code yX6_stay cX6_stay 2 none]
def wsX9_workLock_r4 : List Cond := [Cond.fieldLink RX6 40 "TributeFleet$Squadron" "why" "I", Cond.fieldLink RX6 28 "TributeFleet$Squadron" "daysBy" "[I"]
def wsX9_workLock : List Cond := .code yX9_workLock cX9_workLock 7 none :: ((wsX9_workLock_r1 ++ (wsX9_workLock_r2 ++ (wsX9_workLock_r3 ++ wsX9_workLock_r4))) ++ wsX90 ++ wsX30 ++ wsX60 ++ wsX00)
def wsX9_day_r1 : List Cond := [Cond.fieldLink RX9 71 "TributeFleet" "today" "I", Cond.fieldLink RX9 23 "TributeFleet" "canal" "LTributeFleet$Canal;", Cond.fieldLink RX9 30 "TributeFleet" "fleet" "LTributeFleet$Fleet;", Cond.fieldLink RX9 53 "TributeFleet" "code" "LTributeFleet$Code;", Cond.fieldLink RX9 189 "TributeFleet$Statute" "order" "I", Cond.fieldLink RX9 123 "TributeFleet$Canal" "reaches" "I", Cond.methodLink RX9 183 yX0_takeFromLakes, Cond.instanceMethod yX0_takeFromLakes, Cond.selects RX0 yX0_takeFromLakes yX0_takeFromLakes, Cond.initialized RX0, Cond.code yX0_takeFromLakes cX0_takeFromLakes 4 none, Cond.fieldLink RX0 31 "TributeFleet$Canal" "lakes" "I", Cond.fieldLink RX0 22 "TributeFleet$Canal" "lakeReach" "[I", Cond.fieldLink RX0 28 "TributeFleet$Canal" "lakeGives" "[I", Cond.fieldLink RX0 25 "TributeFleet$Canal" "lakeStore" "[I", Cond.methodLink RX0 51 Lib.Math.min.name, Cond.static Lib.Math.min.name, Cond.initialized "java/lang/Math", Cond.code Lib.Math.min.name Lib.Math.min.code 2 (some .int), Cond.fieldLink RX0 15 "TributeFleet$Canal" "water" "[I", Cond.methodLink RX0 44 yX0_hasReach, Cond.instanceMethod yX0_hasReach, Cond.selects RX0 yX0_hasReach yX0_hasReach, Cond.code yX0_hasReach cX0_hasReach 2 (some .boolean)]
def wsX9_day_r2 : List Cond := [Cond.fieldLink RX0 9 "TributeFleet$Canal" "reaches" "I", Cond.static yX9_isPlace, Cond.initialized RX9, Cond.code yX9_isPlace cX9_isPlace 2 (some .boolean), Cond.methodLink RX9 186 yX3_beginDay, Cond.instanceMethod yX3_beginDay, Cond.selects RX3 yX3_beginDay yX3_beginDay, Cond.initialized RX3, Cond.code yX3_beginDay cX3_beginDay 3 none, Cond.fieldLink RX3 21 "TributeFleet$Fleet" "size" "I", Cond.methodLink RX3 33 yX3_find, Cond.instanceMethod yX3_find, Cond.selects RX3 yX3_find yX3_find, Cond.code yX3_find cX3_find 2 (some (.object "TributeFleet$Squadron")), Cond.fieldLink RX3 13 "TributeFleet$Fleet" "squadrons" "[LTributeFleet$Squadron;", Cond.methodLink RX3 37 yX6_beginDay, Cond.instanceMethod yX6_beginDay, Cond.selects RX6 yX6_beginDay yX6_beginDay, Cond.initialized RX6, Cond.code yX6_beginDay cX6_beginDay 1 none, Cond.fieldLink RX6 40 "TributeFleet$Squadron" "why" "I", Cond.fieldLink RX6 31 "TributeFleet$Squadron" "reach" "I", Cond.fieldLink RX6 24 "TributeFleet$Squadron" "daysIn" "[I", Cond.methodLink RX6 50 yX6_hasCome]
def wsX9_day_r3 : List Cond := [Cond.instanceMethod yX6_hasCome, Cond.selects RX6 yX6_hasCome yX6_hasCome, Cond.code yX6_hasCome cX6_hasCome 1 (some .boolean), Cond.fieldLink RX6 34 "TributeFleet$Squadron" "cameOn" "I", Cond.methodLink RX9 157 yX1_inForce, Cond.instanceMethod yX1_inForce, Cond.selects RX1 yX1_inForce yX1_inForce, Cond.initialized RX1, Cond.code yX1_inForce cX1_inForce 4 (some (.object "TributeFleet$Statute")), Cond.fieldLink RX1 24 "TributeFleet$Code" "size" "I", Cond.fieldLink RX1 13 "TributeFleet$Code" "taken" "[LTributeFleet$Statute;", Cond.fieldLink RX1 32 "TributeFleet$Statute" "fromDay" "I", Cond.fieldLink RX1 20 "TributeFleet$Code" "unwritten" "LTributeFleet$Statute;", Cond.methodLink RX9 192 yX3_lineUp, Cond.instanceMethod yX3_lineUp, Cond.selects RX3 yX3_lineUp yX3_lineUp, Cond.code yX3_lineUp cX3_lineUp 4 none, Cond.fieldLink RX3 17 "TributeFleet$Fleet" "line" "[I", Cond.methodLink RX3 40 yX3_isAhead, Cond.instanceMethod yX3_isAhead, Cond.selects RX3 yX3_isAhead yX3_isAhead, Cond.code yX3_isAhead cX3_isAhead 6 (some .boolean), Cond.fieldLink RX3 44 "TributeFleet$Squadron" "county" "I", Cond.fieldLink RX3 47 "TributeFleet$Squadron" "boats" "I"]
def wsX9_day_r4 : List Cond := [Cond.methodLink RX9 195 yX9_workLock, Cond.instanceMethod yX9_workLock, Cond.selects RX9 yX9_workLock yX9_workLock, Cond.code yX9_workLock cX9_workLock 7 none, Cond.fieldLink RX9 252 "TributeFleet$Fleet" "size" "I", Cond.fieldLink RX9 282 "TributeFleet$Squadron" "reach" "I", Cond.fieldLink RX9 253 "TributeFleet$Squadron" "boats" "I", Cond.methodLink RX9 276 yX0_boatsOf, Cond.instanceMethod yX0_boatsOf, Cond.selects RX0 yX0_boatsOf yX0_boatsOf, Cond.code yX0_boatsOf cX0_boatsOf 2 (some .int), Cond.fieldLink RX0 19 "TributeFleet$Canal" "lockBoats" "[I", Cond.methodLink RX0 48 yX0_hasLock, Cond.instanceMethod yX0_hasLock, Cond.selects RX0 yX0_hasLock yX0_hasLock, Cond.code yX0_hasLock cX0_hasLock 2 (some .boolean), Cond.methodLink RX9 279 yX3_inLine, Cond.instanceMethod yX3_inLine, Cond.selects RX3 yX3_inLine yX3_inLine, Cond.code yX3_inLine cX3_inLine 2 (some (.object "TributeFleet$Squadron")), Cond.methodLink RX9 285 yX9_whatBars, Cond.instanceMethod yX9_whatBars, Cond.selects RX9 yX9_whatBars yX9_whatBars, Cond.code yX9_whatBars cX9_whatBars 4 (some .int)]
def wsX9_day_r5 : List Cond := [Cond.fieldLink RX9 169 "TributeFleet$Squadron" "hasLeave" "Z", Cond.methodLink RX9 209 yX0_isIcy, Cond.instanceMethod yX0_isIcy, Cond.selects RX0 yX0_isIcy yX0_isIcy, Cond.code yX0_isIcy cX0_isIcy 3 (some .boolean), Cond.fieldLink RX0 34 "TributeFleet$Canal" "iceDay" "I", Cond.fieldLink RX0 37 "TributeFleet$Canal" "iceReach" "I", Cond.methodLink RX9 299 yX0_isTooLow, Cond.instanceMethod yX0_isTooLow, Cond.selects RX0 yX0_isTooLow yX0_isTooLow, Cond.code yX0_isTooLow cX0_isTooLow 3 (some .boolean), Cond.methodLink RX9 289 yX0_letThrough, Cond.instanceMethod yX0_letThrough, Cond.selects RX0 yX0_letThrough yX0_letThrough, Cond.code yX0_letThrough cX0_letThrough 3 none, Cond.methodLink RX9 293 yX6_moveUp, Cond.instanceMethod yX6_moveUp, Cond.selects RX6 yX6_moveUp yX6_moveUp, Cond.code yX6_moveUp cX6_moveUp 2 none, Cond.methodLink RX9 296 yX6_stay, Cond.instanceMethod yX6_stay, Cond.selects RX6 yX6_stay yX6_stay, Cond.code yX6_stay cX6_stay 2 none, Cond.fieldLink RX6 28 "TributeFleet$Squadron" "daysBy" "[I"]
def wsX9_day : List Cond := .code yX9_day cX9_day 2 (some .int) :: ((wsX9_day_r1 ++ (wsX9_day_r2 ++ (wsX9_day_r3 ++ (wsX9_day_r4 ++ wsX9_day_r5)))) ++ wsX90 ++ wsX70 ++ wsX00 ++ wsX30 ++ wsX60 ++ wsX10)
def wsX9_told_r1 : List Cond := [Cond.fieldLink RX9 30 "TributeFleet" "fleet" "LTributeFleet$Fleet;", Cond.methodLink RX9 165 yX3_find, Cond.instanceMethod yX3_find, Cond.selects RX3 yX3_find yX3_find, Cond.initialized RX3, Cond.code yX3_find cX3_find 2 (some (.object "TributeFleet$Squadron")), Cond.fieldLink RX3 21 "TributeFleet$Fleet" "size" "I", Cond.fieldLink RX3 13 "TributeFleet$Fleet" "squadrons" "[LTributeFleet$Squadron;", Cond.static yX9_isPlace, Cond.initialized RX9, Cond.code yX9_isPlace cX9_isPlace 2 (some .boolean), Cond.methodLink RX9 198 yX6_tell, Cond.instanceMethod yX6_tell, Cond.selects RX6 yX6_tell yX6_tell, Cond.initialized RX6, Cond.code yX6_tell cX6_tell 2 (some .int), Cond.fieldLink RX6 31 "TributeFleet$Squadron" "reach" "I", Cond.fieldLink RX6 34 "TributeFleet$Squadron" "cameOn" "I", Cond.fieldLink RX6 40 "TributeFleet$Squadron" "why" "I", Cond.fieldLink RX6 24 "TributeFleet$Squadron" "daysIn" "[I", Cond.fieldLink RX6 46 "TributeFleet$Squadron" "hasLeave" "Z", Cond.methodLink RX6 58 yX6_bagsLeft, Cond.instanceMethod yX6_bagsLeft, Cond.selects RX6 yX6_bagsLeft yX6_bagsLeft]
def wsX9_told_r2 : List Cond := [Cond.code yX6_bagsLeft cX6_bagsLeft 1 (some .int), Cond.fieldLink RX6 18 "TributeFleet$Squadron" "bags" "I", Cond.fieldLink RX6 37 "TributeFleet$Squadron" "lost" "I", Cond.methodLink RX6 62 yX6_tellDays, Cond.instanceMethod yX6_tellDays, Cond.selects RX6 yX6_tellDays yX6_tellDays, Cond.code yX6_tellDays cX6_tellDays 2 (some .int), Cond.fieldLink RX6 28 "TributeFleet$Squadron" "daysBy" "[I"]
def wsX9_told : List Cond := .code yX9_told cX9_told 4 (some .int) :: ((wsX9_told_r1 ++ wsX9_told_r2) ++ wsX90 ++ wsX30 ++ wsX60)
def wsX9_judge_r1 : List Cond := [Cond.fieldLink RX9 30 "TributeFleet" "fleet" "LTributeFleet$Fleet;", Cond.fieldLink RX9 53 "TributeFleet" "code" "LTributeFleet$Code;", Cond.fieldLink RX9 199 "TributeFleet$Squadron" "cameOn" "I", Cond.methodLink RX9 165 yX3_find, Cond.instanceMethod yX3_find, Cond.selects RX3 yX3_find yX3_find, Cond.initialized RX3, Cond.code yX3_find cX3_find 2 (some (.object "TributeFleet$Squadron")), Cond.fieldLink RX3 21 "TributeFleet$Fleet" "size" "I", Cond.fieldLink RX3 13 "TributeFleet$Fleet" "squadrons" "[LTributeFleet$Squadron;", Cond.static yX9_isPlace, Cond.initialized RX9, Cond.code yX9_isPlace cX9_isPlace 2 (some .boolean), Cond.methodLink RX9 173 yX6_hasCome, Cond.instanceMethod yX6_hasCome, Cond.selects RX6 yX6_hasCome yX6_hasCome, Cond.initialized RX6, Cond.code yX6_hasCome cX6_hasCome 1 (some .boolean), Cond.fieldLink RX6 34 "TributeFleet$Squadron" "cameOn" "I", Cond.methodLink RX9 157 yX1_inForce, Cond.instanceMethod yX1_inForce, Cond.selects RX1 yX1_inForce yX1_inForce, Cond.initialized RX1, Cond.code yX1_inForce cX1_inForce 4 (some (.object "TributeFleet$Statute"))]
def wsX9_judge_r2 : List Cond := [Cond.fieldLink RX1 24 "TributeFleet$Code" "size" "I", Cond.fieldLink RX1 13 "TributeFleet$Code" "taken" "[LTributeFleet$Statute;", Cond.fieldLink RX1 32 "TributeFleet$Statute" "fromDay" "I", Cond.fieldLink RX1 20 "TributeFleet$Code" "unwritten" "LTributeFleet$Statute;", Cond.methodLink RX9 202 yX6_judgedBy, Cond.instanceMethod yX6_judgedBy, Cond.selects RX6 yX6_judgedBy yX6_judgedBy, Cond.code yX6_judgedBy cX6_judgedBy 3 (some .int), Cond.fieldLink RX6 76 "TributeFleet$Statute" "fine" "I", Cond.methodLink RX6 66 yX6_daysOver, Cond.instanceMethod yX6_daysOver, Cond.selects RX6 yX6_daysOver yX6_daysOver, Cond.code yX6_daysOver cX6_daysOver 4 (some .int), Cond.fieldLink RX6 24 "TributeFleet$Squadron" "daysIn" "[I", Cond.methodLink RX6 84 Lib.Math.max.name, Cond.static Lib.Math.max.name, Cond.initialized "java/lang/Math", Cond.code Lib.Math.max.name Lib.Math.max.code 2 (some .int), Cond.methodLink RX6 81 yX7_allowedIn, Cond.instanceMethod yX7_allowedIn, Cond.selects RX7 yX7_allowedIn yX7_allowedIn, Cond.initialized RX7, Cond.code yX7_allowedIn cX7_allowedIn 2 (some .int), Cond.fieldLink RX7 18 "TributeFleet$Statute" "allowed" "[I"]
def wsX9_judge_r3 : List Cond := [Cond.methodLink RX6 70 yX6_bagsShort, Cond.instanceMethod yX6_bagsShort, Cond.selects RX6 yX6_bagsShort yX6_bagsShort, Cond.code yX6_bagsShort cX6_bagsShort 2 (some .int), Cond.fieldLink RX6 37 "TributeFleet$Squadron" "lost" "I", Cond.fieldLink RX6 18 "TributeFleet$Squadron" "bags" "I", Cond.fieldLink RX6 90 "TributeFleet$Statute" "loss" "I", Cond.methodLink RX6 73 yX6_goodsOver, Cond.instanceMethod yX6_goodsOver, Cond.selects RX6 yX6_goodsOver yX6_goodsOver, Cond.code yX6_goodsOver cX6_goodsOver 2 (some .int), Cond.fieldLink RX6 21 "TributeFleet$Squadron" "goods" "I", Cond.fieldLink RX6 93 "TributeFleet$Statute" "goodsABoat" "I", Cond.fieldLink RX6 15 "TributeFleet$Squadron" "boats" "I"]
def wsX9_judge : List Cond := .code yX9_judge cX9_judge 4 (some .int) :: ((wsX9_judge_r1 ++ (wsX9_judge_r2 ++ wsX9_judge_r3)) ++ wsX90 ++ wsX60 ++ wsX30 ++ wsX10 ++ wsX70)
def wsX9_reach_r1 : List Cond := [Cond.fieldLink RX9 23 "TributeFleet" "canal" "LTributeFleet$Canal;", Cond.fieldLink RX9 86 "TributeFleet$Canal" "water" "[I", Cond.fieldLink RX9 30 "TributeFleet" "fleet" "LTributeFleet$Fleet;", Cond.fieldLink RX9 71 "TributeFleet" "today" "I", Cond.fieldLink RX9 93 "TributeFleet$Canal" "lockBoats" "[I", Cond.methodLink RX9 78 yX0_hasReach, Cond.instanceMethod yX0_hasReach, Cond.selects RX0 yX0_hasReach yX0_hasReach, Cond.initialized RX0, Cond.code yX0_hasReach cX0_hasReach 2 (some .boolean), Cond.fieldLink RX0 9 "TributeFleet$Canal" "reaches" "I", Cond.static yX9_isPlace, Cond.initialized RX9, Cond.code yX9_isPlace cX9_isPlace 2 (some .boolean), Cond.methodLink RX9 206 yX3_boatsIn, Cond.instanceMethod yX3_boatsIn, Cond.selects RX3 yX3_boatsIn yX3_boatsIn, Cond.initialized RX3, Cond.code yX3_boatsIn cX3_boatsIn 5 (some .int), Cond.fieldLink RX3 21 "TributeFleet$Fleet" "size" "I", Cond.fieldLink RX3 50 "TributeFleet$Squadron" "reach" "I", Cond.fieldLink RX3 47 "TributeFleet$Squadron" "boats" "I", Cond.methodLink RX3 33 yX3_find, Cond.instanceMethod yX3_find]
def wsX9_reach_r2 : List Cond := [Cond.selects RX3 yX3_find yX3_find, Cond.code yX3_find cX3_find 2 (some (.object "TributeFleet$Squadron")), Cond.fieldLink RX3 13 "TributeFleet$Fleet" "squadrons" "[LTributeFleet$Squadron;", Cond.methodLink RX9 209 yX0_isIcy, Cond.instanceMethod yX0_isIcy, Cond.selects RX0 yX0_isIcy yX0_isIcy, Cond.code yX0_isIcy cX0_isIcy 3 (some .boolean), Cond.fieldLink RX0 34 "TributeFleet$Canal" "iceDay" "I", Cond.fieldLink RX0 37 "TributeFleet$Canal" "iceReach" "I", Cond.methodLink RX9 90 yX0_hasLock, Cond.instanceMethod yX0_hasLock, Cond.selects RX0 yX0_hasLock yX0_hasLock, Cond.code yX0_hasLock cX0_hasLock 2 (some .boolean)]
def wsX9_reach : List Cond := .code yX9_reach cX9_reach 3 (some .int) :: ((wsX9_reach_r1 ++ wsX9_reach_r2) ++ wsX90 ++ wsX00 ++ wsX30 ++ wsX60)
def wsX9_store : List Cond := .code yX9_store cX9_store 2 (some .int) :: ([.fieldLink RX9 23 "TributeFleet" "canal" "LTributeFleet$Canal;", .fieldLink RX9 213 "TributeFleet$Canal" "lakeStore" "[I", .methodLink RX9 99 yX0_hasLake, .instanceMethod yX0_hasLake, .selects RX0 yX0_hasLake yX0_hasLake, .initialized RX0, .code yX0_hasLake cX0_hasLake 2 (some .boolean), .fieldLink RX0 31 "TributeFleet$Canal" "lakes" "I", .static yX9_isPlace, .initialized RX9, .code yX9_isPlace cX9_isPlace 2 (some .boolean)] ++ wsX90 ++ wsX00)
def wsX9_allot : List Cond := .code yX9_allot cX9_allot 3 (some .boolean) :: ([.fieldLink RX9 60 "TributeFleet" "counties" "LTributeFleet$Counties;", .fieldLink RX9 216 "TributeFleet$Counties" "allotted" "[I", .methodLink RX9 114 yX9_isCounty, .static yX9_isCounty, .initialized RX9, .code yX9_isCounty cX9_isCounty 1 (some .boolean), .methodLink RX9 82 yX9_isWithin, .static yX9_isWithin, .code yX9_isWithin cX9_isWithin 3 (some .boolean)] ++ wsX90 ++ wsX20)
def wsX9_rate : List Cond := .code yX9_rate cX9_rate 2 (some .boolean) :: ([.fieldLink RX9 60 "TributeFleet" "counties" "LTributeFleet$Counties;", .fieldLink RX9 219 "TributeFleet$Counties" "coinsABag" "I", .methodLink RX9 82 yX9_isWithin, .static yX9_isWithin, .initialized RX9, .code yX9_isWithin cX9_isWithin 3 (some .boolean)] ++ wsX90 ++ wsX20)
def wsX9_commute : List Cond := .code yX9_commute cX9_commute 3 (some .int) :: ([.fieldLink RX9 60 "TributeFleet" "counties" "LTributeFleet$Counties;", .methodLink RX9 114 yX9_isCounty, .static yX9_isCounty, .initialized RX9, .code yX9_isCounty cX9_isCounty 1 (some .boolean), .methodLink RX9 82 yX9_isWithin, .static yX9_isWithin, .code yX9_isWithin cX9_isWithin 3 (some .boolean), .methodLink RX9 222 yX2_leftToCommute, .instanceMethod yX2_leftToCommute, .selects RX2 yX2_leftToCommute yX2_leftToCommute, .initialized RX2, .code yX2_leftToCommute cX2_leftToCommute 2 (some .int), .fieldLink RX2 9 "TributeFleet$Counties" "allotted" "[I", .fieldLink RX2 15 "TributeFleet$Counties" "commuted" "[I", .methodLink RX9 225 yX2_payFor, .instanceMethod yX2_payFor, .selects RX2 yX2_payFor yX2_payFor, .code yX2_payFor cX2_payFor 4 (some .int), .fieldLink RX2 21 "TributeFleet$Counties" "coinsABag" "I", .fieldLink RX2 18 "TributeFleet$Counties" "paid" "[I"] ++ wsX90 ++ wsX20)
def wsX9_county_r1 : List Cond := [Cond.constant RX9 228 (-100000), Cond.fieldLink RX9 60 "TributeFleet" "counties" "LTributeFleet$Counties;", Cond.fieldLink RX9 216 "TributeFleet$Counties" "allotted" "[I", Cond.fieldLink RX9 229 "TributeFleet$Counties" "commuted" "[I", Cond.fieldLink RX9 232 "TributeFleet$Counties" "paid" "[I", Cond.fieldLink RX9 30 "TributeFleet" "fleet" "LTributeFleet$Fleet;", Cond.methodLink RX9 114 yX9_isCounty, Cond.static yX9_isCounty, Cond.initialized RX9, Cond.code yX9_isCounty cX9_isCounty 1 (some .boolean), Cond.methodLink RX9 82 yX9_isWithin, Cond.static yX9_isWithin, Cond.code yX9_isWithin cX9_isWithin 3 (some .boolean), Cond.methodLink RX9 235 yX3_bagsComeOf, Cond.instanceMethod yX3_bagsComeOf, Cond.selects RX3 yX3_bagsComeOf yX3_bagsComeOf, Cond.initialized RX3, Cond.code yX3_bagsComeOf cX3_bagsComeOf 5 (some .int), Cond.fieldLink RX3 21 "TributeFleet$Fleet" "size" "I", Cond.fieldLink RX3 44 "TributeFleet$Squadron" "county" "I", Cond.methodLink RX3 33 yX3_find, Cond.instanceMethod yX3_find, Cond.selects RX3 yX3_find yX3_find, Cond.code yX3_find cX3_find 2 (some (.object "TributeFleet$Squadron"))]
def wsX9_county_r2 : List Cond := [Cond.fieldLink RX3 13 "TributeFleet$Fleet" "squadrons" "[LTributeFleet$Squadron;", Cond.static yX9_isPlace, Cond.code yX9_isPlace cX9_isPlace 2 (some .boolean), Cond.methodLink RX3 53 yX6_hasCome, Cond.instanceMethod yX6_hasCome, Cond.selects RX6 yX6_hasCome yX6_hasCome, Cond.initialized RX6, Cond.code yX6_hasCome cX6_hasCome 1 (some .boolean), Cond.fieldLink RX6 34 "TributeFleet$Squadron" "cameOn" "I", Cond.methodLink RX3 56 yX6_bagsLeft, Cond.instanceMethod yX6_bagsLeft, Cond.selects RX6 yX6_bagsLeft yX6_bagsLeft, Cond.code yX6_bagsLeft cX6_bagsLeft 1 (some .int), Cond.fieldLink RX6 18 "TributeFleet$Squadron" "bags" "I", Cond.fieldLink RX6 37 "TributeFleet$Squadron" "lost" "I", Cond.methodLink RX9 222 yX2_leftToCommute, Cond.instanceMethod yX2_leftToCommute, Cond.selects RX2 yX2_leftToCommute yX2_leftToCommute, Cond.initialized RX2, Cond.code yX2_leftToCommute cX2_leftToCommute 2 (some .int), Cond.fieldLink RX2 9 "TributeFleet$Counties" "allotted" "[I", Cond.fieldLink RX2 15 "TributeFleet$Counties" "commuted" "[I"]
def wsX9_county : List Cond := .code yX9_county cX9_county 3 (some .int) :: ((wsX9_county_r1 ++ wsX9_county_r2) ++ wsX90 ++ wsX20 ++ wsX30 ++ wsX60)
def wsX9_due : List Cond := .code yX9_due cX9_due 4 (some .boolean) :: ([.fieldLink RX9 30 "TributeFleet" "fleet" "LTributeFleet$Fleet;", .fieldLink RX9 238 "TributeFleet$Squadron" "dueDay" "I", .methodLink RX9 165 yX3_find, .instanceMethod yX3_find, .selects RX3 yX3_find yX3_find, .initialized RX3, .code yX3_find cX3_find 2 (some (.object "TributeFleet$Squadron")), .fieldLink RX3 21 "TributeFleet$Fleet" "size" "I", .fieldLink RX3 13 "TributeFleet$Fleet" "squadrons" "[LTributeFleet$Squadron;", .static yX9_isPlace, .initialized RX9, .code yX9_isPlace cX9_isPlace 2 (some .boolean), .methodLink RX9 105 yX9_isDay, .static yX9_isDay, .code yX9_isDay cX9_isDay 1 (some .boolean), .methodLink RX9 82 yX9_isWithin, .static yX9_isWithin, .code yX9_isWithin cX9_isWithin 3 (some .boolean)] ++ wsX90 ++ wsX60 ++ wsX30)
def wsJ6_bitCount_0f7a4 : List Cond := .code yJ6_bitCount_0f7a4 cJ6_bitCount_0f7a4 1 (some .int) :: ([.constant RJ6 265 (1431655765), .constant RJ6 266 (858993459), .constant RJ6 267 (252645135)])
def wsX9_daysToPass : List Cond := .code yX9_daysToPass cX9_daysToPass 2 (some .int) :: ([])
def wsX9_least_r1 : List Cond := [Cond.fieldLink RX9 30 "TributeFleet" "fleet" "LTributeFleet$Fleet;", Cond.fieldLink RX9 23 "TributeFleet" "canal" "LTributeFleet$Canal;", Cond.fieldLink RX9 67 "TributeFleet" "schedule" "LTributeFleet$Schedule;", Cond.fieldLink RX9 252 "TributeFleet$Fleet" "size" "I", Cond.fieldLink RX9 253 "TributeFleet$Squadron" "boats" "I", Cond.fieldLink RX9 93 "TributeFleet$Canal" "lockBoats" "[I", Cond.fieldLink RX9 238 "TributeFleet$Squadron" "dueDay" "I", Cond.fieldLink RX9 71 "TributeFleet" "today" "I", Cond.methodLink RX9 241 yX3_hasAll, Cond.instanceMethod yX3_hasAll, Cond.selects RX3 yX3_hasAll yX3_hasAll, Cond.initialized RX3, Cond.code yX3_hasAll cX3_hasAll 2 (some .boolean), Cond.fieldLink RX3 21 "TributeFleet$Fleet" "size" "I", Cond.methodLink RX9 244 yJ6_bitCount_0f7a4, Cond.static yJ6_bitCount_0f7a4, Cond.initialized RJ6, Cond.code yJ6_bitCount_0f7a4 cJ6_bitCount_0f7a4 1 (some .int), Cond.constant RJ6 265 (1431655765), Cond.constant RJ6 266 (858993459), Cond.constant RJ6 267 (252645135), Cond.methodLink RX9 90 yX0_hasLock, Cond.instanceMethod yX0_hasLock, Cond.selects RX0 yX0_hasLock yX0_hasLock]
def wsX9_least_r2 : List Cond := [Cond.initialized RX0, Cond.code yX0_hasLock cX0_hasLock 2 (some .boolean), Cond.fieldLink RX0 9 "TributeFleet$Canal" "reaches" "I", Cond.static yX9_isPlace, Cond.initialized RX9, Cond.code yX9_isPlace cX9_isPlace 2 (some .boolean), Cond.methodLink RX9 249 yX5_clear, Cond.instanceMethod yX5_clear, Cond.selects RX5 yX5_clear yX5_clear, Cond.initialized RX5, Cond.code yX5_clear cX5_clear 1 none, Cond.fieldLink RX5 24 "TributeFleet$Schedule" "size" "I", Cond.methodLink RX9 165 yX3_find, Cond.instanceMethod yX3_find, Cond.selects RX3 yX3_find yX3_find, Cond.code yX3_find cX3_find 2 (some (.object "TributeFleet$Squadron")), Cond.fieldLink RX3 13 "TributeFleet$Fleet" "squadrons" "[LTributeFleet$Squadron;", Cond.methodLink RX9 256 yX9_daysToPass, Cond.static yX9_daysToPass, Cond.code yX9_daysToPass cX9_daysToPass 2 (some .int), Cond.methodLink RX9 259 yX5_add, Cond.instanceMethod yX5_add, Cond.selects RX5 yX5_add yX5_add, Cond.code yX5_add cX5_add 4 none]
def wsX9_least_r3 : List Cond := [Cond.fieldLink RX5 11 "TributeFleet$Schedule" "numbers" "[I", Cond.fieldLink RX5 15 "TributeFleet$Schedule" "takes" "[I", Cond.fieldLink RX5 18 "TributeFleet$Schedule" "dueDays" "[I", Cond.methodLink RX9 261 yX5_weigh, Cond.instanceMethod yX5_weigh, Cond.selects RX5 yX5_weigh yX5_weigh, Cond.code yX5_weigh cX5_weigh 5 none, Cond.fieldLink RX5 28 "TributeFleet$Schedule" "firstDay" "I", Cond.fieldLink RX5 21 "TributeFleet$Schedule" "rest" "[I", Cond.methodLink RX5 31 yX5_bestNext, Cond.instanceMethod yX5_bestNext, Cond.selects RX5 yX5_bestNext yX5_bestNext, Cond.code yX5_bestNext cX5_bestNext 5 (some .int), Cond.methodLink RX5 35 yX5_restWith, Cond.instanceMethod yX5_restWith, Cond.selects RX5 yX5_restWith yX5_restWith, Cond.code yX5_restWith cX5_restWith 4 (some .int), Cond.methodLink RX5 46 Lib.Math.max.name, Cond.static Lib.Math.max.name, Cond.initialized "java/lang/Math", Cond.code Lib.Math.max.name Lib.Math.max.code 2 (some .int), Cond.methodLink RX5 43 yX5_endOf, Cond.instanceMethod yX5_endOf, Cond.selects RX5 yX5_endOf yX5_endOf]
def wsX9_least_r4 : List Cond := [Cond.code yX5_endOf cX5_endOf 4 (some .int), Cond.methodLink RX9 264 yX5_leastSum, Cond.instanceMethod yX5_leastSum, Cond.selects RX5 yX5_leastSum yX5_leastSum, Cond.code yX5_leastSum cX5_leastSum 1 (some .int), Cond.methodLink RX9 267 yX5_inPlace, Cond.instanceMethod yX5_inPlace, Cond.selects RX5 yX5_inPlace yX5_inPlace, Cond.code yX5_inPlace cX5_inPlace 5 (some .int)]
def wsX9_least : List Cond := .code yX9_least cX9_least 6 (some .int) :: ((wsX9_least_r1 ++ (wsX9_least_r2 ++ (wsX9_least_r3 ++ wsX9_least_r4))) ++ wsX90 ++ wsX30 ++ wsX60 ++ wsX00 ++ wsX50)
def wsX9_count_r1 : List Cond := [Cond.fieldLink RX9 71 "TributeFleet" "today" "I", Cond.fieldLink RX9 30 "TributeFleet" "fleet" "LTributeFleet$Fleet;", Cond.fieldLink RX9 252 "TributeFleet$Fleet" "size" "I", Cond.fieldLink RX9 23 "TributeFleet" "canal" "LTributeFleet$Canal;", Cond.fieldLink RX9 270 "TributeFleet$Canal" "lakes" "I", Cond.fieldLink RX9 53 "TributeFleet" "code" "LTributeFleet$Code;", Cond.fieldLink RX9 145 "TributeFleet$Code" "size" "I", Cond.fieldLink RX9 37 "TributeFleet" "tape" "LTributeFleet$Tape;", Cond.fieldLink RX9 139 "TributeFleet$Tape" "size" "I", Cond.fieldLink RX9 123 "TributeFleet$Canal" "reaches" "I", Cond.methodLink RX9 273 yX3_come, Cond.instanceMethod yX3_come, Cond.selects RX3 yX3_come yX3_come, Cond.initialized RX3, Cond.code yX3_come cX3_come 4 (some .int), Cond.fieldLink RX3 21 "TributeFleet$Fleet" "size" "I", Cond.methodLink RX3 33 yX3_find, Cond.instanceMethod yX3_find, Cond.selects RX3 yX3_find yX3_find, Cond.code yX3_find cX3_find 2 (some (.object "TributeFleet$Squadron")), Cond.fieldLink RX3 13 "TributeFleet$Fleet" "squadrons" "[LTributeFleet$Squadron;", Cond.static yX9_isPlace, Cond.initialized RX9, Cond.code yX9_isPlace cX9_isPlace 2 (some .boolean)]
def wsX9_count_r2 : List Cond := [Cond.methodLink RX3 53 yX6_hasCome, Cond.instanceMethod yX6_hasCome, Cond.selects RX6 yX6_hasCome yX6_hasCome, Cond.initialized RX6, Cond.code yX6_hasCome cX6_hasCome 1 (some .boolean), Cond.fieldLink RX6 34 "TributeFleet$Squadron" "cameOn" "I"]
def wsX9_count : List Cond := .code yX9_count cX9_count 2 (some .int) :: ((wsX9_count_r1 ++ wsX9_count_r2) ++ wsX90 ++ wsX30 ++ wsX00 ++ wsX10 ++ wsX80 ++ wsX60)
def wsX10_init_r1 : List Cond := [Cond.methodLink RX10 1 objectInit, Cond.instanceMethod objectInit, Cond.code objectInit ⟨#[0xb1]⟩ 1 none, Cond.arrayClass .int, Cond.fieldLink RX10 7 "TributeFleetModel" "water" "[I", Cond.fieldLink RX10 13 "TributeFleetModel" "boatsADay" "[I", Cond.fieldLink RX10 16 "TributeFleetModel" "iceDay" "I", Cond.fieldLink RX10 20 "TributeFleetModel" "lakeReach" "[I", Cond.fieldLink RX10 23 "TributeFleetModel" "store" "[I", Cond.fieldLink RX10 26 "TributeFleetModel" "gives" "[I", Cond.fieldLink RX10 29 "TributeFleetModel" "county" "[I", Cond.fieldLink RX10 32 "TributeFleetModel" "boats" "[I", Cond.fieldLink RX10 35 "TributeFleetModel" "loaded" "[I", Cond.fieldLink RX10 38 "TributeFleetModel" "lost" "[I", Cond.fieldLink RX10 41 "TributeFleetModel" "goods" "[I", Cond.fieldLink RX10 44 "TributeFleetModel" "at" "[I", Cond.fieldLink RX10 47 "TributeFleetModel" "came" "[I", Cond.fieldLink RX10 50 "TributeFleetModel" "why" "[I", Cond.fieldLink RX10 53 "TributeFleetModel" "due" "[I", Cond.arrayClass .boolean, Cond.fieldLink RX10 56 "TributeFleetModel" "hasLeave" "[Z", Cond.fieldLink RX10 60 "TributeFleetModel" "days" "[I", Cond.fieldLink RX10 63 "TributeFleetModel" "causes" "[I", Cond.fieldLink RX10 66 "TributeFleetModel" "allotment" "[I"]
def wsX10_init_r2 : List Cond := [Cond.fieldLink RX10 69 "TributeFleetModel" "commuted" "[I", Cond.fieldLink RX10 72 "TributeFleetModel" "paid" "[I", Cond.arrayClass .byte, Cond.fieldLink RX10 75 "TributeFleetModel" "tape" "[B", Cond.fieldLink RX10 79 "TributeFleetModel" "text" "[B", Cond.fieldLink RX10 82 "TributeFleetModel" "fault" "I", Cond.fieldLink RX10 85 "TributeFleetModel" "statements" "[I", Cond.fieldLink RX10 88 "TributeFleetModel" "taken" "[I", Cond.fieldLink RX10 91 "TributeFleetModel" "sort" "[I", Cond.fieldLink RX10 94 "TributeFleetModel" "first" "[I", Cond.fieldLink RX10 97 "TributeFleetModel" "second" "[I", Cond.fieldLink RX10 100 "TributeFleetModel" "hasGone" "[Z", Cond.fieldLink RX10 103 "TributeFleetModel" "few" "[I", Cond.fieldLink RX10 106 "TributeFleetModel" "row" "[I", Cond.fieldLink RX10 109 "TributeFleetModel" "bestRow" "[I", Cond.methodLink RX10 112 Lib.Math.min.name, Cond.static Lib.Math.min.name, Cond.initialized "java/lang/Math", Cond.code Lib.Math.min.name Lib.Math.min.code 2 (some .int), Cond.methodLink RX10 118 Lib.Math.max.name, Cond.static Lib.Math.max.name, Cond.code Lib.Math.max.name Lib.Math.max.code 2 (some .int), Cond.fieldLink RX10 121 "TributeFleetModel" "reaches" "I"]
def wsX10_init : List Cond := .code yX10_init cX10_init 3 none :: ((wsX10_init_r1 ++ wsX10_init_r2) ++ wsX100)
def wsX10_isIn : List Cond := .code yX10_isIn cX10_isIn 3 (some .boolean) :: ([])
def wsX10_one : List Cond := .code yX10_one cX10_one 1 (some .int) :: ([])
def wsX10_isReach : List Cond := .code yX10_isReach cX10_isReach 2 (some .boolean) :: ([.fieldLink RX10 121 "TributeFleetModel" "reaches" "I", .methodLink RX10 124 yX10_isIn, .static yX10_isIn, .initialized RX10, .code yX10_isIn cX10_isIn 3 (some .boolean)] ++ wsX100)
def wsX10_isLock : List Cond := .code yX10_isLock cX10_isLock 2 (some .boolean) :: ([.fieldLink RX10 121 "TributeFleetModel" "reaches" "I", .methodLink RX10 124 yX10_isIn, .static yX10_isIn, .initialized RX10, .code yX10_isIn cX10_isIn 3 (some .boolean)] ++ wsX100)
def wsX10_isSquadron : List Cond := .code yX10_isSquadron cX10_isSquadron 2 (some .boolean) :: ([.fieldLink RX10 128 "TributeFleetModel" "squadrons" "I", .methodLink RX10 124 yX10_isIn, .static yX10_isIn, .initialized RX10, .code yX10_isIn cX10_isIn 3 (some .boolean)] ++ wsX100)
def wsX10_isCounty : List Cond := .code yX10_isCounty cX10_isCounty 1 (some .boolean) :: ([.methodLink RX10 124 yX10_isIn, .static yX10_isIn, .initialized RX10, .code yX10_isIn cX10_isIn 3 (some .boolean)])
def wsX10_water : List Cond := .code yX10_water cX10_water 3 (some .boolean) :: ([.fieldLink RX10 7 "TributeFleetModel" "water" "[I", .methodLink RX10 131 yX10_isReach, .instanceMethod yX10_isReach, .selects RX10 yX10_isReach yX10_isReach, .initialized RX10, .code yX10_isReach cX10_isReach 2 (some .boolean), .fieldLink RX10 121 "TributeFleetModel" "reaches" "I", .methodLink RX10 124 yX10_isIn, .static yX10_isIn, .code yX10_isIn cX10_isIn 3 (some .boolean)] ++ wsX100)
def wsX10_lock : List Cond := .code yX10_lock cX10_lock 3 (some .boolean) :: ([.fieldLink RX10 13 "TributeFleetModel" "boatsADay" "[I", .methodLink RX10 135 yX10_isLock, .instanceMethod yX10_isLock, .selects RX10 yX10_isLock yX10_isLock, .initialized RX10, .code yX10_isLock cX10_isLock 2 (some .boolean), .fieldLink RX10 121 "TributeFleetModel" "reaches" "I", .methodLink RX10 124 yX10_isIn, .static yX10_isIn, .code yX10_isIn cX10_isIn 3 (some .boolean)] ++ wsX100)
def wsX10_lake : List Cond := .code yX10_lake cX10_lake 3 (some .int) :: ([.fieldLink RX10 138 "TributeFleetModel" "lakes" "I", .fieldLink RX10 20 "TributeFleetModel" "lakeReach" "[I", .fieldLink RX10 23 "TributeFleetModel" "store" "[I", .methodLink RX10 131 yX10_isReach, .instanceMethod yX10_isReach, .selects RX10 yX10_isReach yX10_isReach, .initialized RX10, .code yX10_isReach cX10_isReach 2 (some .boolean), .fieldLink RX10 121 "TributeFleetModel" "reaches" "I", .methodLink RX10 124 yX10_isIn, .static yX10_isIn, .code yX10_isIn cX10_isIn 3 (some .boolean)] ++ wsX100)
def wsX10_give : List Cond := .code yX10_give cX10_give 3 (some .boolean) :: ([.fieldLink RX10 138 "TributeFleetModel" "lakes" "I", .fieldLink RX10 26 "TributeFleetModel" "gives" "[I", .methodLink RX10 124 yX10_isIn, .static yX10_isIn, .initialized RX10, .code yX10_isIn cX10_isIn 3 (some .boolean)] ++ wsX100)
def wsX10_ice : List Cond := .code yX10_ice cX10_ice 3 (some .boolean) :: ([.fieldLink RX10 16 "TributeFleetModel" "iceDay" "I", .fieldLink RX10 141 "TributeFleetModel" "iceReach" "I", .methodLink RX10 124 yX10_isIn, .static yX10_isIn, .initialized RX10, .code yX10_isIn cX10_isIn 3 (some .boolean), .methodLink RX10 131 yX10_isReach, .instanceMethod yX10_isReach, .selects RX10 yX10_isReach yX10_isReach, .code yX10_isReach cX10_isReach 2 (some .boolean), .fieldLink RX10 121 "TributeFleetModel" "reaches" "I"] ++ wsX100)
def wsX10_hasIce : List Cond := .code yX10_hasIce cX10_hasIce 2 (some .boolean) :: ([.fieldLink RX10 144 "TributeFleetModel" "today" "I", .fieldLink RX10 16 "TributeFleetModel" "iceDay" "I", .fieldLink RX10 141 "TributeFleetModel" "iceReach" "I"] ++ wsX100)
def wsX10_squadron : List Cond := .code yX10_squadron cX10_squadron 6 (some .int) :: ([.fieldLink RX10 128 "TributeFleetModel" "squadrons" "I", .fieldLink RX10 29 "TributeFleetModel" "county" "[I", .fieldLink RX10 32 "TributeFleetModel" "boats" "[I", .fieldLink RX10 35 "TributeFleetModel" "loaded" "[I", .fieldLink RX10 41 "TributeFleetModel" "goods" "[I", .fieldLink RX10 47 "TributeFleetModel" "came" "[I", .fieldLink RX10 53 "TributeFleetModel" "due" "[I", .methodLink RX10 147 yX10_isCounty, .static yX10_isCounty, .initialized RX10, .code yX10_isCounty cX10_isCounty 1 (some .boolean), .methodLink RX10 124 yX10_isIn, .static yX10_isIn, .code yX10_isIn cX10_isIn 3 (some .boolean)] ++ wsX100)
def wsX10_four : List Cond := .code yX10_four cX10_four 3 none :: ([.fieldLink RX10 75 "TributeFleetModel" "tape" "[B", .fieldLink RX10 150 "TributeFleetModel" "taped" "I"] ++ wsX100)
def wsX10_feed : List Cond := .code yX10_feed cX10_feed 6 (some .int) :: ([.fieldLink RX10 150 "TributeFleetModel" "taped" "I", .methodLink RX10 153 yX10_four, .instanceMethod yX10_four, .selects RX10 yX10_four yX10_four, .initialized RX10, .code yX10_four cX10_four 3 none, .fieldLink RX10 75 "TributeFleetModel" "tape" "[B"] ++ wsX100)
def wsX10_blanks : List Cond := .code yX10_blanks cX10_blanks 1 none :: ([.fieldLink RX10 157 "TributeFleetModel" "place" "I", .fieldLink RX10 160 "TributeFleetModel" "size" "I", .fieldLink RX10 79 "TributeFleetModel" "text" "[B"] ++ wsX100)
def wsX10_word : List Cond := .code yX10_word cX10_word 3 (some .long) :: ([.fieldLink RX10 157 "TributeFleetModel" "place" "I", .fieldLink RX10 166 "TributeFleetModel" "wordEnd" "I", .fieldLink RX10 160 "TributeFleetModel" "size" "I", .fieldLink RX10 79 "TributeFleetModel" "text" "[B", .methodLink RX10 163 yX10_blanks, .instanceMethod yX10_blanks, .selects RX10 yX10_blanks yX10_blanks, .initialized RX10, .code yX10_blanks cX10_blanks 1 none] ++ wsX100)
def wsX10_takes : List Cond := .code yX10_takes cX10_takes 3 (some .boolean) :: ([.fieldLink RX10 166 "TributeFleetModel" "wordEnd" "I", .fieldLink RX10 157 "TributeFleetModel" "place" "I", .methodLink RX10 169 yX10_word, .instanceMethod yX10_word, .selects RX10 yX10_word yX10_word, .initialized RX10, .code yX10_word cX10_word 3 (some .long), .fieldLink RX10 160 "TributeFleetModel" "size" "I", .fieldLink RX10 79 "TributeFleetModel" "text" "[B", .methodLink RX10 163 yX10_blanks, .instanceMethod yX10_blanks, .selects RX10 yX10_blanks yX10_blanks, .code yX10_blanks cX10_blanks 1 none] ++ wsX100)
def wsX10_takesNumber : List Cond := .code yX10_takesNumber cX10_takesNumber 2 (some .boolean) :: ([.fieldLink RX10 157 "TributeFleetModel" "place" "I", .fieldLink RX10 173 "TributeFleetModel" "number" "I", .fieldLink RX10 160 "TributeFleetModel" "size" "I", .fieldLink RX10 79 "TributeFleetModel" "text" "[B", .methodLink RX10 163 yX10_blanks, .instanceMethod yX10_blanks, .selects RX10 yX10_blanks yX10_blanks, .initialized RX10, .code yX10_blanks cX10_blanks 1 none] ++ wsX100)
def wsX10_statement_r1 : List Cond := [Cond.fieldLink RX10 94 "TributeFleetModel" "first" "[I", Cond.constantLong RX10 176 (478660552050), Cond.fieldLink RX10 91 "TributeFleetModel" "sort" "[I", Cond.fieldLink RX10 97 "TributeFleetModel" "second" "[I", Cond.constantLong RX10 182 (109330362692729), Cond.constantLong RX10 184 (422775452787), Cond.constantLong RX10 186 (1953459300), Cond.constantLong RX10 188 (1684109683), Cond.constantLong RX10 190 (1819243379), Cond.constantLong RX10 192 (31650994674824293), Cond.constantLong RX10 194 (1718185573), Cond.fieldLink RX10 173 "TributeFleetModel" "number" "I", Cond.constantLong RX10 200 (26995), Cond.fieldLink RX10 157 "TributeFleetModel" "place" "I", Cond.fieldLink RX10 160 "TributeFleetModel" "size" "I", Cond.fieldLink RX10 79 "TributeFleetModel" "text" "[B", Cond.methodLink RX10 178 yX10_takes, Cond.instanceMethod yX10_takes, Cond.selects RX10 yX10_takes yX10_takes, Cond.initialized RX10, Cond.code yX10_takes cX10_takes 3 (some .boolean), Cond.fieldLink RX10 166 "TributeFleetModel" "wordEnd" "I", Cond.methodLink RX10 169 yX10_word, Cond.instanceMethod yX10_word]
def wsX10_statement_r2 : List Cond := [Cond.selects RX10 yX10_word yX10_word, Cond.code yX10_word cX10_word 3 (some .long), Cond.methodLink RX10 163 yX10_blanks, Cond.instanceMethod yX10_blanks, Cond.selects RX10 yX10_blanks yX10_blanks, Cond.code yX10_blanks cX10_blanks 1 none, Cond.methodLink RX10 196 yX10_takesNumber, Cond.instanceMethod yX10_takesNumber, Cond.selects RX10 yX10_takesNumber yX10_takesNumber, Cond.code yX10_takesNumber cX10_takesNumber 2 (some .boolean)]
def wsX10_statement : List Cond := .code yX10_statement cX10_statement 2 (some .boolean) :: ((wsX10_statement_r1 ++ wsX10_statement_r2) ++ wsX100)
def wsX10_statute_r1 : List Cond := [Cond.fieldLink RX10 150 "TributeFleetModel" "taped" "I", Cond.fieldLink RX10 202 "TributeFleetModel" "statutes" "I", Cond.fieldLink RX10 79 "TributeFleetModel" "text" "[B", Cond.fieldLink RX10 75 "TributeFleetModel" "tape" "[B", Cond.fieldLink RX10 160 "TributeFleetModel" "size" "I", Cond.fieldLink RX10 157 "TributeFleetModel" "place" "I", Cond.fieldLink RX10 85 "TributeFleetModel" "statements" "[I", Cond.fieldLink RX10 82 "TributeFleetModel" "fault" "I", Cond.fieldLink RX10 88 "TributeFleetModel" "taken" "[I", Cond.fieldLink RX10 144 "TributeFleetModel" "today" "I", Cond.methodLink RX10 124 yX10_isIn, Cond.static yX10_isIn, Cond.initialized RX10, Cond.code yX10_isIn cX10_isIn 3 (some .boolean), Cond.methodLink RX10 163 yX10_blanks, Cond.instanceMethod yX10_blanks, Cond.selects RX10 yX10_blanks yX10_blanks, Cond.code yX10_blanks cX10_blanks 1 none, Cond.methodLink RX10 205 yX10_statement, Cond.instanceMethod yX10_statement, Cond.selects RX10 yX10_statement yX10_statement, Cond.code yX10_statement cX10_statement 2 (some .boolean), Cond.fieldLink RX10 94 "TributeFleetModel" "first" "[I", Cond.constantLong RX10 176 (478660552050)]
def wsX10_statute_r2 : List Cond := [Cond.fieldLink RX10 91 "TributeFleetModel" "sort" "[I", Cond.fieldLink RX10 97 "TributeFleetModel" "second" "[I", Cond.constantLong RX10 182 (109330362692729), Cond.constantLong RX10 184 (422775452787), Cond.constantLong RX10 186 (1953459300), Cond.constantLong RX10 188 (1684109683), Cond.constantLong RX10 190 (1819243379), Cond.constantLong RX10 192 (31650994674824293), Cond.constantLong RX10 194 (1718185573), Cond.fieldLink RX10 173 "TributeFleetModel" "number" "I", Cond.constantLong RX10 200 (26995), Cond.methodLink RX10 178 yX10_takes, Cond.instanceMethod yX10_takes, Cond.selects RX10 yX10_takes yX10_takes, Cond.code yX10_takes cX10_takes 3 (some .boolean), Cond.fieldLink RX10 166 "TributeFleetModel" "wordEnd" "I", Cond.methodLink RX10 169 yX10_word, Cond.instanceMethod yX10_word, Cond.selects RX10 yX10_word yX10_word, Cond.code yX10_word cX10_word 3 (some .long), Cond.methodLink RX10 196 yX10_takesNumber, Cond.instanceMethod yX10_takesNumber, Cond.selects RX10 yX10_takesNumber yX10_takesNumber, Cond.code yX10_takesNumber cX10_takesNumber 2 (some .boolean)]
def wsX10_statute : List Cond := .code yX10_statute cX10_statute 3 (some .int) :: ((wsX10_statute_r1 ++ wsX10_statute_r2) ++ wsX100)
def wsX10_fault : List Cond := .code yX10_fault cX10_fault 1 (some .int) :: ([.fieldLink RX10 82 "TributeFleetModel" "fault" "I"] ++ wsX100)
def wsX10_inForce : List Cond := .code yX10_inForce cX10_inForce 4 (some .int) :: ([.fieldLink RX10 202 "TributeFleetModel" "statutes" "I", .fieldLink RX10 88 "TributeFleetModel" "taken" "[I"] ++ wsX100)
def wsX10_tells : List Cond := .code yX10_tells cX10_tells 8 (some .int) :: ([.fieldLink RX10 85 "TributeFleetModel" "statements" "[I", .fieldLink RX10 91 "TributeFleetModel" "sort" "[I", .fieldLink RX10 94 "TributeFleetModel" "first" "[I", .fieldLink RX10 97 "TributeFleetModel" "second" "[I", .methodLink RX10 208 yX10_inForce, .instanceMethod yX10_inForce, .selects RX10 yX10_inForce yX10_inForce, .initialized RX10, .code yX10_inForce cX10_inForce 4 (some .int), .fieldLink RX10 202 "TributeFleetModel" "statutes" "I", .fieldLink RX10 88 "TributeFleetModel" "taken" "[I"] ++ wsX100)
def wsX10_allowed : List Cond := .code yX10_allowed cX10_allowed 3 (some .int) :: ([.methodLink RX10 212 yX10_tells, .instanceMethod yX10_tells, .selects RX10 yX10_tells yX10_tells, .initialized RX10, .code yX10_tells cX10_tells 8 (some .int), .fieldLink RX10 85 "TributeFleetModel" "statements" "[I", .fieldLink RX10 91 "TributeFleetModel" "sort" "[I", .fieldLink RX10 94 "TributeFleetModel" "first" "[I", .fieldLink RX10 97 "TributeFleetModel" "second" "[I", .methodLink RX10 208 yX10_inForce, .instanceMethod yX10_inForce, .selects RX10 yX10_inForce yX10_inForce, .code yX10_inForce cX10_inForce 4 (some .int), .fieldLink RX10 202 "TributeFleetModel" "statutes" "I", .fieldLink RX10 88 "TributeFleetModel" "taken" "[I"] ++ wsX100)
def wsX10_law_r1 : List Cond := [Cond.methodLink RX10 124 yX10_isIn, Cond.static yX10_isIn, Cond.initialized RX10, Cond.code yX10_isIn cX10_isIn 3 (some .boolean), Cond.methodLink RX10 212 yX10_tells, Cond.instanceMethod yX10_tells, Cond.selects RX10 yX10_tells yX10_tells, Cond.code yX10_tells cX10_tells 8 (some .int), Cond.fieldLink RX10 85 "TributeFleetModel" "statements" "[I", Cond.fieldLink RX10 91 "TributeFleetModel" "sort" "[I", Cond.fieldLink RX10 94 "TributeFleetModel" "first" "[I", Cond.fieldLink RX10 97 "TributeFleetModel" "second" "[I", Cond.methodLink RX10 208 yX10_inForce, Cond.instanceMethod yX10_inForce, Cond.selects RX10 yX10_inForce yX10_inForce, Cond.code yX10_inForce cX10_inForce 4 (some .int), Cond.fieldLink RX10 202 "TributeFleetModel" "statutes" "I", Cond.fieldLink RX10 88 "TributeFleetModel" "taken" "[I", Cond.methodLink RX10 131 yX10_isReach, Cond.instanceMethod yX10_isReach, Cond.selects RX10 yX10_isReach yX10_isReach, Cond.code yX10_isReach cX10_isReach 2 (some .boolean), Cond.fieldLink RX10 121 "TributeFleetModel" "reaches" "I", Cond.methodLink RX10 216 yX10_allowed]
def wsX10_law_r2 : List Cond := [Cond.instanceMethod yX10_allowed, Cond.selects RX10 yX10_allowed yX10_allowed, Cond.code yX10_allowed cX10_allowed 3 (some .int)]
def wsX10_law : List Cond := .code yX10_law cX10_law 3 (some .int) :: ((wsX10_law_r1 ++ wsX10_law_r2) ++ wsX100)
def wsX10_leave : List Cond := .code yX10_leave cX10_leave 3 (some .boolean) :: ([.fieldLink RX10 56 "TributeFleetModel" "hasLeave" "[Z", .methodLink RX10 219 yX10_isSquadron, .instanceMethod yX10_isSquadron, .selects RX10 yX10_isSquadron yX10_isSquadron, .initialized RX10, .code yX10_isSquadron cX10_isSquadron 2 (some .boolean), .fieldLink RX10 128 "TributeFleetModel" "squadrons" "I", .methodLink RX10 124 yX10_isIn, .static yX10_isIn, .code yX10_isIn cX10_isIn 3 (some .boolean)] ++ wsX100)
def wsX10_lose : List Cond := .code yX10_lose cX10_lose 3 (some .int) :: ([.fieldLink RX10 47 "TributeFleetModel" "came" "[I", .fieldLink RX10 35 "TributeFleetModel" "loaded" "[I", .fieldLink RX10 38 "TributeFleetModel" "lost" "[I", .methodLink RX10 219 yX10_isSquadron, .instanceMethod yX10_isSquadron, .selects RX10 yX10_isSquadron yX10_isSquadron, .initialized RX10, .code yX10_isSquadron cX10_isSquadron 2 (some .boolean), .fieldLink RX10 128 "TributeFleetModel" "squadrons" "I", .methodLink RX10 124 yX10_isIn, .static yX10_isIn, .code yX10_isIn cX10_isIn 3 (some .boolean)] ++ wsX100)
def wsX10_isAhead : List Cond := .code yX10_isAhead cX10_isAhead 5 (some .boolean) :: ([.fieldLink RX10 29 "TributeFleetModel" "county" "[I", .fieldLink RX10 32 "TributeFleetModel" "boats" "[I"] ++ wsX100)
def wsX10_next : List Cond := .code yX10_next cX10_next 4 (some .int) :: ([.fieldLink RX10 128 "TributeFleetModel" "squadrons" "I", .fieldLink RX10 100 "TributeFleetModel" "hasGone" "[Z", .methodLink RX10 231 yX10_isAhead, .instanceMethod yX10_isAhead, .selects RX10 yX10_isAhead yX10_isAhead, .initialized RX10, .code yX10_isAhead cX10_isAhead 5 (some .boolean), .fieldLink RX10 29 "TributeFleetModel" "county" "[I", .fieldLink RX10 32 "TributeFleetModel" "boats" "[I"] ++ wsX100)
def wsX10_opens_r1 : List Cond := [Cond.fieldLink RX10 13 "TributeFleetModel" "boatsADay" "[I", Cond.fieldLink RX10 144 "TributeFleetModel" "today" "I", Cond.fieldLink RX10 128 "TributeFleetModel" "squadrons" "I", Cond.fieldLink RX10 100 "TributeFleetModel" "hasGone" "[Z", Cond.fieldLink RX10 44 "TributeFleetModel" "at" "[I", Cond.fieldLink RX10 50 "TributeFleetModel" "why" "[I", Cond.fieldLink RX10 7 "TributeFleetModel" "water" "[I", Cond.fieldLink RX10 32 "TributeFleetModel" "boats" "[I", Cond.fieldLink RX10 56 "TributeFleetModel" "hasLeave" "[Z", Cond.fieldLink RX10 63 "TributeFleetModel" "causes" "[I", Cond.methodLink RX10 112 Lib.Math.min.name, Cond.static Lib.Math.min.name, Cond.initialized "java/lang/Math", Cond.code Lib.Math.min.name Lib.Math.min.code 2 (some .int), Cond.fieldLink RX10 121 "TributeFleetModel" "reaches" "I", Cond.fieldLink RX10 47 "TributeFleetModel" "came" "[I", Cond.methodLink RX10 212 yX10_tells, Cond.instanceMethod yX10_tells, Cond.selects RX10 yX10_tells yX10_tells, Cond.initialized RX10, Cond.code yX10_tells cX10_tells 8 (some .int), Cond.fieldLink RX10 85 "TributeFleetModel" "statements" "[I", Cond.fieldLink RX10 91 "TributeFleetModel" "sort" "[I", Cond.fieldLink RX10 94 "TributeFleetModel" "first" "[I"]
def wsX10_opens_r2 : List Cond := [Cond.fieldLink RX10 97 "TributeFleetModel" "second" "[I", Cond.methodLink RX10 208 yX10_inForce, Cond.instanceMethod yX10_inForce, Cond.selects RX10 yX10_inForce yX10_inForce, Cond.code yX10_inForce cX10_inForce 4 (some .int), Cond.fieldLink RX10 202 "TributeFleetModel" "statutes" "I", Cond.fieldLink RX10 88 "TributeFleetModel" "taken" "[I", Cond.methodLink RX10 225 yX10_next, Cond.instanceMethod yX10_next, Cond.selects RX10 yX10_next yX10_next, Cond.code yX10_next cX10_next 4 (some .int), Cond.methodLink RX10 231 yX10_isAhead, Cond.instanceMethod yX10_isAhead, Cond.selects RX10 yX10_isAhead yX10_isAhead, Cond.code yX10_isAhead cX10_isAhead 5 (some .boolean), Cond.fieldLink RX10 29 "TributeFleetModel" "county" "[I", Cond.methodLink RX10 228 yX10_hasIce, Cond.instanceMethod yX10_hasIce, Cond.selects RX10 yX10_hasIce yX10_hasIce, Cond.code yX10_hasIce cX10_hasIce 2 (some .boolean), Cond.fieldLink RX10 16 "TributeFleetModel" "iceDay" "I", Cond.fieldLink RX10 141 "TributeFleetModel" "iceReach" "I"]
def wsX10_opens : List Cond := .code yX10_opens cX10_opens 6 none :: ((wsX10_opens_r1 ++ wsX10_opens_r2) ++ wsX100)
def wsX10_day_r1 : List Cond := [Cond.fieldLink RX10 144 "TributeFleetModel" "today" "I", Cond.fieldLink RX10 138 "TributeFleetModel" "lakes" "I", Cond.fieldLink RX10 26 "TributeFleetModel" "gives" "[I", Cond.fieldLink RX10 23 "TributeFleetModel" "store" "[I", Cond.methodLink RX10 112 Lib.Math.min.name, Cond.static Lib.Math.min.name, Cond.initialized "java/lang/Math", Cond.code Lib.Math.min.name Lib.Math.min.code 2 (some .int), Cond.fieldLink RX10 7 "TributeFleetModel" "water" "[I", Cond.fieldLink RX10 20 "TributeFleetModel" "lakeReach" "[I", Cond.fieldLink RX10 128 "TributeFleetModel" "squadrons" "I", Cond.fieldLink RX10 50 "TributeFleetModel" "why" "[I", Cond.fieldLink RX10 44 "TributeFleetModel" "at" "[I", Cond.fieldLink RX10 121 "TributeFleetModel" "reaches" "I", Cond.fieldLink RX10 60 "TributeFleetModel" "days" "[I", Cond.methodLink RX10 222 yX10_opens, Cond.instanceMethod yX10_opens, Cond.selects RX10 yX10_opens yX10_opens, Cond.initialized RX10, Cond.code yX10_opens cX10_opens 6 none, Cond.fieldLink RX10 13 "TributeFleetModel" "boatsADay" "[I", Cond.fieldLink RX10 100 "TributeFleetModel" "hasGone" "[Z", Cond.fieldLink RX10 32 "TributeFleetModel" "boats" "[I", Cond.fieldLink RX10 56 "TributeFleetModel" "hasLeave" "[Z"]
def wsX10_day_r2 : List Cond := [Cond.fieldLink RX10 63 "TributeFleetModel" "causes" "[I", Cond.fieldLink RX10 47 "TributeFleetModel" "came" "[I", Cond.methodLink RX10 212 yX10_tells, Cond.instanceMethod yX10_tells, Cond.selects RX10 yX10_tells yX10_tells, Cond.code yX10_tells cX10_tells 8 (some .int), Cond.fieldLink RX10 85 "TributeFleetModel" "statements" "[I", Cond.fieldLink RX10 91 "TributeFleetModel" "sort" "[I", Cond.fieldLink RX10 94 "TributeFleetModel" "first" "[I", Cond.fieldLink RX10 97 "TributeFleetModel" "second" "[I", Cond.methodLink RX10 208 yX10_inForce, Cond.instanceMethod yX10_inForce, Cond.selects RX10 yX10_inForce yX10_inForce, Cond.code yX10_inForce cX10_inForce 4 (some .int), Cond.fieldLink RX10 202 "TributeFleetModel" "statutes" "I", Cond.fieldLink RX10 88 "TributeFleetModel" "taken" "[I", Cond.methodLink RX10 225 yX10_next, Cond.instanceMethod yX10_next, Cond.selects RX10 yX10_next yX10_next, Cond.code yX10_next cX10_next 4 (some .int), Cond.methodLink RX10 231 yX10_isAhead, Cond.instanceMethod yX10_isAhead, Cond.selects RX10 yX10_isAhead yX10_isAhead, Cond.code yX10_isAhead cX10_isAhead 5 (some .boolean)]
def wsX10_day_r3 : List Cond := [Cond.fieldLink RX10 29 "TributeFleetModel" "county" "[I", Cond.methodLink RX10 228 yX10_hasIce, Cond.instanceMethod yX10_hasIce, Cond.selects RX10 yX10_hasIce yX10_hasIce, Cond.code yX10_hasIce cX10_hasIce 2 (some .boolean), Cond.fieldLink RX10 16 "TributeFleetModel" "iceDay" "I", Cond.fieldLink RX10 141 "TributeFleetModel" "iceReach" "I"]
def wsX10_day : List Cond := .code yX10_day cX10_day 3 (some .int) :: ((wsX10_day_r1 ++ (wsX10_day_r2 ++ wsX10_day_r3)) ++ wsX100)
def wsX10_told_r1 : List Cond := [Cond.fieldLink RX10 60 "TributeFleetModel" "days" "[I", Cond.fieldLink RX10 63 "TributeFleetModel" "causes" "[I", Cond.fieldLink RX10 44 "TributeFleetModel" "at" "[I", Cond.fieldLink RX10 47 "TributeFleetModel" "came" "[I", Cond.fieldLink RX10 35 "TributeFleetModel" "loaded" "[I", Cond.fieldLink RX10 38 "TributeFleetModel" "lost" "[I", Cond.fieldLink RX10 50 "TributeFleetModel" "why" "[I", Cond.fieldLink RX10 56 "TributeFleetModel" "hasLeave" "[Z", Cond.methodLink RX10 219 yX10_isSquadron, Cond.instanceMethod yX10_isSquadron, Cond.selects RX10 yX10_isSquadron yX10_isSquadron, Cond.initialized RX10, Cond.code yX10_isSquadron cX10_isSquadron 2 (some .boolean), Cond.fieldLink RX10 128 "TributeFleetModel" "squadrons" "I", Cond.methodLink RX10 124 yX10_isIn, Cond.static yX10_isIn, Cond.code yX10_isIn cX10_isIn 3 (some .boolean), Cond.methodLink RX10 131 yX10_isReach, Cond.instanceMethod yX10_isReach, Cond.selects RX10 yX10_isReach yX10_isReach, Cond.code yX10_isReach cX10_isReach 2 (some .boolean), Cond.fieldLink RX10 121 "TributeFleetModel" "reaches" "I", Cond.methodLink RX10 234 yX10_one, Cond.static yX10_one]
def wsX10_told_r2 : List Cond := [Cond.code yX10_one cX10_one 1 (some .int)]
def wsX10_told : List Cond := .code yX10_told cX10_told 3 (some .int) :: ((wsX10_told_r1 ++ wsX10_told_r2) ++ wsX100)
def wsX10_judge_r1 : List Cond := [Cond.fieldLink RX10 47 "TributeFleetModel" "came" "[I", Cond.fieldLink RX10 121 "TributeFleetModel" "reaches" "I", Cond.fieldLink RX10 60 "TributeFleetModel" "days" "[I", Cond.methodLink RX10 118 Lib.Math.max.name, Cond.static Lib.Math.max.name, Cond.initialized "java/lang/Math", Cond.code Lib.Math.max.name Lib.Math.max.code 2 (some .int), Cond.fieldLink RX10 38 "TributeFleetModel" "lost" "[I", Cond.fieldLink RX10 35 "TributeFleetModel" "loaded" "[I", Cond.fieldLink RX10 41 "TributeFleetModel" "goods" "[I", Cond.fieldLink RX10 32 "TributeFleetModel" "boats" "[I", Cond.methodLink RX10 219 yX10_isSquadron, Cond.instanceMethod yX10_isSquadron, Cond.selects RX10 yX10_isSquadron yX10_isSquadron, Cond.initialized RX10, Cond.code yX10_isSquadron cX10_isSquadron 2 (some .boolean), Cond.fieldLink RX10 128 "TributeFleetModel" "squadrons" "I", Cond.methodLink RX10 124 yX10_isIn, Cond.static yX10_isIn, Cond.code yX10_isIn cX10_isIn 3 (some .boolean), Cond.methodLink RX10 216 yX10_allowed, Cond.instanceMethod yX10_allowed, Cond.selects RX10 yX10_allowed yX10_allowed, Cond.code yX10_allowed cX10_allowed 3 (some .int)]
def wsX10_judge_r2 : List Cond := [Cond.methodLink RX10 212 yX10_tells, Cond.instanceMethod yX10_tells, Cond.selects RX10 yX10_tells yX10_tells, Cond.code yX10_tells cX10_tells 8 (some .int), Cond.fieldLink RX10 85 "TributeFleetModel" "statements" "[I", Cond.fieldLink RX10 91 "TributeFleetModel" "sort" "[I", Cond.fieldLink RX10 94 "TributeFleetModel" "first" "[I", Cond.fieldLink RX10 97 "TributeFleetModel" "second" "[I", Cond.methodLink RX10 208 yX10_inForce, Cond.instanceMethod yX10_inForce, Cond.selects RX10 yX10_inForce yX10_inForce, Cond.code yX10_inForce cX10_inForce 4 (some .int), Cond.fieldLink RX10 202 "TributeFleetModel" "statutes" "I", Cond.fieldLink RX10 88 "TributeFleetModel" "taken" "[I", Cond.methodLink RX10 238 yX10_law, Cond.instanceMethod yX10_law, Cond.selects RX10 yX10_law yX10_law, Cond.code yX10_law cX10_law 3 (some .int), Cond.methodLink RX10 131 yX10_isReach, Cond.instanceMethod yX10_isReach, Cond.selects RX10 yX10_isReach yX10_isReach, Cond.code yX10_isReach cX10_isReach 2 (some .boolean)]
def wsX10_judge : List Cond := .code yX10_judge cX10_judge 7 (some .int) :: ((wsX10_judge_r1 ++ wsX10_judge_r2) ++ wsX100)
def wsX10_reach_r1 : List Cond := [Cond.fieldLink RX10 128 "TributeFleetModel" "squadrons" "I", Cond.fieldLink RX10 44 "TributeFleetModel" "at" "[I", Cond.fieldLink RX10 32 "TributeFleetModel" "boats" "[I", Cond.fieldLink RX10 7 "TributeFleetModel" "water" "[I", Cond.fieldLink RX10 13 "TributeFleetModel" "boatsADay" "[I", Cond.methodLink RX10 131 yX10_isReach, Cond.instanceMethod yX10_isReach, Cond.selects RX10 yX10_isReach yX10_isReach, Cond.initialized RX10, Cond.code yX10_isReach cX10_isReach 2 (some .boolean), Cond.fieldLink RX10 121 "TributeFleetModel" "reaches" "I", Cond.methodLink RX10 124 yX10_isIn, Cond.static yX10_isIn, Cond.code yX10_isIn cX10_isIn 3 (some .boolean), Cond.methodLink RX10 228 yX10_hasIce, Cond.instanceMethod yX10_hasIce, Cond.selects RX10 yX10_hasIce yX10_hasIce, Cond.code yX10_hasIce cX10_hasIce 2 (some .boolean), Cond.fieldLink RX10 144 "TributeFleetModel" "today" "I", Cond.fieldLink RX10 16 "TributeFleetModel" "iceDay" "I", Cond.fieldLink RX10 141 "TributeFleetModel" "iceReach" "I", Cond.methodLink RX10 234 yX10_one, Cond.static yX10_one, Cond.code yX10_one cX10_one 1 (some .int)]
def wsX10_reach_r2 : List Cond := [Cond.methodLink RX10 135 yX10_isLock, Cond.instanceMethod yX10_isLock, Cond.selects RX10 yX10_isLock yX10_isLock, Cond.code yX10_isLock cX10_isLock 2 (some .boolean)]
def wsX10_reach : List Cond := .code yX10_reach cX10_reach 5 (some .int) :: ((wsX10_reach_r1 ++ wsX10_reach_r2) ++ wsX100)
def wsX10_store : List Cond := .code yX10_store cX10_store 2 (some .int) :: ([.fieldLink RX10 138 "TributeFleetModel" "lakes" "I", .fieldLink RX10 23 "TributeFleetModel" "store" "[I", .methodLink RX10 124 yX10_isIn, .static yX10_isIn, .initialized RX10, .code yX10_isIn cX10_isIn 3 (some .boolean)] ++ wsX100)
def wsX10_allot : List Cond := .code yX10_allot cX10_allot 3 (some .boolean) :: ([.fieldLink RX10 66 "TributeFleetModel" "allotment" "[I", .methodLink RX10 147 yX10_isCounty, .static yX10_isCounty, .initialized RX10, .code yX10_isCounty cX10_isCounty 1 (some .boolean), .methodLink RX10 124 yX10_isIn, .static yX10_isIn, .code yX10_isIn cX10_isIn 3 (some .boolean)] ++ wsX100)
def wsX10_rate : List Cond := .code yX10_rate cX10_rate 2 (some .boolean) :: ([.fieldLink RX10 241 "TributeFleetModel" "rate" "I", .methodLink RX10 124 yX10_isIn, .static yX10_isIn, .initialized RX10, .code yX10_isIn cX10_isIn 3 (some .boolean)] ++ wsX100)
def wsX10_commute : List Cond := .code yX10_commute cX10_commute 3 (some .int) :: ([.fieldLink RX10 66 "TributeFleetModel" "allotment" "[I", .fieldLink RX10 69 "TributeFleetModel" "commuted" "[I", .fieldLink RX10 72 "TributeFleetModel" "paid" "[I", .fieldLink RX10 241 "TributeFleetModel" "rate" "I", .methodLink RX10 147 yX10_isCounty, .static yX10_isCounty, .initialized RX10, .code yX10_isCounty cX10_isCounty 1 (some .boolean), .methodLink RX10 124 yX10_isIn, .static yX10_isIn, .code yX10_isIn cX10_isIn 3 (some .boolean)] ++ wsX100)
def wsX10_county : List Cond := .code yX10_county cX10_county 5 (some .int) :: ([.constant RX10 244 (-100000), .fieldLink RX10 128 "TributeFleetModel" "squadrons" "I", .fieldLink RX10 29 "TributeFleetModel" "county" "[I", .fieldLink RX10 47 "TributeFleetModel" "came" "[I", .fieldLink RX10 35 "TributeFleetModel" "loaded" "[I", .fieldLink RX10 38 "TributeFleetModel" "lost" "[I", .fieldLink RX10 66 "TributeFleetModel" "allotment" "[I", .fieldLink RX10 69 "TributeFleetModel" "commuted" "[I", .fieldLink RX10 72 "TributeFleetModel" "paid" "[I", .methodLink RX10 147 yX10_isCounty, .static yX10_isCounty, .initialized RX10, .code yX10_isCounty cX10_isCounty 1 (some .boolean), .methodLink RX10 124 yX10_isIn, .static yX10_isIn, .code yX10_isIn cX10_isIn 3 (some .boolean)] ++ wsX100)
def wsX10_due : List Cond := .code yX10_due cX10_due 3 (some .boolean) :: ([.fieldLink RX10 53 "TributeFleetModel" "due" "[I", .methodLink RX10 219 yX10_isSquadron, .instanceMethod yX10_isSquadron, .selects RX10 yX10_isSquadron yX10_isSquadron, .initialized RX10, .code yX10_isSquadron cX10_isSquadron 2 (some .boolean), .fieldLink RX10 128 "TributeFleetModel" "squadrons" "I", .methodLink RX10 124 yX10_isIn, .static yX10_isIn, .code yX10_isIn cX10_isIn 3 (some .boolean)] ++ wsX100)
def wsX10_least : List Cond := .code yX10_least cX10_least 13 (some .int) :: ([.fieldLink RX10 128 "TributeFleetModel" "squadrons" "I", .fieldLink RX10 103 "TributeFleetModel" "few" "[I", .fieldLink RX10 106 "TributeFleetModel" "row" "[I", .fieldLink RX10 144 "TributeFleetModel" "today" "I", .fieldLink RX10 32 "TributeFleetModel" "boats" "[I", .fieldLink RX10 13 "TributeFleetModel" "boatsADay" "[I", .fieldLink RX10 53 "TributeFleetModel" "due" "[I", .methodLink RX10 118 Lib.Math.max.name, .static Lib.Math.max.name, .initialized "java/lang/Math", .code Lib.Math.max.name Lib.Math.max.code 2 (some .int), .fieldLink RX10 109 "TributeFleetModel" "bestRow" "[I", .methodLink RX10 135 yX10_isLock, .instanceMethod yX10_isLock, .selects RX10 yX10_isLock yX10_isLock, .initialized RX10, .code yX10_isLock cX10_isLock 2 (some .boolean), .fieldLink RX10 121 "TributeFleetModel" "reaches" "I", .methodLink RX10 124 yX10_isIn, .static yX10_isIn, .code yX10_isIn cX10_isIn 3 (some .boolean)] ++ wsX100)
def wsX10_count : List Cond := .code yX10_count cX10_count 4 (some .int) :: ([.fieldLink RX10 144 "TributeFleetModel" "today" "I", .fieldLink RX10 128 "TributeFleetModel" "squadrons" "I", .fieldLink RX10 138 "TributeFleetModel" "lakes" "I", .fieldLink RX10 202 "TributeFleetModel" "statutes" "I", .fieldLink RX10 150 "TributeFleetModel" "taped" "I", .fieldLink RX10 47 "TributeFleetModel" "came" "[I", .fieldLink RX10 121 "TributeFleetModel" "reaches" "I", .methodLink RX10 234 yX10_one, .static yX10_one, .initialized RX10, .code yX10_one cX10_one 1 (some .int)] ++ wsX100)
def wsJ9_max_7cf53 : List Cond := .code yJ9_max_7cf53 cJ9_max_7cf53 2 (some .int) :: ([])
def wsJ9_min_7cf53 : List Cond := .code yJ9_min_7cf53 cJ9_min_7cf53 2 (some .int) :: ([])
def wsL_cell : List Cond := .code yL_cell cL_cell 2 (some .int) :: ([])
theorem inJ6 : ∀ w ∈ wsJ60, w ∈ lw_tbl := by decide +kernel
theorem inJ9 : ∀ w ∈ wsJ90, w ∈ lw_tbl := by decide +kernel
theorem inJ0 : ∀ w ∈ wsJ00, w ∈ lw_tbl := by decide +kernel
theorem inJ1 : ∀ w ∈ wsJ10, w ∈ lw_tbl := by decide +kernel
theorem inJ2 : ∀ w ∈ wsJ20, w ∈ lw_tbl := by decide +kernel
theorem inJ3 : ∀ w ∈ wsJ30, w ∈ lw_tbl := by decide +kernel
end
section
theorem dX0_init_0 : decode cX0_init 0 = .ok (.aload_n 0, 1) := by decide +kernel
theorem dX0_init_1 : decode cX0_init 1 = .ok (.invokespecial 3, 3) := by decide +kernel
theorem dX0_init_4 : decode cX0_init 4 = .ok (.aload_n 0, 1) := by decide +kernel
theorem dX0_init_5 : decode cX0_init 5 = .ok (.iload_n 1, 1) := by decide +kernel
theorem dX0_init_6 : decode cX0_init 6 = .ok (.putfield 9, 3) := by decide +kernel
theorem dX0_init_9 : decode cX0_init 9 = .ok (.aload_n 0, 1) := by decide +kernel
theorem dX0_init_10 : decode cX0_init 10 = .ok (.bipush 12, 2) := by decide +kernel
theorem dX0_init_12 : decode cX0_init 12 = .ok (.newarray .int, 2) := by decide +kernel
theorem dX0_init_14 : decode cX0_init 14 = .ok (.putfield 15, 3) := by decide +kernel
theorem dX0_init_17 : decode cX0_init 17 = .ok (.aload_n 0, 1) := by decide +kernel
theorem dX0_init_18 : decode cX0_init 18 = .ok (.bipush 12, 2) := by decide +kernel
theorem dX0_init_20 : decode cX0_init 20 = .ok (.newarray .int, 2) := by decide +kernel
theorem dX0_init_22 : decode cX0_init 22 = .ok (.putfield 19, 3) := by decide +kernel
theorem dX0_init_25 : decode cX0_init 25 = .ok (.iconst 0, 1) := by decide +kernel
theorem dX0_init_26 : decode cX0_init 26 = .ok (.istore_n 2, 1) := by decide +kernel
theorem dX0_init_27 : decode cX0_init 27 = .ok (.iload_n 2, 1) := by decide +kernel
theorem dX0_init_28 : decode cX0_init 28 = .ok (.bipush 12, 2) := by decide +kernel
theorem dX0_init_30 : decode cX0_init 30 = .ok (.if_icmp .ge 25, 3) := by decide +kernel
theorem dX0_init_33 : decode cX0_init 33 = .ok (.aload_n 0, 1) := by decide +kernel
theorem dX0_init_34 : decode cX0_init 34 = .ok (.getfield 15, 3) := by decide +kernel
theorem dX0_init_37 : decode cX0_init 37 = .ok (.iload_n 2, 1) := by decide +kernel
theorem dX0_init_38 : decode cX0_init 38 = .ok (.bipush 100, 2) := by decide +kernel
theorem dX0_init_40 : decode cX0_init 40 = .ok (.iastore, 1) := by decide +kernel
theorem dX0_init_41 : decode cX0_init 41 = .ok (.aload_n 0, 1) := by decide +kernel
theorem dX0_init_42 : decode cX0_init 42 = .ok (.getfield 19, 3) := by decide +kernel
theorem dX0_init_45 : decode cX0_init 45 = .ok (.iload_n 2, 1) := by decide +kernel
theorem dX0_init_46 : decode cX0_init 46 = .ok (.bipush 20, 2) := by decide +kernel
theorem dX0_init_48 : decode cX0_init 48 = .ok (.iastore, 1) := by decide +kernel
theorem dX0_init_49 : decode cX0_init 49 = .ok (.iinc 2 1, 3) := by decide +kernel
theorem dX0_init_52 : decode cX0_init 52 = .ok (.goto (-25), 3) := by decide +kernel
theorem dX0_init_55 : decode cX0_init 55 = .ok (.aload_n 0, 1) := by decide +kernel
theorem dX0_init_56 : decode cX0_init 56 = .ok (.iconst 4, 1) := by decide +kernel
theorem dX0_init_57 : decode cX0_init 57 = .ok (.newarray .int, 2) := by decide +kernel
theorem dX0_init_59 : decode cX0_init 59 = .ok (.putfield 22, 3) := by decide +kernel
theorem dX0_init_62 : decode cX0_init 62 = .ok (.aload_n 0, 1) := by decide +kernel
theorem dX0_init_63 : decode cX0_init 63 = .ok (.iconst 4, 1) := by decide +kernel
theorem dX0_init_64 : decode cX0_init 64 = .ok (.newarray .int, 2) := by decide +kernel
theorem dX0_init_66 : decode cX0_init 66 = .ok (.putfield 25, 3) := by decide +kernel
theorem dX0_init_69 : decode cX0_init 69 = .ok (.aload_n 0, 1) := by decide +kernel
theorem dX0_init_70 : decode cX0_init 70 = .ok (.iconst 4, 1) := by decide +kernel
theorem dX0_init_71 : decode cX0_init 71 = .ok (.newarray .int, 2) := by decide +kernel
theorem dX0_init_73 : decode cX0_init 73 = .ok (.putfield 28, 3) := by decide +kernel
theorem dX0_init_76 : decode cX0_init 76 = .ok (.aload_n 0, 1) := by decide +kernel
theorem dX0_init_77 : decode cX0_init 77 = .ok (.iconst 0, 1) := by decide +kernel
theorem dX0_init_78 : decode cX0_init 78 = .ok (.putfield 31, 3) := by decide +kernel
theorem dX0_init_81 : decode cX0_init 81 = .ok (.aload_n 0, 1) := by decide +kernel
theorem dX0_init_82 : decode cX0_init 82 = .ok (.sipush 401, 3) := by decide +kernel
theorem dX0_init_85 : decode cX0_init 85 = .ok (.putfield 34, 3) := by decide +kernel
theorem dX0_init_88 : decode cX0_init 88 = .ok (.aload_n 0, 1) := by decide +kernel
theorem dX0_init_89 : decode cX0_init 89 = .ok (.iconst 0, 1) := by decide +kernel
theorem dX0_init_90 : decode cX0_init 90 = .ok (.putfield 37, 3) := by decide +kernel
theorem dX0_init_93 : decode cX0_init 93 = .ok (.return_, 1) := by decide +kernel
set_option maxRecDepth 20000 in
theorem ggX0_hasReach_X9_isPlace : GoodIn wsX0_hasReach wsX9_isPlace := goodIn_r _ [4] (by decide +kernel) (by decide +kernel)
set_option maxRecDepth 20000 in
theorem gX0_hasReach_X9_isPlace_n40 : GoodIn wsX0_hasReach (wsX9_isPlace) := ggX0_hasReach_X9_isPlace
theorem dX0_hasReach_0 : decode cX0_hasReach 0 = .ok (.iload_n 1, 1) := by decide +kernel
theorem dX0_hasReach_1 : decode cX0_hasReach 1 = .ok (.aload_n 0, 1) := by decide +kernel
theorem dX0_hasReach_2 : decode cX0_hasReach 2 = .ok (.getfield 9, 3) := by decide +kernel
theorem dX0_hasReach_5 : decode cX0_hasReach 5 = .ok (.invokestatic 40, 3) := by decide +kernel
theorem dX0_hasReach_8 : decode cX0_hasReach 8 = .ok (.ireturn, 1) := by decide +kernel
set_option maxRecDepth 20000 in
theorem ggX0_hasLock_X9_isPlace : GoodIn wsX0_hasLock wsX9_isPlace := goodIn_r _ [4] (by decide +kernel) (by decide +kernel)
set_option maxRecDepth 20000 in
theorem gX0_hasLock_X9_isPlace_n40 : GoodIn wsX0_hasLock (wsX9_isPlace) := ggX0_hasLock_X9_isPlace
theorem dX0_hasLock_0 : decode cX0_hasLock 0 = .ok (.iload_n 1, 1) := by decide +kernel
theorem dX0_hasLock_1 : decode cX0_hasLock 1 = .ok (.aload_n 0, 1) := by decide +kernel
theorem dX0_hasLock_2 : decode cX0_hasLock 2 = .ok (.getfield 9, 3) := by decide +kernel
theorem dX0_hasLock_5 : decode cX0_hasLock 5 = .ok (.iconst 1, 1) := by decide +kernel
theorem dX0_hasLock_6 : decode cX0_hasLock 6 = .ok (.isub, 1) := by decide +kernel
theorem dX0_hasLock_7 : decode cX0_hasLock 7 = .ok (.invokestatic 40, 3) := by decide +kernel
theorem dX0_hasLock_10 : decode cX0_hasLock 10 = .ok (.ireturn, 1) := by decide +kernel
set_option maxRecDepth 20000 in
theorem ggX0_hasLake_X9_isPlace : GoodIn wsX0_hasLake wsX9_isPlace := goodIn_r _ [4] (by decide +kernel) (by decide +kernel)
set_option maxRecDepth 20000 in
theorem gX0_hasLake_X9_isPlace_n40 : GoodIn wsX0_hasLake (wsX9_isPlace) := ggX0_hasLake_X9_isPlace
theorem dX0_hasLake_0 : decode cX0_hasLake 0 = .ok (.iload_n 1, 1) := by decide +kernel
theorem dX0_hasLake_1 : decode cX0_hasLake 1 = .ok (.aload_n 0, 1) := by decide +kernel
theorem dX0_hasLake_2 : decode cX0_hasLake 2 = .ok (.getfield 31, 3) := by decide +kernel
theorem dX0_hasLake_5 : decode cX0_hasLake 5 = .ok (.invokestatic 40, 3) := by decide +kernel
theorem dX0_hasLake_8 : decode cX0_hasLake 8 = .ok (.ireturn, 1) := by decide +kernel
theorem dX0_addLake_0 : decode cX0_addLake 0 = .ok (.aload_n 0, 1) := by decide +kernel
theorem dX0_addLake_1 : decode cX0_addLake 1 = .ok (.getfield 31, 3) := by decide +kernel
theorem dX0_addLake_4 : decode cX0_addLake 4 = .ok (.iconst 4, 1) := by decide +kernel
theorem dX0_addLake_5 : decode cX0_addLake 5 = .ok (.if_icmp .lt 5, 3) := by decide +kernel
theorem dX0_addLake_8 : decode cX0_addLake 8 = .ok (.iconst (-1), 1) := by decide +kernel
theorem dX0_addLake_9 : decode cX0_addLake 9 = .ok (.ireturn, 1) := by decide +kernel
theorem dX0_addLake_10 : decode cX0_addLake 10 = .ok (.aload_n 0, 1) := by decide +kernel
theorem dX0_addLake_11 : decode cX0_addLake 11 = .ok (.getfield 22, 3) := by decide +kernel
theorem dX0_addLake_14 : decode cX0_addLake 14 = .ok (.aload_n 0, 1) := by decide +kernel
theorem dX0_addLake_15 : decode cX0_addLake 15 = .ok (.getfield 31, 3) := by decide +kernel
theorem dX0_addLake_18 : decode cX0_addLake 18 = .ok (.iload_n 1, 1) := by decide +kernel
theorem dX0_addLake_19 : decode cX0_addLake 19 = .ok (.iastore, 1) := by decide +kernel
theorem dX0_addLake_20 : decode cX0_addLake 20 = .ok (.aload_n 0, 1) := by decide +kernel
theorem dX0_addLake_21 : decode cX0_addLake 21 = .ok (.getfield 25, 3) := by decide +kernel
theorem dX0_addLake_24 : decode cX0_addLake 24 = .ok (.aload_n 0, 1) := by decide +kernel
theorem dX0_addLake_25 : decode cX0_addLake 25 = .ok (.getfield 31, 3) := by decide +kernel
theorem dX0_addLake_28 : decode cX0_addLake 28 = .ok (.iload_n 2, 1) := by decide +kernel
theorem dX0_addLake_29 : decode cX0_addLake 29 = .ok (.iastore, 1) := by decide +kernel
theorem dX0_addLake_30 : decode cX0_addLake 30 = .ok (.aload_n 0, 1) := by decide +kernel
theorem dX0_addLake_31 : decode cX0_addLake 31 = .ok (.dup, 1) := by decide +kernel
theorem dX0_addLake_32 : decode cX0_addLake 32 = .ok (.getfield 31, 3) := by decide +kernel
theorem dX0_addLake_35 : decode cX0_addLake 35 = .ok (.iconst 1, 1) := by decide +kernel
theorem dX0_addLake_36 : decode cX0_addLake 36 = .ok (.iadd, 1) := by decide +kernel
theorem dX0_addLake_37 : decode cX0_addLake 37 = .ok (.putfield 31, 3) := by decide +kernel
theorem dX0_addLake_40 : decode cX0_addLake 40 = .ok (.aload_n 0, 1) := by decide +kernel
theorem dX0_addLake_41 : decode cX0_addLake 41 = .ok (.getfield 31, 3) := by decide +kernel
theorem dX0_addLake_44 : decode cX0_addLake 44 = .ok (.iconst 1, 1) := by decide +kernel
theorem dX0_addLake_45 : decode cX0_addLake 45 = .ok (.isub, 1) := by decide +kernel
theorem dX0_addLake_46 : decode cX0_addLake 46 = .ok (.ireturn, 1) := by decide +kernel
theorem dX0_isIcy_0 : decode cX0_isIcy 0 = .ok (.iload_n 2, 1) := by decide +kernel
theorem dX0_isIcy_1 : decode cX0_isIcy 1 = .ok (.aload_n 0, 1) := by decide +kernel
theorem dX0_isIcy_2 : decode cX0_isIcy 2 = .ok (.getfield 34, 3) := by decide +kernel
theorem dX0_isIcy_5 : decode cX0_isIcy 5 = .ok (.if_icmp .lt 15, 3) := by decide +kernel
theorem dX0_isIcy_8 : decode cX0_isIcy 8 = .ok (.iload_n 1, 1) := by decide +kernel
theorem dX0_isIcy_9 : decode cX0_isIcy 9 = .ok (.aload_n 0, 1) := by decide +kernel
theorem dX0_isIcy_10 : decode cX0_isIcy 10 = .ok (.getfield 37, 3) := by decide +kernel
theorem dX0_isIcy_13 : decode cX0_isIcy 13 = .ok (.if_icmp .lt 7, 3) := by decide +kernel
theorem dX0_isIcy_16 : decode cX0_isIcy 16 = .ok (.iconst 1, 1) := by decide +kernel
theorem dX0_isIcy_17 : decode cX0_isIcy 17 = .ok (.goto 4, 3) := by decide +kernel
theorem dX0_isIcy_20 : decode cX0_isIcy 20 = .ok (.iconst 0, 1) := by decide +kernel
theorem dX0_isIcy_21 : decode cX0_isIcy 21 = .ok (.ireturn, 1) := by decide +kernel
set_option maxRecDepth 20000 in
theorem ggX0_isTooLow_X0_hasReach : GoodIn wsX0_isTooLow wsX0_hasReach := goodIn_r _ [6, 7, 8, 9, 10, 11, 12, 13, 14, 15, 16, 17, 18, 19] (by decide +kernel) (by decide +kernel)
set_option maxRecDepth 20000 in
theorem gX0_isTooLow_X0_hasReach : GoodIn wsX0_isTooLow (wsV RX0 44 RX0 yX0_hasReach wsX0_hasReach) := goodIn_app (goodIn_of _ (by decide +kernel)) ggX0_isTooLow_X0_hasReach
theorem dX0_isTooLow_0 : decode cX0_isTooLow 0 = .ok (.aload_n 0, 1) := by decide +kernel
theorem dX0_isTooLow_1 : decode cX0_isTooLow 1 = .ok (.iload_n 1, 1) := by decide +kernel
theorem dX0_isTooLow_2 : decode cX0_isTooLow 2 = .ok (.invokevirtual 44, 3) := by decide +kernel
theorem dX0_isTooLow_5 : decode cX0_isTooLow 5 = .ok (.ifCond .eq 16, 3) := by decide +kernel
theorem dX0_isTooLow_8 : decode cX0_isTooLow 8 = .ok (.aload_n 0, 1) := by decide +kernel
theorem dX0_isTooLow_9 : decode cX0_isTooLow 9 = .ok (.getfield 15, 3) := by decide +kernel
theorem dX0_isTooLow_12 : decode cX0_isTooLow 12 = .ok (.iload_n 1, 1) := by decide +kernel
theorem dX0_isTooLow_13 : decode cX0_isTooLow 13 = .ok (.iaload, 1) := by decide +kernel
theorem dX0_isTooLow_14 : decode cX0_isTooLow 14 = .ok (.bipush 20, 2) := by decide +kernel
theorem dX0_isTooLow_16 : decode cX0_isTooLow 16 = .ok (.iload_n 2, 1) := by decide +kernel
theorem dX0_isTooLow_17 : decode cX0_isTooLow 17 = .ok (.iadd, 1) := by decide +kernel
theorem dX0_isTooLow_18 : decode cX0_isTooLow 18 = .ok (.if_icmp .ge 7, 3) := by decide +kernel
theorem dX0_isTooLow_21 : decode cX0_isTooLow 21 = .ok (.iconst 1, 1) := by decide +kernel
theorem dX0_isTooLow_22 : decode cX0_isTooLow 22 = .ok (.goto 4, 3) := by decide +kernel
theorem dX0_isTooLow_25 : decode cX0_isTooLow 25 = .ok (.iconst 0, 1) := by decide +kernel
theorem dX0_isTooLow_26 : decode cX0_isTooLow 26 = .ok (.ireturn, 1) := by decide +kernel
set_option maxRecDepth 20000 in
theorem ggX0_boatsOf_X0_hasLock : GoodIn wsX0_boatsOf wsX0_hasLock := goodIn_r _ [6, 7, 8, 9, 10, 11, 12, 13, 14, 15, 16, 17, 18, 19] (by decide +kernel) (by decide +kernel)
set_option maxRecDepth 20000 in
theorem gX0_boatsOf_X0_hasLock : GoodIn wsX0_boatsOf (wsV RX0 48 RX0 yX0_hasLock wsX0_hasLock) := goodIn_app (goodIn_of _ (by decide +kernel)) ggX0_boatsOf_X0_hasLock
theorem dX0_boatsOf_0 : decode cX0_boatsOf 0 = .ok (.aload_n 0, 1) := by decide +kernel
theorem dX0_boatsOf_1 : decode cX0_boatsOf 1 = .ok (.iload_n 1, 1) := by decide +kernel
theorem dX0_boatsOf_2 : decode cX0_boatsOf 2 = .ok (.invokevirtual 48, 3) := by decide +kernel
theorem dX0_boatsOf_5 : decode cX0_boatsOf 5 = .ok (.ifCond .eq 12, 3) := by decide +kernel
theorem dX0_boatsOf_8 : decode cX0_boatsOf 8 = .ok (.aload_n 0, 1) := by decide +kernel
theorem dX0_boatsOf_9 : decode cX0_boatsOf 9 = .ok (.getfield 19, 3) := by decide +kernel
theorem dX0_boatsOf_12 : decode cX0_boatsOf 12 = .ok (.iload_n 1, 1) := by decide +kernel
theorem dX0_boatsOf_13 : decode cX0_boatsOf 13 = .ok (.iaload, 1) := by decide +kernel
theorem dX0_boatsOf_14 : decode cX0_boatsOf 14 = .ok (.goto 4, 3) := by decide +kernel
theorem dX0_boatsOf_17 : decode cX0_boatsOf 17 = .ok (.iconst 0, 1) := by decide +kernel
theorem dX0_boatsOf_18 : decode cX0_boatsOf 18 = .ok (.ireturn, 1) := by decide +kernel
set_option maxRecDepth 20000 in
theorem ggX0_takeFromLakes_X0_hasReach : GoodIn wsX0_takeFromLakes wsX0_hasReach := goodIn_r _ [14, 15, 16, 17, 18, 19, 20, 21, 22, 23, 24, 25, 26, 27] (by decide +kernel) (by decide +kernel)
set_option maxRecDepth 20000 in
theorem gX0_takeFromLakes_X0_hasReach : GoodIn wsX0_takeFromLakes (wsV RX0 44 RX0 yX0_hasReach wsX0_hasReach) := goodIn_app (goodIn_of _ (by decide +kernel)) ggX0_takeFromLakes_X0_hasReach
theorem dX0_takeFromLakes_0 : decode cX0_takeFromLakes 0 = .ok (.iconst 0, 1) := by decide +kernel
theorem dX0_takeFromLakes_1 : decode cX0_takeFromLakes 1 = .ok (.istore_n 1, 1) := by decide +kernel
theorem dX0_takeFromLakes_2 : decode cX0_takeFromLakes 2 = .ok (.iload_n 1, 1) := by decide +kernel
theorem dX0_takeFromLakes_3 : decode cX0_takeFromLakes 3 = .ok (.aload_n 0, 1) := by decide +kernel
theorem dX0_takeFromLakes_4 : decode cX0_takeFromLakes 4 = .ok (.getfield 31, 3) := by decide +kernel
theorem dX0_takeFromLakes_7 : decode cX0_takeFromLakes 7 = .ok (.if_icmp .ge 75, 3) := by decide +kernel
theorem dX0_takeFromLakes_10 : decode cX0_takeFromLakes 10 = .ok (.aload_n 0, 1) := by decide +kernel
theorem dX0_takeFromLakes_11 : decode cX0_takeFromLakes 11 = .ok (.getfield 22, 3) := by decide +kernel
theorem dX0_takeFromLakes_14 : decode cX0_takeFromLakes 14 = .ok (.iload_n 1, 1) := by decide +kernel
theorem dX0_takeFromLakes_15 : decode cX0_takeFromLakes 15 = .ok (.iaload, 1) := by decide +kernel
theorem dX0_takeFromLakes_16 : decode cX0_takeFromLakes 16 = .ok (.istore_n 2, 1) := by decide +kernel
theorem dX0_takeFromLakes_17 : decode cX0_takeFromLakes 17 = .ok (.aload_n 0, 1) := by decide +kernel
theorem dX0_takeFromLakes_18 : decode cX0_takeFromLakes 18 = .ok (.iload_n 2, 1) := by decide +kernel
theorem dX0_takeFromLakes_19 : decode cX0_takeFromLakes 19 = .ok (.invokevirtual 44, 3) := by decide +kernel
theorem dX0_takeFromLakes_22 : decode cX0_takeFromLakes 22 = .ok (.ifCond .eq 54, 3) := by decide +kernel
theorem dX0_takeFromLakes_25 : decode cX0_takeFromLakes 25 = .ok (.aload_n 0, 1) := by decide +kernel
theorem dX0_takeFromLakes_26 : decode cX0_takeFromLakes 26 = .ok (.getfield 28, 3) := by decide +kernel
theorem dX0_takeFromLakes_29 : decode cX0_takeFromLakes 29 = .ok (.iload_n 1, 1) := by decide +kernel
theorem dX0_takeFromLakes_30 : decode cX0_takeFromLakes 30 = .ok (.iaload, 1) := by decide +kernel
theorem dX0_takeFromLakes_31 : decode cX0_takeFromLakes 31 = .ok (.aload_n 0, 1) := by decide +kernel
theorem dX0_takeFromLakes_32 : decode cX0_takeFromLakes 32 = .ok (.getfield 25, 3) := by decide +kernel
theorem dX0_takeFromLakes_35 : decode cX0_takeFromLakes 35 = .ok (.iload_n 1, 1) := by decide +kernel
theorem dX0_takeFromLakes_36 : decode cX0_takeFromLakes 36 = .ok (.iaload, 1) := by decide +kernel
theorem dX0_takeFromLakes_37 : decode cX0_takeFromLakes 37 = .ok (.invokestatic 51, 3) := by decide +kernel
theorem dX0_takeFromLakes_40 : decode cX0_takeFromLakes 40 = .ok (.istore_n 3, 1) := by decide +kernel
theorem dX0_takeFromLakes_41 : decode cX0_takeFromLakes 41 = .ok (.iload_n 3, 1) := by decide +kernel
theorem dX0_takeFromLakes_42 : decode cX0_takeFromLakes 42 = .ok (.sipush 1000, 3) := by decide +kernel
theorem dX0_takeFromLakes_45 : decode cX0_takeFromLakes 45 = .ok (.aload_n 0, 1) := by decide +kernel
theorem dX0_takeFromLakes_46 : decode cX0_takeFromLakes 46 = .ok (.getfield 15, 3) := by decide +kernel
theorem dX0_takeFromLakes_49 : decode cX0_takeFromLakes 49 = .ok (.iload_n 2, 1) := by decide +kernel
theorem dX0_takeFromLakes_50 : decode cX0_takeFromLakes 50 = .ok (.iaload, 1) := by decide +kernel
theorem dX0_takeFromLakes_51 : decode cX0_takeFromLakes 51 = .ok (.isub, 1) := by decide +kernel
theorem dX0_takeFromLakes_52 : decode cX0_takeFromLakes 52 = .ok (.invokestatic 51, 3) := by decide +kernel
theorem dX0_takeFromLakes_55 : decode cX0_takeFromLakes 55 = .ok (.istore_n 3, 1) := by decide +kernel
theorem dX0_takeFromLakes_56 : decode cX0_takeFromLakes 56 = .ok (.aload_n 0, 1) := by decide +kernel
theorem dX0_takeFromLakes_57 : decode cX0_takeFromLakes 57 = .ok (.getfield 25, 3) := by decide +kernel
theorem dX0_takeFromLakes_60 : decode cX0_takeFromLakes 60 = .ok (.iload_n 1, 1) := by decide +kernel
theorem dX0_takeFromLakes_61 : decode cX0_takeFromLakes 61 = .ok (.dup2, 1) := by decide +kernel
theorem dX0_takeFromLakes_62 : decode cX0_takeFromLakes 62 = .ok (.iaload, 1) := by decide +kernel
theorem dX0_takeFromLakes_63 : decode cX0_takeFromLakes 63 = .ok (.iload_n 3, 1) := by decide +kernel
theorem dX0_takeFromLakes_64 : decode cX0_takeFromLakes 64 = .ok (.isub, 1) := by decide +kernel
theorem dX0_takeFromLakes_65 : decode cX0_takeFromLakes 65 = .ok (.iastore, 1) := by decide +kernel
theorem dX0_takeFromLakes_66 : decode cX0_takeFromLakes 66 = .ok (.aload_n 0, 1) := by decide +kernel
theorem dX0_takeFromLakes_67 : decode cX0_takeFromLakes 67 = .ok (.getfield 15, 3) := by decide +kernel
theorem dX0_takeFromLakes_70 : decode cX0_takeFromLakes 70 = .ok (.iload_n 2, 1) := by decide +kernel
theorem dX0_takeFromLakes_71 : decode cX0_takeFromLakes 71 = .ok (.dup2, 1) := by decide +kernel
theorem dX0_takeFromLakes_72 : decode cX0_takeFromLakes 72 = .ok (.iaload, 1) := by decide +kernel
theorem dX0_takeFromLakes_73 : decode cX0_takeFromLakes 73 = .ok (.iload_n 3, 1) := by decide +kernel
theorem dX0_takeFromLakes_74 : decode cX0_takeFromLakes 74 = .ok (.iadd, 1) := by decide +kernel
theorem dX0_takeFromLakes_75 : decode cX0_takeFromLakes 75 = .ok (.iastore, 1) := by decide +kernel
theorem dX0_takeFromLakes_76 : decode cX0_takeFromLakes 76 = .ok (.iinc 1 1, 3) := by decide +kernel
theorem dX0_takeFromLakes_79 : decode cX0_takeFromLakes 79 = .ok (.goto (-77), 3) := by decide +kernel
theorem dX0_takeFromLakes_82 : decode cX0_takeFromLakes 82 = .ok (.return_, 1) := by decide +kernel
set_option maxRecDepth 20000 in
theorem ggX0_letThrough_X0_hasLock : GoodIn wsX0_letThrough wsX0_hasLock := goodIn_r _ [10, 11, 12, 13, 14, 15, 16, 17, 18, 19, 20, 21, 22, 23] (by decide +kernel) (by decide +kernel)
set_option maxRecDepth 20000 in
theorem gX0_letThrough_X0_hasLock : GoodIn wsX0_letThrough (wsV RX0 48 RX0 yX0_hasLock wsX0_hasLock) := goodIn_app (goodIn_of _ (by decide +kernel)) ggX0_letThrough_X0_hasLock
theorem dX0_letThrough_0 : decode cX0_letThrough 0 = .ok (.aload_n 0, 1) := by decide +kernel
theorem dX0_letThrough_1 : decode cX0_letThrough 1 = .ok (.iload_n 1, 1) := by decide +kernel
theorem dX0_letThrough_2 : decode cX0_letThrough 2 = .ok (.invokevirtual 48, 3) := by decide +kernel
theorem dX0_letThrough_5 : decode cX0_letThrough 5 = .ok (.ifCond .eq 35, 3) := by decide +kernel
theorem dX0_letThrough_8 : decode cX0_letThrough 8 = .ok (.aload_n 0, 1) := by decide +kernel
theorem dX0_letThrough_9 : decode cX0_letThrough 9 = .ok (.getfield 15, 3) := by decide +kernel
theorem dX0_letThrough_12 : decode cX0_letThrough 12 = .ok (.iload_n 1, 1) := by decide +kernel
theorem dX0_letThrough_13 : decode cX0_letThrough 13 = .ok (.iconst 1, 1) := by decide +kernel
theorem dX0_letThrough_14 : decode cX0_letThrough 14 = .ok (.iadd, 1) := by decide +kernel
theorem dX0_letThrough_15 : decode cX0_letThrough 15 = .ok (.dup2, 1) := by decide +kernel
theorem dX0_letThrough_16 : decode cX0_letThrough 16 = .ok (.iaload, 1) := by decide +kernel
theorem dX0_letThrough_17 : decode cX0_letThrough 17 = .ok (.iload_n 2, 1) := by decide +kernel
theorem dX0_letThrough_18 : decode cX0_letThrough 18 = .ok (.isub, 1) := by decide +kernel
theorem dX0_letThrough_19 : decode cX0_letThrough 19 = .ok (.iastore, 1) := by decide +kernel
theorem dX0_letThrough_20 : decode cX0_letThrough 20 = .ok (.aload_n 0, 1) := by decide +kernel
theorem dX0_letThrough_21 : decode cX0_letThrough 21 = .ok (.getfield 15, 3) := by decide +kernel
theorem dX0_letThrough_24 : decode cX0_letThrough 24 = .ok (.iload_n 1, 1) := by decide +kernel
theorem dX0_letThrough_25 : decode cX0_letThrough 25 = .ok (.sipush 1000, 3) := by decide +kernel
theorem dX0_letThrough_28 : decode cX0_letThrough 28 = .ok (.aload_n 0, 1) := by decide +kernel
theorem dX0_letThrough_29 : decode cX0_letThrough 29 = .ok (.getfield 15, 3) := by decide +kernel
theorem dX0_letThrough_32 : decode cX0_letThrough 32 = .ok (.iload_n 1, 1) := by decide +kernel
theorem dX0_letThrough_33 : decode cX0_letThrough 33 = .ok (.iaload, 1) := by decide +kernel
theorem dX0_letThrough_34 : decode cX0_letThrough 34 = .ok (.iload_n 2, 1) := by decide +kernel
theorem dX0_letThrough_35 : decode cX0_letThrough 35 = .ok (.iadd, 1) := by decide +kernel
theorem dX0_letThrough_36 : decode cX0_letThrough 36 = .ok (.invokestatic 51, 3) := by decide +kernel
theorem dX0_letThrough_39 : decode cX0_letThrough 39 = .ok (.iastore, 1) := by decide +kernel
theorem dX0_letThrough_40 : decode cX0_letThrough 40 = .ok (.return_, 1) := by decide +kernel
set_option maxRecDepth 20000 in
theorem ggX1_init_X7_init : GoodIn wsX1_init wsX7_init := goodIn_r _ [12, 13, 2, 3, 14, 15, 16, 17, 18, 19, 20, 21, 25, 26, 27, 28, 29, 30, 31] (by decide +kernel) (by decide +kernel)
set_option maxRecDepth 20000 in
theorem gX1_init_X7_init : GoodIn wsX1_init (wsX7_init) := ggX1_init_X7_init
theorem dX1_init_0 : decode cX1_init 0 = .ok (.aload_n 0, 1) := by decide +kernel
theorem dX1_init_1 : decode cX1_init 1 = .ok (.invokespecial 3, 3) := by decide +kernel
theorem dX1_init_4 : decode cX1_init 4 = .ok (.aload_n 0, 1) := by decide +kernel
theorem dX1_init_5 : decode cX1_init 5 = .ok (.bipush 10, 2) := by decide +kernel
theorem dX1_init_7 : decode cX1_init 7 = .ok (.anewarray 11, 3) := by decide +kernel
theorem dX1_init_10 : decode cX1_init 10 = .ok (.putfield 13, 3) := by decide +kernel
theorem dX1_init_13 : decode cX1_init 13 = .ok (.aload_n 0, 1) := by decide +kernel
theorem dX1_init_14 : decode cX1_init 14 = .ok (.new 11, 3) := by decide +kernel
theorem dX1_init_17 : decode cX1_init 17 = .ok (.dup, 1) := by decide +kernel
theorem dX1_init_18 : decode cX1_init 18 = .ok (.iload_n 1, 1) := by decide +kernel
theorem dX1_init_19 : decode cX1_init 19 = .ok (.iconst (-1), 1) := by decide +kernel
theorem dX1_init_20 : decode cX1_init 20 = .ok (.iconst 0, 1) := by decide +kernel
theorem dX1_init_21 : decode cX1_init 21 = .ok (.invokespecial 17, 3) := by decide +kernel
theorem dX1_init_24 : decode cX1_init 24 = .ok (.putfield 20, 3) := by decide +kernel
theorem dX1_init_27 : decode cX1_init 27 = .ok (.aload_n 0, 1) := by decide +kernel
theorem dX1_init_28 : decode cX1_init 28 = .ok (.iconst 0, 1) := by decide +kernel
theorem dX1_init_29 : decode cX1_init 29 = .ok (.putfield 24, 3) := by decide +kernel
theorem dX1_init_32 : decode cX1_init 32 = .ok (.return_, 1) := by decide +kernel
theorem dX1_isFull_0 : decode cX1_isFull 0 = .ok (.aload_n 0, 1) := by decide +kernel
theorem dX1_isFull_1 : decode cX1_isFull 1 = .ok (.getfield 24, 3) := by decide +kernel
theorem dX1_isFull_4 : decode cX1_isFull 4 = .ok (.bipush 10, 2) := by decide +kernel
theorem dX1_isFull_6 : decode cX1_isFull 6 = .ok (.if_icmp .lt 7, 3) := by decide +kernel
theorem dX1_isFull_9 : decode cX1_isFull 9 = .ok (.iconst 1, 1) := by decide +kernel
theorem dX1_isFull_10 : decode cX1_isFull 10 = .ok (.goto 4, 3) := by decide +kernel
theorem dX1_isFull_13 : decode cX1_isFull 13 = .ok (.iconst 0, 1) := by decide +kernel
theorem dX1_isFull_14 : decode cX1_isFull 14 = .ok (.ireturn, 1) := by decide +kernel
set_option maxRecDepth 20000 in
theorem ggX1_take_X1_isFull : GoodIn wsX1_take wsX1_isFull := goodIn_r _ [7, 2, 8, 9, 10] (by decide +kernel) (by decide +kernel)
set_option maxRecDepth 20000 in
theorem gX1_take_X1_isFull : GoodIn wsX1_take (wsV RX1 28 RX1 yX1_isFull wsX1_isFull) := goodIn_app (goodIn_of _ (by decide +kernel)) ggX1_take_X1_isFull
theorem dX1_take_0 : decode cX1_take 0 = .ok (.aload_n 0, 1) := by decide +kernel
theorem dX1_take_1 : decode cX1_take 1 = .ok (.invokevirtual 28, 3) := by decide +kernel
theorem dX1_take_4 : decode cX1_take 4 = .ok (.ifCond .eq 5, 3) := by decide +kernel
theorem dX1_take_7 : decode cX1_take 7 = .ok (.iconst (-1), 1) := by decide +kernel
theorem dX1_take_8 : decode cX1_take 8 = .ok (.ireturn, 1) := by decide +kernel
theorem dX1_take_9 : decode cX1_take 9 = .ok (.aload_n 0, 1) := by decide +kernel
theorem dX1_take_10 : decode cX1_take 10 = .ok (.getfield 13, 3) := by decide +kernel
theorem dX1_take_13 : decode cX1_take 13 = .ok (.aload_n 0, 1) := by decide +kernel
theorem dX1_take_14 : decode cX1_take 14 = .ok (.getfield 24, 3) := by decide +kernel
theorem dX1_take_17 : decode cX1_take 17 = .ok (.aload_n 1, 1) := by decide +kernel
theorem dX1_take_18 : decode cX1_take 18 = .ok (.aastore, 1) := by decide +kernel
theorem dX1_take_19 : decode cX1_take 19 = .ok (.aload_n 0, 1) := by decide +kernel
theorem dX1_take_20 : decode cX1_take 20 = .ok (.dup, 1) := by decide +kernel
theorem dX1_take_21 : decode cX1_take 21 = .ok (.getfield 24, 3) := by decide +kernel
theorem dX1_take_24 : decode cX1_take 24 = .ok (.iconst 1, 1) := by decide +kernel
theorem dX1_take_25 : decode cX1_take 25 = .ok (.iadd, 1) := by decide +kernel
theorem dX1_take_26 : decode cX1_take 26 = .ok (.putfield 24, 3) := by decide +kernel
theorem dX1_take_29 : decode cX1_take 29 = .ok (.aload_n 0, 1) := by decide +kernel
theorem dX1_take_30 : decode cX1_take 30 = .ok (.getfield 24, 3) := by decide +kernel
theorem dX1_take_33 : decode cX1_take 33 = .ok (.iconst 1, 1) := by decide +kernel
theorem dX1_take_34 : decode cX1_take 34 = .ok (.isub, 1) := by decide +kernel
theorem dX1_take_35 : decode cX1_take 35 = .ok (.ireturn, 1) := by decide +kernel
theorem dX1_inForce_0 : decode cX1_inForce 0 = .ok (.aload_n 0, 1) := by decide +kernel
theorem dX1_inForce_1 : decode cX1_inForce 1 = .ok (.getfield 24, 3) := by decide +kernel
theorem dX1_inForce_4 : decode cX1_inForce 4 = .ok (.iconst 1, 1) := by decide +kernel
theorem dX1_inForce_5 : decode cX1_inForce 5 = .ok (.isub, 1) := by decide +kernel
theorem dX1_inForce_6 : decode cX1_inForce 6 = .ok (.istore_n 2, 1) := by decide +kernel
theorem dX1_inForce_7 : decode cX1_inForce 7 = .ok (.iload_n 2, 1) := by decide +kernel
theorem dX1_inForce_8 : decode cX1_inForce 8 = .ok (.ifCond .lt 30, 3) := by decide +kernel
theorem dX1_inForce_11 : decode cX1_inForce 11 = .ok (.aload_n 0, 1) := by decide +kernel
theorem dX1_inForce_12 : decode cX1_inForce 12 = .ok (.getfield 13, 3) := by decide +kernel
theorem dX1_inForce_15 : decode cX1_inForce 15 = .ok (.iload_n 2, 1) := by decide +kernel
theorem dX1_inForce_16 : decode cX1_inForce 16 = .ok (.aaload, 1) := by decide +kernel
theorem dX1_inForce_17 : decode cX1_inForce 17 = .ok (.astore_n 3, 1) := by decide +kernel
theorem dX1_inForce_18 : decode cX1_inForce 18 = .ok (.aload_n 3, 1) := by decide +kernel
theorem dX1_inForce_19 : decode cX1_inForce 19 = .ok (.ifnull 13, 3) := by decide +kernel
theorem dX1_inForce_22 : decode cX1_inForce 22 = .ok (.aload_n 3, 1) := by decide +kernel
theorem dX1_inForce_23 : decode cX1_inForce 23 = .ok (.getfield 32, 3) := by decide +kernel
theorem dX1_inForce_26 : decode cX1_inForce 26 = .ok (.iload_n 1, 1) := by decide +kernel
theorem dX1_inForce_27 : decode cX1_inForce 27 = .ok (.if_icmp .gt 5, 3) := by decide +kernel
theorem dX1_inForce_30 : decode cX1_inForce 30 = .ok (.aload_n 3, 1) := by decide +kernel
theorem dX1_inForce_31 : decode cX1_inForce 31 = .ok (.areturn, 1) := by decide +kernel
theorem dX1_inForce_32 : decode cX1_inForce 32 = .ok (.iinc 2 (-1), 3) := by decide +kernel
theorem dX1_inForce_35 : decode cX1_inForce 35 = .ok (.goto (-28), 3) := by decide +kernel
theorem dX1_inForce_38 : decode cX1_inForce 38 = .ok (.aload_n 0, 1) := by decide +kernel
theorem dX1_inForce_39 : decode cX1_inForce 39 = .ok (.getfield 20, 3) := by decide +kernel
theorem dX1_inForce_42 : decode cX1_inForce 42 = .ok (.areturn, 1) := by decide +kernel
theorem dX2_init_0 : decode cX2_init 0 = .ok (.aload_n 0, 1) := by decide +kernel
theorem dX2_init_1 : decode cX2_init 1 = .ok (.invokespecial 3, 3) := by decide +kernel
theorem dX2_init_4 : decode cX2_init 4 = .ok (.aload_n 0, 1) := by decide +kernel
theorem dX2_init_5 : decode cX2_init 5 = .ok (.bipush 6, 2) := by decide +kernel
theorem dX2_init_7 : decode cX2_init 7 = .ok (.newarray .int, 2) := by decide +kernel
theorem dX2_init_9 : decode cX2_init 9 = .ok (.putfield 9, 3) := by decide +kernel
theorem dX2_init_12 : decode cX2_init 12 = .ok (.aload_n 0, 1) := by decide +kernel
theorem dX2_init_13 : decode cX2_init 13 = .ok (.bipush 6, 2) := by decide +kernel
theorem dX2_init_15 : decode cX2_init 15 = .ok (.newarray .int, 2) := by decide +kernel
theorem dX2_init_17 : decode cX2_init 17 = .ok (.putfield 15, 3) := by decide +kernel
theorem dX2_init_20 : decode cX2_init 20 = .ok (.aload_n 0, 1) := by decide +kernel
theorem dX2_init_21 : decode cX2_init 21 = .ok (.bipush 6, 2) := by decide +kernel
theorem dX2_init_23 : decode cX2_init 23 = .ok (.newarray .int, 2) := by decide +kernel
theorem dX2_init_25 : decode cX2_init 25 = .ok (.putfield 18, 3) := by decide +kernel
theorem dX2_init_28 : decode cX2_init 28 = .ok (.aload_n 0, 1) := by decide +kernel
theorem dX2_init_29 : decode cX2_init 29 = .ok (.iconst 0, 1) := by decide +kernel
theorem dX2_init_30 : decode cX2_init 30 = .ok (.putfield 21, 3) := by decide +kernel
theorem dX2_init_33 : decode cX2_init 33 = .ok (.return_, 1) := by decide +kernel
set_option maxRecDepth 20000 in
theorem ggX2_leftToCommute_X9_isCounty : GoodIn wsX2_leftToCommute wsX9_isCounty := goodIn_r _ [5, 6, 7, 4, 8] (by decide +kernel) (by decide +kernel)
set_option maxRecDepth 20000 in
theorem gX2_leftToCommute_X9_isCounty_n25 : GoodIn wsX2_leftToCommute (wsX9_isCounty) := ggX2_leftToCommute_X9_isCounty
theorem dX2_leftToCommute_0 : decode cX2_leftToCommute 0 = .ok (.iload_n 1, 1) := by decide +kernel
theorem dX2_leftToCommute_1 : decode cX2_leftToCommute 1 = .ok (.invokestatic 25, 3) := by decide +kernel
theorem dX2_leftToCommute_4 : decode cX2_leftToCommute 4 = .ok (.ifCond .eq 19, 3) := by decide +kernel
theorem dX2_leftToCommute_7 : decode cX2_leftToCommute 7 = .ok (.aload_n 0, 1) := by decide +kernel
theorem dX2_leftToCommute_8 : decode cX2_leftToCommute 8 = .ok (.getfield 9, 3) := by decide +kernel
theorem dX2_leftToCommute_11 : decode cX2_leftToCommute 11 = .ok (.iload_n 1, 1) := by decide +kernel
theorem dX2_leftToCommute_12 : decode cX2_leftToCommute 12 = .ok (.iaload, 1) := by decide +kernel
theorem dX2_leftToCommute_13 : decode cX2_leftToCommute 13 = .ok (.aload_n 0, 1) := by decide +kernel
theorem dX2_leftToCommute_14 : decode cX2_leftToCommute 14 = .ok (.getfield 15, 3) := by decide +kernel
theorem dX2_leftToCommute_17 : decode cX2_leftToCommute 17 = .ok (.iload_n 1, 1) := by decide +kernel
theorem dX2_leftToCommute_18 : decode cX2_leftToCommute 18 = .ok (.iaload, 1) := by decide +kernel
theorem dX2_leftToCommute_19 : decode cX2_leftToCommute 19 = .ok (.isub, 1) := by decide +kernel
theorem dX2_leftToCommute_20 : decode cX2_leftToCommute 20 = .ok (.goto 4, 3) := by decide +kernel
theorem dX2_leftToCommute_23 : decode cX2_leftToCommute 23 = .ok (.iconst 0, 1) := by decide +kernel
theorem dX2_leftToCommute_24 : decode cX2_leftToCommute 24 = .ok (.ireturn, 1) := by decide +kernel
set_option maxRecDepth 20000 in
theorem ggX2_payFor_X9_isCounty : GoodIn wsX2_payFor wsX9_isCounty := goodIn_r _ [6, 7, 8, 5, 9] (by decide +kernel) (by decide +kernel)
set_option maxRecDepth 20000 in
theorem gX2_payFor_X9_isCounty_n25 : GoodIn wsX2_payFor (wsX9_isCounty) := ggX2_payFor_X9_isCounty
theorem dX2_payFor_0 : decode cX2_payFor 0 = .ok (.iload_n 2, 1) := by decide +kernel
theorem dX2_payFor_1 : decode cX2_payFor 1 = .ok (.aload_n 0, 1) := by decide +kernel
theorem dX2_payFor_2 : decode cX2_payFor 2 = .ok (.getfield 21, 3) := by decide +kernel
theorem dX2_payFor_5 : decode cX2_payFor 5 = .ok (.imul, 1) := by decide +kernel
theorem dX2_payFor_6 : decode cX2_payFor 6 = .ok (.istore_n 3, 1) := by decide +kernel
theorem dX2_payFor_7 : decode cX2_payFor 7 = .ok (.iload_n 1, 1) := by decide +kernel
theorem dX2_payFor_8 : decode cX2_payFor 8 = .ok (.invokestatic 25, 3) := by decide +kernel
theorem dX2_payFor_11 : decode cX2_payFor 11 = .ok (.ifCond .eq 23, 3) := by decide +kernel
theorem dX2_payFor_14 : decode cX2_payFor 14 = .ok (.aload_n 0, 1) := by decide +kernel
theorem dX2_payFor_15 : decode cX2_payFor 15 = .ok (.getfield 15, 3) := by decide +kernel
theorem dX2_payFor_18 : decode cX2_payFor 18 = .ok (.iload_n 1, 1) := by decide +kernel
theorem dX2_payFor_19 : decode cX2_payFor 19 = .ok (.dup2, 1) := by decide +kernel
theorem dX2_payFor_20 : decode cX2_payFor 20 = .ok (.iaload, 1) := by decide +kernel
theorem dX2_payFor_21 : decode cX2_payFor 21 = .ok (.iload_n 2, 1) := by decide +kernel
theorem dX2_payFor_22 : decode cX2_payFor 22 = .ok (.iadd, 1) := by decide +kernel
theorem dX2_payFor_23 : decode cX2_payFor 23 = .ok (.iastore, 1) := by decide +kernel
theorem dX2_payFor_24 : decode cX2_payFor 24 = .ok (.aload_n 0, 1) := by decide +kernel
theorem dX2_payFor_25 : decode cX2_payFor 25 = .ok (.getfield 18, 3) := by decide +kernel
theorem dX2_payFor_28 : decode cX2_payFor 28 = .ok (.iload_n 1, 1) := by decide +kernel
theorem dX2_payFor_29 : decode cX2_payFor 29 = .ok (.dup2, 1) := by decide +kernel
theorem dX2_payFor_30 : decode cX2_payFor 30 = .ok (.iaload, 1) := by decide +kernel
theorem dX2_payFor_31 : decode cX2_payFor 31 = .ok (.iload_n 3, 1) := by decide +kernel
theorem dX2_payFor_32 : decode cX2_payFor 32 = .ok (.iadd, 1) := by decide +kernel
theorem dX2_payFor_33 : decode cX2_payFor 33 = .ok (.iastore, 1) := by decide +kernel
theorem dX2_payFor_34 : decode cX2_payFor 34 = .ok (.iload_n 3, 1) := by decide +kernel
theorem dX2_payFor_35 : decode cX2_payFor 35 = .ok (.ireturn, 1) := by decide +kernel
theorem dX3_init_0 : decode cX3_init 0 = .ok (.aload_n 0, 1) := by decide +kernel
theorem dX3_init_1 : decode cX3_init 1 = .ok (.invokespecial 3, 3) := by decide +kernel
theorem dX3_init_4 : decode cX3_init 4 = .ok (.aload_n 0, 1) := by decide +kernel
theorem dX3_init_5 : decode cX3_init 5 = .ok (.bipush 12, 2) := by decide +kernel
theorem dX3_init_7 : decode cX3_init 7 = .ok (.anewarray 11, 3) := by decide +kernel
theorem dX3_init_10 : decode cX3_init 10 = .ok (.putfield 13, 3) := by decide +kernel
theorem dX3_init_13 : decode cX3_init 13 = .ok (.aload_n 0, 1) := by decide +kernel
theorem dX3_init_14 : decode cX3_init 14 = .ok (.bipush 12, 2) := by decide +kernel
theorem dX3_init_16 : decode cX3_init 16 = .ok (.newarray .int, 2) := by decide +kernel
theorem dX3_init_18 : decode cX3_init 18 = .ok (.putfield 17, 3) := by decide +kernel
theorem dX3_init_21 : decode cX3_init 21 = .ok (.aload_n 0, 1) := by decide +kernel
theorem dX3_init_22 : decode cX3_init 22 = .ok (.iconst 0, 1) := by decide +kernel
theorem dX3_init_23 : decode cX3_init 23 = .ok (.putfield 21, 3) := by decide +kernel
theorem dX3_init_26 : decode cX3_init 26 = .ok (.return_, 1) := by decide +kernel
theorem dX3_isFull_0 : decode cX3_isFull 0 = .ok (.aload_n 0, 1) := by decide +kernel
theorem dX3_isFull_1 : decode cX3_isFull 1 = .ok (.getfield 21, 3) := by decide +kernel
theorem dX3_isFull_4 : decode cX3_isFull 4 = .ok (.bipush 12, 2) := by decide +kernel
theorem dX3_isFull_6 : decode cX3_isFull 6 = .ok (.if_icmp .lt 7, 3) := by decide +kernel
theorem dX3_isFull_9 : decode cX3_isFull 9 = .ok (.iconst 1, 1) := by decide +kernel
theorem dX3_isFull_10 : decode cX3_isFull 10 = .ok (.goto 4, 3) := by decide +kernel
theorem dX3_isFull_13 : decode cX3_isFull 13 = .ok (.iconst 0, 1) := by decide +kernel
theorem dX3_isFull_14 : decode cX3_isFull 14 = .ok (.ireturn, 1) := by decide +kernel
set_option maxRecDepth 20000 in
theorem ggX3_add_X3_isFull : GoodIn wsX3_add wsX3_isFull := goodIn_r _ [7, 2, 8, 9, 10] (by decide +kernel) (by decide +kernel)
set_option maxRecDepth 20000 in
theorem gX3_add_X3_isFull : GoodIn wsX3_add (wsV RX3 25 RX3 yX3_isFull wsX3_isFull) := goodIn_app (goodIn_of _ (by decide +kernel)) ggX3_add_X3_isFull
theorem dX3_add_0 : decode cX3_add 0 = .ok (.aload_n 0, 1) := by decide +kernel
theorem dX3_add_1 : decode cX3_add 1 = .ok (.invokevirtual 25, 3) := by decide +kernel
theorem dX3_add_4 : decode cX3_add 4 = .ok (.ifCond .eq 5, 3) := by decide +kernel
theorem dX3_add_7 : decode cX3_add 7 = .ok (.iconst (-1), 1) := by decide +kernel
theorem dX3_add_8 : decode cX3_add 8 = .ok (.ireturn, 1) := by decide +kernel
theorem dX3_add_9 : decode cX3_add 9 = .ok (.aload_n 0, 1) := by decide +kernel
theorem dX3_add_10 : decode cX3_add 10 = .ok (.getfield 13, 3) := by decide +kernel
theorem dX3_add_13 : decode cX3_add 13 = .ok (.aload_n 0, 1) := by decide +kernel
theorem dX3_add_14 : decode cX3_add 14 = .ok (.getfield 21, 3) := by decide +kernel
theorem dX3_add_17 : decode cX3_add 17 = .ok (.aload_n 1, 1) := by decide +kernel
theorem dX3_add_18 : decode cX3_add 18 = .ok (.aastore, 1) := by decide +kernel
theorem dX3_add_19 : decode cX3_add 19 = .ok (.aload_n 0, 1) := by decide +kernel
theorem dX3_add_20 : decode cX3_add 20 = .ok (.dup, 1) := by decide +kernel
theorem dX3_add_21 : decode cX3_add 21 = .ok (.getfield 21, 3) := by decide +kernel
theorem dX3_add_24 : decode cX3_add 24 = .ok (.iconst 1, 1) := by decide +kernel
theorem dX3_add_25 : decode cX3_add 25 = .ok (.iadd, 1) := by decide +kernel
theorem dX3_add_26 : decode cX3_add 26 = .ok (.putfield 21, 3) := by decide +kernel
theorem dX3_add_29 : decode cX3_add 29 = .ok (.aload_n 0, 1) := by decide +kernel
theorem dX3_add_30 : decode cX3_add 30 = .ok (.getfield 21, 3) := by decide +kernel
theorem dX3_add_33 : decode cX3_add 33 = .ok (.iconst 1, 1) := by decide +kernel
theorem dX3_add_34 : decode cX3_add 34 = .ok (.isub, 1) := by decide +kernel
theorem dX3_add_35 : decode cX3_add 35 = .ok (.ireturn, 1) := by decide +kernel
set_option maxRecDepth 20000 in
theorem ggX3_find_X9_isPlace : GoodIn wsX3_find wsX9_isPlace := goodIn_r _ [5] (by decide +kernel) (by decide +kernel)
set_option maxRecDepth 20000 in
theorem gX3_find_X9_isPlace_n29 : GoodIn wsX3_find (wsX9_isPlace) := ggX3_find_X9_isPlace
theorem dX3_find_0 : decode cX3_find 0 = .ok (.iload_n 1, 1) := by decide +kernel
theorem dX3_find_1 : decode cX3_find 1 = .ok (.aload_n 0, 1) := by decide +kernel
theorem dX3_find_2 : decode cX3_find 2 = .ok (.getfield 21, 3) := by decide +kernel
theorem dX3_find_5 : decode cX3_find 5 = .ok (.invokestatic 29, 3) := by decide +kernel
theorem dX3_find_8 : decode cX3_find 8 = .ok (.ifCond .eq 12, 3) := by decide +kernel
theorem dX3_find_11 : decode cX3_find 11 = .ok (.aload_n 0, 1) := by decide +kernel
theorem dX3_find_12 : decode cX3_find 12 = .ok (.getfield 13, 3) := by decide +kernel
theorem dX3_find_15 : decode cX3_find 15 = .ok (.iload_n 1, 1) := by decide +kernel
theorem dX3_find_16 : decode cX3_find 16 = .ok (.aaload, 1) := by decide +kernel
theorem dX3_find_17 : decode cX3_find 17 = .ok (.goto 4, 3) := by decide +kernel
theorem dX3_find_20 : decode cX3_find 20 = .ok (.aconst_null, 1) := by decide +kernel
theorem dX3_find_21 : decode cX3_find 21 = .ok (.areturn, 1) := by decide +kernel
theorem dX3_hasAll_0 : decode cX3_hasAll 0 = .ok (.iload_n 1, 1) := by decide +kernel
theorem dX3_hasAll_1 : decode cX3_hasAll 1 = .ok (.aload_n 0, 1) := by decide +kernel
theorem dX3_hasAll_2 : decode cX3_hasAll 2 = .ok (.getfield 21, 3) := by decide +kernel
theorem dX3_hasAll_5 : decode cX3_hasAll 5 = .ok (.iushr, 1) := by decide +kernel
theorem dX3_hasAll_6 : decode cX3_hasAll 6 = .ok (.ifCond .ne 7, 3) := by decide +kernel
theorem dX3_hasAll_9 : decode cX3_hasAll 9 = .ok (.iconst 1, 1) := by decide +kernel
theorem dX3_hasAll_10 : decode cX3_hasAll 10 = .ok (.goto 4, 3) := by decide +kernel
theorem dX3_hasAll_13 : decode cX3_hasAll 13 = .ok (.iconst 0, 1) := by decide +kernel
theorem dX3_hasAll_14 : decode cX3_hasAll 14 = .ok (.ireturn, 1) := by decide +kernel
set_option maxRecDepth 20000 in
theorem ggX3_inLine_X9_isPlace : GoodIn wsX3_inLine wsX9_isPlace := goodIn_r _ [4] (by decide +kernel) (by decide +kernel)
set_option maxRecDepth 20000 in
theorem gX3_inLine_X9_isPlace_n29 : GoodIn wsX3_inLine (wsX9_isPlace) := ggX3_inLine_X9_isPlace
set_option maxRecDepth 20000 in
theorem ggX3_inLine_X3_find : GoodIn wsX3_inLine wsX3_find := goodIn_r _ [9, 10, 11, 2, 3, 4, 12, 13, 14] (by decide +kernel) (by decide +kernel)
set_option maxRecDepth 20000 in
theorem gX3_inLine_X3_find : GoodIn wsX3_inLine (wsV RX3 33 RX3 yX3_find wsX3_find) := goodIn_app (goodIn_of _ (by decide +kernel)) ggX3_inLine_X3_find
theorem dX3_inLine_0 : decode cX3_inLine 0 = .ok (.iload_n 1, 1) := by decide +kernel
theorem dX3_inLine_1 : decode cX3_inLine 1 = .ok (.bipush 12, 2) := by decide +kernel
theorem dX3_inLine_3 : decode cX3_inLine 3 = .ok (.invokestatic 29, 3) := by decide +kernel
theorem dX3_inLine_6 : decode cX3_inLine 6 = .ok (.ifCond .eq 16, 3) := by decide +kernel
theorem dX3_inLine_9 : decode cX3_inLine 9 = .ok (.aload_n 0, 1) := by decide +kernel
theorem dX3_inLine_10 : decode cX3_inLine 10 = .ok (.aload_n 0, 1) := by decide +kernel
theorem dX3_inLine_11 : decode cX3_inLine 11 = .ok (.getfield 17, 3) := by decide +kernel
theorem dX3_inLine_14 : decode cX3_inLine 14 = .ok (.iload_n 1, 1) := by decide +kernel
theorem dX3_inLine_15 : decode cX3_inLine 15 = .ok (.iaload, 1) := by decide +kernel
theorem dX3_inLine_16 : decode cX3_inLine 16 = .ok (.invokevirtual 33, 3) := by decide +kernel
theorem dX3_inLine_19 : decode cX3_inLine 19 = .ok (.goto 4, 3) := by decide +kernel
theorem dX3_inLine_22 : decode cX3_inLine 22 = .ok (.aconst_null, 1) := by decide +kernel
theorem dX3_inLine_23 : decode cX3_inLine 23 = .ok (.areturn, 1) := by decide +kernel
set_option maxRecDepth 20000 in
theorem ggX3_beginDay_X3_find : GoodIn wsX3_beginDay wsX3_find := goodIn_r _ [6, 1, 7, 8, 9, 10, 24, 25, 26] (by decide +kernel) (by decide +kernel)
set_option maxRecDepth 20000 in
theorem gX3_beginDay_X3_find : GoodIn wsX3_beginDay (wsV RX3 33 RX3 yX3_find wsX3_find) := goodIn_app (goodIn_of _ (by decide +kernel)) ggX3_beginDay_X3_find
set_option maxRecDepth 20000 in
theorem ggX3_beginDay_X6_beginDay : GoodIn wsX3_beginDay wsX6_beginDay := goodIn_r _ [15, 16, 17, 18, 19, 20, 21, 14, 22, 23, 8, 9, 10, 27, 28, 29, 30, 31, 32, 33, 34, 35, 36, 37, 38] (by decide +kernel) (by decide +kernel)
set_option maxRecDepth 20000 in
theorem gX3_beginDay_X6_beginDay : GoodIn wsX3_beginDay (wsV RX3 37 RX6 yX6_beginDay wsX6_beginDay) := goodIn_app (goodIn_of _ (by decide +kernel)) ggX3_beginDay_X6_beginDay
theorem dX3_beginDay_0 : decode cX3_beginDay 0 = .ok (.iconst 0, 1) := by decide +kernel
theorem dX3_beginDay_1 : decode cX3_beginDay 1 = .ok (.istore_n 1, 1) := by decide +kernel
theorem dX3_beginDay_2 : decode cX3_beginDay 2 = .ok (.iload_n 1, 1) := by decide +kernel
theorem dX3_beginDay_3 : decode cX3_beginDay 3 = .ok (.aload_n 0, 1) := by decide +kernel
theorem dX3_beginDay_4 : decode cX3_beginDay 4 = .ok (.getfield 21, 3) := by decide +kernel
theorem dX3_beginDay_7 : decode cX3_beginDay 7 = .ok (.if_icmp .ge 23, 3) := by decide +kernel
theorem dX3_beginDay_10 : decode cX3_beginDay 10 = .ok (.aload_n 0, 1) := by decide +kernel
theorem dX3_beginDay_11 : decode cX3_beginDay 11 = .ok (.iload_n 1, 1) := by decide +kernel
theorem dX3_beginDay_12 : decode cX3_beginDay 12 = .ok (.invokevirtual 33, 3) := by decide +kernel
theorem dX3_beginDay_15 : decode cX3_beginDay 15 = .ok (.astore_n 2, 1) := by decide +kernel
theorem dX3_beginDay_16 : decode cX3_beginDay 16 = .ok (.aload_n 2, 1) := by decide +kernel
theorem dX3_beginDay_17 : decode cX3_beginDay 17 = .ok (.ifnull 7, 3) := by decide +kernel
theorem dX3_beginDay_20 : decode cX3_beginDay 20 = .ok (.aload_n 2, 1) := by decide +kernel
theorem dX3_beginDay_21 : decode cX3_beginDay 21 = .ok (.invokevirtual 37, 3) := by decide +kernel
theorem dX3_beginDay_24 : decode cX3_beginDay 24 = .ok (.iinc 1 1, 3) := by decide +kernel
theorem dX3_beginDay_27 : decode cX3_beginDay 27 = .ok (.goto (-25), 3) := by decide +kernel
theorem dX3_beginDay_30 : decode cX3_beginDay 30 = .ok (.return_, 1) := by decide +kernel
set_option maxRecDepth 20000 in
theorem ggX3_lineUp_X3_isAhead : GoodIn wsX3_lineUp wsX3_isAhead := goodIn_r _ [7, 8, 9, 10, 11, 12, 6, 13, 1, 14, 15, 16, 17, 21, 22, 23, 24, 25, 26, 27, 28, 29, 30, 31, 32, 18, 19, 20] (by decide +kernel) (by decide +kernel)
set_option maxRecDepth 20000 in
theorem gX3_lineUp_X3_isAhead : GoodIn wsX3_lineUp (wsV RX3 40 RX3 yX3_isAhead wsX3_isAhead) := goodIn_app (goodIn_of _ (by decide +kernel)) ggX3_lineUp_X3_isAhead
theorem dX3_lineUp_0 : decode cX3_lineUp 0 = .ok (.iconst 0, 1) := by decide +kernel
theorem dX3_lineUp_1 : decode cX3_lineUp 1 = .ok (.istore_n 2, 1) := by decide +kernel
theorem dX3_lineUp_2 : decode cX3_lineUp 2 = .ok (.iload_n 2, 1) := by decide +kernel
theorem dX3_lineUp_3 : decode cX3_lineUp 3 = .ok (.aload_n 0, 1) := by decide +kernel
theorem dX3_lineUp_4 : decode cX3_lineUp 4 = .ok (.getfield 21, 3) := by decide +kernel
theorem dX3_lineUp_7 : decode cX3_lineUp 7 = .ok (.if_icmp .ge 59, 3) := by decide +kernel
theorem dX3_lineUp_10 : decode cX3_lineUp 10 = .ok (.iload_n 2, 1) := by decide +kernel
theorem dX3_lineUp_11 : decode cX3_lineUp 11 = .ok (.istore_n 3, 1) := by decide +kernel
theorem dX3_lineUp_12 : decode cX3_lineUp 12 = .ok (.iload_n 3, 1) := by decide +kernel
theorem dX3_lineUp_13 : decode cX3_lineUp 13 = .ok (.ifCond .le 40, 3) := by decide +kernel
theorem dX3_lineUp_16 : decode cX3_lineUp 16 = .ok (.aload_n 0, 1) := by decide +kernel
theorem dX3_lineUp_17 : decode cX3_lineUp 17 = .ok (.iload_n 2, 1) := by decide +kernel
theorem dX3_lineUp_18 : decode cX3_lineUp 18 = .ok (.aload_n 0, 1) := by decide +kernel
theorem dX3_lineUp_19 : decode cX3_lineUp 19 = .ok (.getfield 17, 3) := by decide +kernel
theorem dX3_lineUp_22 : decode cX3_lineUp 22 = .ok (.iload_n 3, 1) := by decide +kernel
theorem dX3_lineUp_23 : decode cX3_lineUp 23 = .ok (.iconst 1, 1) := by decide +kernel
theorem dX3_lineUp_24 : decode cX3_lineUp 24 = .ok (.isub, 1) := by decide +kernel
theorem dX3_lineUp_25 : decode cX3_lineUp 25 = .ok (.iaload, 1) := by decide +kernel
theorem dX3_lineUp_26 : decode cX3_lineUp 26 = .ok (.iload_n 1, 1) := by decide +kernel
theorem dX3_lineUp_27 : decode cX3_lineUp 27 = .ok (.invokevirtual 40, 3) := by decide +kernel
theorem dX3_lineUp_30 : decode cX3_lineUp 30 = .ok (.ifCond .eq 23, 3) := by decide +kernel
theorem dX3_lineUp_33 : decode cX3_lineUp 33 = .ok (.aload_n 0, 1) := by decide +kernel
theorem dX3_lineUp_34 : decode cX3_lineUp 34 = .ok (.getfield 17, 3) := by decide +kernel
theorem dX3_lineUp_37 : decode cX3_lineUp 37 = .ok (.iload_n 3, 1) := by decide +kernel
theorem dX3_lineUp_38 : decode cX3_lineUp 38 = .ok (.aload_n 0, 1) := by decide +kernel
theorem dX3_lineUp_39 : decode cX3_lineUp 39 = .ok (.getfield 17, 3) := by decide +kernel
theorem dX3_lineUp_42 : decode cX3_lineUp 42 = .ok (.iload_n 3, 1) := by decide +kernel
theorem dX3_lineUp_43 : decode cX3_lineUp 43 = .ok (.iconst 1, 1) := by decide +kernel
theorem dX3_lineUp_44 : decode cX3_lineUp 44 = .ok (.isub, 1) := by decide +kernel
theorem dX3_lineUp_45 : decode cX3_lineUp 45 = .ok (.iaload, 1) := by decide +kernel
theorem dX3_lineUp_46 : decode cX3_lineUp 46 = .ok (.iastore, 1) := by decide +kernel
theorem dX3_lineUp_47 : decode cX3_lineUp 47 = .ok (.iinc 3 (-1), 3) := by decide +kernel
theorem dX3_lineUp_50 : decode cX3_lineUp 50 = .ok (.goto (-38), 3) := by decide +kernel
theorem dX3_lineUp_53 : decode cX3_lineUp 53 = .ok (.aload_n 0, 1) := by decide +kernel
theorem dX3_lineUp_54 : decode cX3_lineUp 54 = .ok (.getfield 17, 3) := by decide +kernel
theorem dX3_lineUp_57 : decode cX3_lineUp 57 = .ok (.iload_n 3, 1) := by decide +kernel
theorem dX3_lineUp_58 : decode cX3_lineUp 58 = .ok (.iload_n 2, 1) := by decide +kernel
theorem dX3_lineUp_59 : decode cX3_lineUp 59 = .ok (.iastore, 1) := by decide +kernel
theorem dX3_lineUp_60 : decode cX3_lineUp 60 = .ok (.iinc 2 1, 3) := by decide +kernel
theorem dX3_lineUp_63 : decode cX3_lineUp 63 = .ok (.goto (-61), 3) := by decide +kernel
theorem dX3_lineUp_66 : decode cX3_lineUp 66 = .ok (.return_, 1) := by decide +kernel
set_option maxRecDepth 20000 in
theorem ggX3_isAhead_X3_find : GoodIn wsX3_isAhead wsX3_find := goodIn_r _ [7, 8, 9, 10, 11, 12, 25, 26, 27] (by decide +kernel) (by decide +kernel)
set_option maxRecDepth 20000 in
theorem gX3_isAhead_X3_find : GoodIn wsX3_isAhead (wsV RX3 33 RX3 yX3_find wsX3_find) := goodIn_app (goodIn_of _ (by decide +kernel)) ggX3_isAhead_X3_find
theorem dX3_isAhead_0 : decode cX3_isAhead 0 = .ok (.aload_n 0, 1) := by decide +kernel
theorem dX3_isAhead_1 : decode cX3_isAhead 1 = .ok (.iload_n 1, 1) := by decide +kernel
theorem dX3_isAhead_2 : decode cX3_isAhead 2 = .ok (.invokevirtual 33, 3) := by decide +kernel
theorem dX3_isAhead_5 : decode cX3_isAhead 5 = .ok (.astore 4, 2) := by decide +kernel
theorem dX3_isAhead_7 : decode cX3_isAhead 7 = .ok (.aload_n 0, 1) := by decide +kernel
theorem dX3_isAhead_8 : decode cX3_isAhead 8 = .ok (.iload_n 2, 1) := by decide +kernel
theorem dX3_isAhead_9 : decode cX3_isAhead 9 = .ok (.invokevirtual 33, 3) := by decide +kernel
theorem dX3_isAhead_12 : decode cX3_isAhead 12 = .ok (.astore 5, 2) := by decide +kernel
theorem dX3_isAhead_14 : decode cX3_isAhead 14 = .ok (.aload 4, 2) := by decide +kernel
theorem dX3_isAhead_16 : decode cX3_isAhead 16 = .ok (.ifnull 8, 3) := by decide +kernel
theorem dX3_isAhead_19 : decode cX3_isAhead 19 = .ok (.aload 5, 2) := by decide +kernel
theorem dX3_isAhead_21 : decode cX3_isAhead 21 = .ok (.ifnonnull 5, 3) := by decide +kernel
theorem dX3_isAhead_24 : decode cX3_isAhead 24 = .ok (.iconst 0, 1) := by decide +kernel
theorem dX3_isAhead_25 : decode cX3_isAhead 25 = .ok (.ireturn, 1) := by decide +kernel
theorem dX3_isAhead_26 : decode cX3_isAhead 26 = .ok (.iload_n 3, 1) := by decide +kernel
theorem dX3_isAhead_27 : decode cX3_isAhead 27 = .ok (.ifCond .ne 22, 3) := by decide +kernel
theorem dX3_isAhead_30 : decode cX3_isAhead 30 = .ok (.aload 4, 2) := by decide +kernel
theorem dX3_isAhead_32 : decode cX3_isAhead 32 = .ok (.getfield 44, 3) := by decide +kernel
theorem dX3_isAhead_35 : decode cX3_isAhead 35 = .ok (.aload 5, 2) := by decide +kernel
theorem dX3_isAhead_37 : decode cX3_isAhead 37 = .ok (.getfield 44, 3) := by decide +kernel
theorem dX3_isAhead_40 : decode cX3_isAhead 40 = .ok (.if_icmp .ge 7, 3) := by decide +kernel
theorem dX3_isAhead_43 : decode cX3_isAhead 43 = .ok (.iconst 1, 1) := by decide +kernel
theorem dX3_isAhead_44 : decode cX3_isAhead 44 = .ok (.goto 4, 3) := by decide +kernel
theorem dX3_isAhead_47 : decode cX3_isAhead 47 = .ok (.iconst 0, 1) := by decide +kernel
theorem dX3_isAhead_48 : decode cX3_isAhead 48 = .ok (.ireturn, 1) := by decide +kernel
theorem dX3_isAhead_49 : decode cX3_isAhead 49 = .ok (.iload_n 3, 1) := by decide +kernel
theorem dX3_isAhead_50 : decode cX3_isAhead 50 = .ok (.iconst 1, 1) := by decide +kernel
theorem dX3_isAhead_51 : decode cX3_isAhead 51 = .ok (.if_icmp .ne 20, 3) := by decide +kernel
theorem dX3_isAhead_54 : decode cX3_isAhead 54 = .ok (.aload 4, 2) := by decide +kernel
theorem dX3_isAhead_56 : decode cX3_isAhead 56 = .ok (.getfield 47, 3) := by decide +kernel
theorem dX3_isAhead_59 : decode cX3_isAhead 59 = .ok (.aload 5, 2) := by decide +kernel
theorem dX3_isAhead_61 : decode cX3_isAhead 61 = .ok (.getfield 47, 3) := by decide +kernel
theorem dX3_isAhead_64 : decode cX3_isAhead 64 = .ok (.if_icmp .le 7, 3) := by decide +kernel
theorem dX3_isAhead_67 : decode cX3_isAhead 67 = .ok (.iconst 1, 1) := by decide +kernel
theorem dX3_isAhead_68 : decode cX3_isAhead 68 = .ok (.goto 4, 3) := by decide +kernel
theorem dX3_isAhead_71 : decode cX3_isAhead 71 = .ok (.iconst 0, 1) := by decide +kernel
theorem dX3_isAhead_72 : decode cX3_isAhead 72 = .ok (.ireturn, 1) := by decide +kernel
set_option maxRecDepth 20000 in
theorem ggX3_boatsIn_X3_find : GoodIn wsX3_boatsIn wsX3_find := goodIn_r _ [8, 1, 9, 10, 11, 12, 13, 14, 15] (by decide +kernel) (by decide +kernel)
set_option maxRecDepth 20000 in
theorem gX3_boatsIn_X3_find : GoodIn wsX3_boatsIn (wsV RX3 33 RX3 yX3_find wsX3_find) := goodIn_app (goodIn_of _ (by decide +kernel)) ggX3_boatsIn_X3_find
theorem dX3_boatsIn_0 : decode cX3_boatsIn 0 = .ok (.iconst 0, 1) := by decide +kernel
theorem dX3_boatsIn_1 : decode cX3_boatsIn 1 = .ok (.istore_n 2, 1) := by decide +kernel
theorem dX3_boatsIn_2 : decode cX3_boatsIn 2 = .ok (.iconst 0, 1) := by decide +kernel
theorem dX3_boatsIn_3 : decode cX3_boatsIn 3 = .ok (.istore_n 3, 1) := by decide +kernel
theorem dX3_boatsIn_4 : decode cX3_boatsIn 4 = .ok (.iload_n 3, 1) := by decide +kernel
theorem dX3_boatsIn_5 : decode cX3_boatsIn 5 = .ok (.aload_n 0, 1) := by decide +kernel
theorem dX3_boatsIn_6 : decode cX3_boatsIn 6 = .ok (.getfield 21, 3) := by decide +kernel
theorem dX3_boatsIn_9 : decode cX3_boatsIn 9 = .ok (.if_icmp .ge 38, 3) := by decide +kernel
theorem dX3_boatsIn_12 : decode cX3_boatsIn 12 = .ok (.aload_n 0, 1) := by decide +kernel
theorem dX3_boatsIn_13 : decode cX3_boatsIn 13 = .ok (.iload_n 3, 1) := by decide +kernel
theorem dX3_boatsIn_14 : decode cX3_boatsIn 14 = .ok (.invokevirtual 33, 3) := by decide +kernel
theorem dX3_boatsIn_17 : decode cX3_boatsIn 17 = .ok (.astore 4, 2) := by decide +kernel
theorem dX3_boatsIn_19 : decode cX3_boatsIn 19 = .ok (.aload 4, 2) := by decide +kernel
theorem dX3_boatsIn_21 : decode cX3_boatsIn 21 = .ok (.ifnull 20, 3) := by decide +kernel
theorem dX3_boatsIn_24 : decode cX3_boatsIn 24 = .ok (.aload 4, 2) := by decide +kernel
theorem dX3_boatsIn_26 : decode cX3_boatsIn 26 = .ok (.getfield 50, 3) := by decide +kernel
theorem dX3_boatsIn_29 : decode cX3_boatsIn 29 = .ok (.iload_n 1, 1) := by decide +kernel
theorem dX3_boatsIn_30 : decode cX3_boatsIn 30 = .ok (.if_icmp .ne 11, 3) := by decide +kernel
theorem dX3_boatsIn_33 : decode cX3_boatsIn 33 = .ok (.iload_n 2, 1) := by decide +kernel
theorem dX3_boatsIn_34 : decode cX3_boatsIn 34 = .ok (.aload 4, 2) := by decide +kernel
theorem dX3_boatsIn_36 : decode cX3_boatsIn 36 = .ok (.getfield 47, 3) := by decide +kernel
theorem dX3_boatsIn_39 : decode cX3_boatsIn 39 = .ok (.iadd, 1) := by decide +kernel
theorem dX3_boatsIn_40 : decode cX3_boatsIn 40 = .ok (.istore_n 2, 1) := by decide +kernel
theorem dX3_boatsIn_41 : decode cX3_boatsIn 41 = .ok (.iinc 3 1, 3) := by decide +kernel
theorem dX3_boatsIn_44 : decode cX3_boatsIn 44 = .ok (.goto (-40), 3) := by decide +kernel
theorem dX3_boatsIn_47 : decode cX3_boatsIn 47 = .ok (.iload_n 2, 1) := by decide +kernel
theorem dX3_boatsIn_48 : decode cX3_boatsIn 48 = .ok (.ireturn, 1) := by decide +kernel
set_option maxRecDepth 20000 in
theorem ggX3_bagsComeOf_X3_find : GoodIn wsX3_bagsComeOf wsX3_find := goodIn_r _ [7, 1, 8, 9, 10, 11, 24, 25, 26] (by decide +kernel) (by decide +kernel)
set_option maxRecDepth 20000 in
theorem gX3_bagsComeOf_X3_find : GoodIn wsX3_bagsComeOf (wsV RX3 33 RX3 yX3_find wsX3_find) := goodIn_app (goodIn_of _ (by decide +kernel)) ggX3_bagsComeOf_X3_find
set_option maxRecDepth 20000 in
theorem ggX3_bagsComeOf_X6_hasCome : GoodIn wsX3_bagsComeOf wsX6_hasCome := goodIn_r _ [16, 17, 27, 28, 29, 30, 31, 32, 33, 34, 35, 36, 37, 38] (by decide +kernel) (by decide +kernel)
set_option maxRecDepth 20000 in
theorem gX3_bagsComeOf_X6_hasCome : GoodIn wsX3_bagsComeOf (wsV RX3 53 RX6 yX6_hasCome wsX6_hasCome) := goodIn_app (goodIn_of _ (by decide +kernel)) ggX3_bagsComeOf_X6_hasCome
set_option maxRecDepth 20000 in
theorem ggX3_bagsComeOf_X6_bagsLeft : GoodIn wsX3_bagsComeOf wsX6_bagsLeft := goodIn_r _ [21, 22, 23, 27, 28, 29, 30, 31, 32, 33, 34, 35, 36, 37, 38] (by decide +kernel) (by decide +kernel)
set_option maxRecDepth 20000 in
theorem gX3_bagsComeOf_X6_bagsLeft : GoodIn wsX3_bagsComeOf (wsV RX3 56 RX6 yX6_bagsLeft wsX6_bagsLeft) := goodIn_app (goodIn_of _ (by decide +kernel)) ggX3_bagsComeOf_X6_bagsLeft
theorem dX3_bagsComeOf_0 : decode cX3_bagsComeOf 0 = .ok (.iconst 0, 1) := by decide +kernel
theorem dX3_bagsComeOf_1 : decode cX3_bagsComeOf 1 = .ok (.istore_n 2, 1) := by decide +kernel
theorem dX3_bagsComeOf_2 : decode cX3_bagsComeOf 2 = .ok (.iconst 0, 1) := by decide +kernel
theorem dX3_bagsComeOf_3 : decode cX3_bagsComeOf 3 = .ok (.istore_n 3, 1) := by decide +kernel
theorem dX3_bagsComeOf_4 : decode cX3_bagsComeOf 4 = .ok (.iload_n 3, 1) := by decide +kernel
theorem dX3_bagsComeOf_5 : decode cX3_bagsComeOf 5 = .ok (.aload_n 0, 1) := by decide +kernel
theorem dX3_bagsComeOf_6 : decode cX3_bagsComeOf 6 = .ok (.getfield 21, 3) := by decide +kernel
theorem dX3_bagsComeOf_9 : decode cX3_bagsComeOf 9 = .ok (.if_icmp .ge 46, 3) := by decide +kernel
theorem dX3_bagsComeOf_12 : decode cX3_bagsComeOf 12 = .ok (.aload_n 0, 1) := by decide +kernel
theorem dX3_bagsComeOf_13 : decode cX3_bagsComeOf 13 = .ok (.iload_n 3, 1) := by decide +kernel
theorem dX3_bagsComeOf_14 : decode cX3_bagsComeOf 14 = .ok (.invokevirtual 33, 3) := by decide +kernel
theorem dX3_bagsComeOf_17 : decode cX3_bagsComeOf 17 = .ok (.astore 4, 2) := by decide +kernel
theorem dX3_bagsComeOf_19 : decode cX3_bagsComeOf 19 = .ok (.aload 4, 2) := by decide +kernel
theorem dX3_bagsComeOf_21 : decode cX3_bagsComeOf 21 = .ok (.ifnull 28, 3) := by decide +kernel
theorem dX3_bagsComeOf_24 : decode cX3_bagsComeOf 24 = .ok (.aload 4, 2) := by decide +kernel
theorem dX3_bagsComeOf_26 : decode cX3_bagsComeOf 26 = .ok (.getfield 44, 3) := by decide +kernel
theorem dX3_bagsComeOf_29 : decode cX3_bagsComeOf 29 = .ok (.iload_n 1, 1) := by decide +kernel
theorem dX3_bagsComeOf_30 : decode cX3_bagsComeOf 30 = .ok (.if_icmp .ne 19, 3) := by decide +kernel
theorem dX3_bagsComeOf_33 : decode cX3_bagsComeOf 33 = .ok (.aload 4, 2) := by decide +kernel
theorem dX3_bagsComeOf_35 : decode cX3_bagsComeOf 35 = .ok (.invokevirtual 53, 3) := by decide +kernel
theorem dX3_bagsComeOf_38 : decode cX3_bagsComeOf 38 = .ok (.ifCond .eq 11, 3) := by decide +kernel
theorem dX3_bagsComeOf_41 : decode cX3_bagsComeOf 41 = .ok (.iload_n 2, 1) := by decide +kernel
theorem dX3_bagsComeOf_42 : decode cX3_bagsComeOf 42 = .ok (.aload 4, 2) := by decide +kernel
theorem dX3_bagsComeOf_44 : decode cX3_bagsComeOf 44 = .ok (.invokevirtual 56, 3) := by decide +kernel
theorem dX3_bagsComeOf_47 : decode cX3_bagsComeOf 47 = .ok (.iadd, 1) := by decide +kernel
theorem dX3_bagsComeOf_48 : decode cX3_bagsComeOf 48 = .ok (.istore_n 2, 1) := by decide +kernel
theorem dX3_bagsComeOf_49 : decode cX3_bagsComeOf 49 = .ok (.iinc 3 1, 3) := by decide +kernel
theorem dX3_bagsComeOf_52 : decode cX3_bagsComeOf 52 = .ok (.goto (-48), 3) := by decide +kernel
theorem dX3_bagsComeOf_55 : decode cX3_bagsComeOf 55 = .ok (.iload_n 2, 1) := by decide +kernel
theorem dX3_bagsComeOf_56 : decode cX3_bagsComeOf 56 = .ok (.ireturn, 1) := by decide +kernel
set_option maxRecDepth 20000 in
theorem ggX3_come_X3_find : GoodIn wsX3_come wsX3_find := goodIn_r _ [6, 1, 7, 8, 9, 10, 17, 18, 19] (by decide +kernel) (by decide +kernel)
set_option maxRecDepth 20000 in
theorem gX3_come_X3_find : GoodIn wsX3_come (wsV RX3 33 RX3 yX3_find wsX3_find) := goodIn_app (goodIn_of _ (by decide +kernel)) ggX3_come_X3_find
set_option maxRecDepth 20000 in
theorem ggX3_come_X6_hasCome : GoodIn wsX3_come wsX6_hasCome := goodIn_r _ [15, 16, 20, 21, 22, 23, 24, 25, 26, 27, 28, 29, 30, 31] (by decide +kernel) (by decide +kernel)
set_option maxRecDepth 20000 in
theorem gX3_come_X6_hasCome : GoodIn wsX3_come (wsV RX3 53 RX6 yX6_hasCome wsX6_hasCome) := goodIn_app (goodIn_of _ (by decide +kernel)) ggX3_come_X6_hasCome
theorem dX3_come_0 : decode cX3_come 0 = .ok (.iconst 0, 1) := by decide +kernel
theorem dX3_come_1 : decode cX3_come 1 = .ok (.istore_n 1, 1) := by decide +kernel
theorem dX3_come_2 : decode cX3_come 2 = .ok (.iconst 0, 1) := by decide +kernel
theorem dX3_come_3 : decode cX3_come 3 = .ok (.istore_n 2, 1) := by decide +kernel
theorem dX3_come_4 : decode cX3_come 4 = .ok (.iload_n 2, 1) := by decide +kernel
theorem dX3_come_5 : decode cX3_come 5 = .ok (.aload_n 0, 1) := by decide +kernel
theorem dX3_come_6 : decode cX3_come 6 = .ok (.getfield 21, 3) := by decide +kernel
theorem dX3_come_9 : decode cX3_come 9 = .ok (.if_icmp .ge 29, 3) := by decide +kernel
theorem dX3_come_12 : decode cX3_come 12 = .ok (.aload_n 0, 1) := by decide +kernel
theorem dX3_come_13 : decode cX3_come 13 = .ok (.iload_n 2, 1) := by decide +kernel
theorem dX3_come_14 : decode cX3_come 14 = .ok (.invokevirtual 33, 3) := by decide +kernel
theorem dX3_come_17 : decode cX3_come 17 = .ok (.astore_n 3, 1) := by decide +kernel
theorem dX3_come_18 : decode cX3_come 18 = .ok (.aload_n 3, 1) := by decide +kernel
theorem dX3_come_19 : decode cX3_come 19 = .ok (.ifnull 13, 3) := by decide +kernel
theorem dX3_come_22 : decode cX3_come 22 = .ok (.aload_n 3, 1) := by decide +kernel
theorem dX3_come_23 : decode cX3_come 23 = .ok (.invokevirtual 53, 3) := by decide +kernel
theorem dX3_come_26 : decode cX3_come 26 = .ok (.ifCond .eq 6, 3) := by decide +kernel
theorem dX3_come_29 : decode cX3_come 29 = .ok (.iinc 1 1, 3) := by decide +kernel
theorem dX3_come_32 : decode cX3_come 32 = .ok (.iinc 2 1, 3) := by decide +kernel
theorem dX3_come_35 : decode cX3_come 35 = .ok (.goto (-31), 3) := by decide +kernel
theorem dX3_come_38 : decode cX3_come 38 = .ok (.iload_n 1, 1) := by decide +kernel
theorem dX3_come_39 : decode cX3_come 39 = .ok (.ireturn, 1) := by decide +kernel
theorem dX4_init_0 : decode cX4_init 0 = .ok (.aload_n 0, 1) := by decide +kernel
theorem dX4_init_1 : decode cX4_init 1 = .ok (.invokespecial 3, 3) := by decide +kernel
theorem dX4_init_4 : decode cX4_init 4 = .ok (.aload_n 0, 1) := by decide +kernel
theorem dX4_init_5 : decode cX4_init 5 = .ok (.aload_n 1, 1) := by decide +kernel
theorem dX4_init_6 : decode cX4_init 6 = .ok (.putfield 9, 3) := by decide +kernel
theorem dX4_init_9 : decode cX4_init 9 = .ok (.aload_n 0, 1) := by decide +kernel
theorem dX4_init_10 : decode cX4_init 10 = .ok (.iconst 0, 1) := by decide +kernel
theorem dX4_init_11 : decode cX4_init 11 = .ok (.putfield 15, 3) := by decide +kernel
theorem dX4_init_14 : decode cX4_init 14 = .ok (.aload_n 0, 1) := by decide +kernel
theorem dX4_init_15 : decode cX4_init 15 = .ok (.iconst 0, 1) := by decide +kernel
theorem dX4_init_16 : decode cX4_init 16 = .ok (.putfield 19, 3) := by decide +kernel
theorem dX4_init_19 : decode cX4_init 19 = .ok (.aload_n 0, 1) := by decide +kernel
theorem dX4_init_20 : decode cX4_init 20 = .ok (.iconst 0, 1) := by decide +kernel
theorem dX4_init_21 : decode cX4_init 21 = .ok (.putfield 22, 3) := by decide +kernel
theorem dX4_init_24 : decode cX4_init 24 = .ok (.aload_n 0, 1) := by decide +kernel
theorem dX4_init_25 : decode cX4_init 25 = .ok (.iconst 0, 1) := by decide +kernel
theorem dX4_init_26 : decode cX4_init 26 = .ok (.putfield 25, 3) := by decide +kernel
theorem dX4_init_29 : decode cX4_init 29 = .ok (.return_, 1) := by decide +kernel
set_option maxRecDepth 20000 in
theorem ggX4_read_X4_step : GoodIn wsX4_read wsX4_step := goodIn_r _ [9, 2, 4, 1, 10, 3, 11, 12, 13, 14, 15, 16, 17, 18, 19, 8, 20, 21, 22, 23, 110, 111, 112, 113, 114, 115, 116] (by decide +kernel) (by decide +kernel)
set_option maxRecDepth 20000 in
theorem gX4_read_X4_step : GoodIn wsX4_read (wsV RX4 28 RX4 yX4_step wsX4_step) := goodIn_app (goodIn_of _ (by decide +kernel)) ggX4_read_X4_step
set_option maxRecDepth 20000 in
theorem ggX4_read_X4_takeStatement : GoodIn wsX4_read wsX4_takeStatement := goodIn_r _ [27, 28, 29, 30, 31, 32, 33, 8, 34, 3, 2, 4, 10, 35, 36, 37, 38, 39, 40, 41, 42, 43, 44, 45, 46, 11, 12, 13, 14, 15, 16, 17, 47, 48, 49, 50, 51, 52, 53, 54, 55, 56, 57, 58, 59, 60, 61, 62, 63, 64, 65, 66, 67, 68, 69, 70, 71, 72, 73, 74, 75, 76, 77, 78, 79, 80, 81, 82, 83, 84, 85, 86, 87, 88, 5, 6, 7, 9, 1, 18, 19, 20, 21, 22, 23, 89, 90, 91, 92, 93, 94, 95, 96, 97, 98, 99, 100, 101, 102, 103, 104, 105, 106, 107, 108, 109, 117, 118, 119, 120, 121, 122, 123, 110, 111, 112, 113, 114, 115, 116] (by decide +kernel) (by decide +kernel)
set_option maxRecDepth 20000 in
theorem gX4_read_X4_takeStatement : GoodIn wsX4_read (wsV RX4 31 RX4 yX4_takeStatement wsX4_takeStatement) := goodIn_app (goodIn_of _ (by decide +kernel)) ggX4_read_X4_takeStatement
theorem dX4_read_0 : decode cX4_read 0 = .ok (.aload_n 0, 1) := by decide +kernel
theorem dX4_read_1 : decode cX4_read 1 = .ok (.iload_n 1, 1) := by decide +kernel
theorem dX4_read_2 : decode cX4_read 2 = .ok (.putfield 15, 3) := by decide +kernel
theorem dX4_read_5 : decode cX4_read 5 = .ok (.aload_n 0, 1) := by decide +kernel
theorem dX4_read_6 : decode cX4_read 6 = .ok (.iconst 0, 1) := by decide +kernel
theorem dX4_read_7 : decode cX4_read 7 = .ok (.putfield 22, 3) := by decide +kernel
theorem dX4_read_10 : decode cX4_read 10 = .ok (.iconst 0, 1) := by decide +kernel
theorem dX4_read_11 : decode cX4_read 11 = .ok (.istore_n 3, 1) := by decide +kernel
theorem dX4_read_12 : decode cX4_read 12 = .ok (.iload_n 3, 1) := by decide +kernel
theorem dX4_read_13 : decode cX4_read 13 = .ok (.bipush 16, 2) := by decide +kernel
theorem dX4_read_15 : decode cX4_read 15 = .ok (.if_icmp .ge 35, 3) := by decide +kernel
theorem dX4_read_18 : decode cX4_read 18 = .ok (.aload_n 0, 1) := by decide +kernel
theorem dX4_read_19 : decode cX4_read 19 = .ok (.invokevirtual 28, 3) := by decide +kernel
theorem dX4_read_22 : decode cX4_read 22 = .ok (.aload_n 0, 1) := by decide +kernel
theorem dX4_read_23 : decode cX4_read 23 = .ok (.getfield 25, 3) := by decide +kernel
theorem dX4_read_26 : decode cX4_read 26 = .ok (.ifCond .ne 5, 3) := by decide +kernel
theorem dX4_read_29 : decode cX4_read 29 = .ok (.iconst (-1), 1) := by decide +kernel
theorem dX4_read_30 : decode cX4_read 30 = .ok (.ireturn, 1) := by decide +kernel
theorem dX4_read_31 : decode cX4_read 31 = .ok (.aload_n 0, 1) := by decide +kernel
theorem dX4_read_32 : decode cX4_read 32 = .ok (.aload_n 2, 1) := by decide +kernel
theorem dX4_read_33 : decode cX4_read 33 = .ok (.invokevirtual 31, 3) := by decide +kernel
theorem dX4_read_36 : decode cX4_read 36 = .ok (.ifCond .ne 8, 3) := by decide +kernel
theorem dX4_read_39 : decode cX4_read 39 = .ok (.aload_n 0, 1) := by decide +kernel
theorem dX4_read_40 : decode cX4_read 40 = .ok (.getfield 19, 3) := by decide +kernel
theorem dX4_read_43 : decode cX4_read 43 = .ok (.ireturn, 1) := by decide +kernel
theorem dX4_read_44 : decode cX4_read 44 = .ok (.iinc 3 1, 3) := by decide +kernel
theorem dX4_read_47 : decode cX4_read 47 = .ok (.goto (-35), 3) := by decide +kernel
theorem dX4_read_50 : decode cX4_read 50 = .ok (.aload_n 0, 1) := by decide +kernel
theorem dX4_read_51 : decode cX4_read 51 = .ok (.invokevirtual 28, 3) := by decide +kernel
theorem dX4_read_54 : decode cX4_read 54 = .ok (.aload_n 0, 1) := by decide +kernel
theorem dX4_read_55 : decode cX4_read 55 = .ok (.getfield 25, 3) := by decide +kernel
theorem dX4_read_58 : decode cX4_read 58 = .ok (.ifCond .ne 7, 3) := by decide +kernel
theorem dX4_read_61 : decode cX4_read 61 = .ok (.iconst (-1), 1) := by decide +kernel
theorem dX4_read_62 : decode cX4_read 62 = .ok (.goto 7, 3) := by decide +kernel
theorem dX4_read_65 : decode cX4_read 65 = .ok (.aload_n 0, 1) := by decide +kernel
theorem dX4_read_66 : decode cX4_read 66 = .ok (.getfield 19, 3) := by decide +kernel
theorem dX4_read_69 : decode cX4_read 69 = .ok (.ireturn, 1) := by decide +kernel
set_option maxRecDepth 20000 in
theorem ggX4_takeStatement_X4_isWord : GoodIn wsX4_takeStatement wsX4_isWord := goodIn_r _ [8, 9, 10, 11, 12, 13, 14, 15, 16, 17, 18, 19, 20, 21, 22, 23, 24, 25, 26, 27, 28, 29, 30, 31, 32, 33, 34, 35, 36, 37, 38, 39, 40, 41, 42, 43, 44, 45, 46, 47, 48, 49, 50, 51, 52, 53, 54, 55, 56, 57, 58, 59, 60, 61, 62, 63, 64, 65, 66, 67, 68, 113, 114, 115, 116, 117, 118, 119] (by decide +kernel) (by decide +kernel)
set_option maxRecDepth 20000 in
theorem gX4_takeStatement_X4_isWord : GoodIn wsX4_takeStatement (wsV RX4 37 RX4 yX4_isWord wsX4_isWord) := goodIn_app (goodIn_of _ (by decide +kernel)) ggX4_takeStatement_X4_isWord
set_option maxRecDepth 20000 in
theorem ggX4_takeStatement_X4_takeOrder : GoodIn wsX4_takeStatement wsX4_takeOrder := goodIn_r _ [72, 73, 74, 75, 76, 7, 77, 10, 11, 78, 12, 9, 25, 26, 27, 28, 29, 30, 31, 79, 80, 81, 82, 83, 84, 4, 5, 6, 8, 13, 14, 15, 16, 17, 18, 19, 20, 21, 22, 23, 24, 32, 33, 34, 35, 36, 37, 38, 39, 40, 41, 42, 43, 44, 45, 46, 47, 48, 49, 50, 51, 52, 53, 54, 55, 56, 57, 58, 59, 60, 61, 62, 63, 64, 65, 66, 67, 68, 106, 107, 108, 109, 110, 111, 112, 113, 114, 115, 116, 117, 118, 119] (by decide +kernel) (by decide +kernel)
set_option maxRecDepth 20000 in
theorem gX4_takeStatement_X4_takeOrder : GoodIn wsX4_takeStatement (wsV RX4 41 RX4 yX4_takeOrder wsX4_takeOrder) := goodIn_app (goodIn_of _ (by decide +kernel)) ggX4_takeStatement_X4_takeOrder
set_option maxRecDepth 20000 in
theorem ggX4_takeStatement_X4_takeSemicolon : GoodIn wsX4_takeStatement wsX4_takeSemicolon := goodIn_r _ [88, 9, 74, 75, 76, 7, 77, 10, 11, 78, 12, 25, 26, 27, 28, 29, 30, 31, 79, 80, 81, 82, 83, 84, 113, 114, 115, 116, 117, 118, 119] (by decide +kernel) (by decide +kernel)
set_option maxRecDepth 20000 in
theorem gX4_takeStatement_X4_takeSemicolon : GoodIn wsX4_takeStatement (wsV RX4 44 RX4 yX4_takeSemicolon wsX4_takeSemicolon) := goodIn_app (goodIn_of _ (by decide +kernel)) ggX4_takeStatement_X4_takeSemicolon
set_option maxRecDepth 20000 in
theorem ggX4_takeStatement_X4_takeDays : GoodIn wsX4_takeStatement wsX4_takeDays := goodIn_r _ [92, 93, 94, 95, 7, 96, 9, 10, 11, 12, 74, 75, 76, 77, 78, 25, 26, 27, 28, 29, 30, 31, 79, 80, 81, 82, 83, 84, 4, 5, 6, 8, 13, 14, 15, 16, 17, 18, 19, 20, 21, 22, 23, 24, 32, 33, 34, 35, 36, 37, 38, 39, 40, 41, 42, 43, 44, 45, 46, 47, 48, 49, 50, 51, 52, 53, 54, 55, 56, 57, 58, 59, 60, 61, 62, 63, 64, 65, 66, 67, 68, 97, 98, 99, 100, 101, 102, 103, 104, 105, 113, 114, 115, 116, 117, 118, 119, 106, 107, 108, 109, 110, 111, 112] (by decide +kernel) (by decide +kernel)
set_option maxRecDepth 20000 in
theorem gX4_takeStatement_X4_takeDays : GoodIn wsX4_takeStatement (wsV RX4 50 RX4 yX4_takeDays wsX4_takeDays) := goodIn_app (goodIn_of _ (by decide +kernel)) ggX4_takeStatement_X4_takeDays
set_option maxRecDepth 20000 in
theorem ggX4_takeStatement_X4_takeNumber : GoodIn wsX4_takeStatement wsX4_takeNumber := goodIn_r _ [96, 9, 10, 11, 12, 74, 75, 76, 7, 77, 78, 25, 26, 27, 28, 29, 30, 31, 79, 80, 81, 82, 83, 84, 113, 114, 115, 116, 117, 118, 119] (by decide +kernel) (by decide +kernel)
set_option maxRecDepth 20000 in
theorem gX4_takeStatement_X4_takeNumber : GoodIn wsX4_takeStatement (wsV RX4 55 RX4 yX4_takeNumber wsX4_takeNumber) := goodIn_app (goodIn_of _ (by decide +kernel)) ggX4_takeStatement_X4_takeNumber
theorem dX4_takeStatement_0 : decode cX4_takeStatement 0 = .ok (.aload_n 0, 1) := by decide +kernel
theorem dX4_takeStatement_1 : decode cX4_takeStatement 1 = .ok (.ldc 35, 2) := by decide +kernel
theorem dX4_takeStatement_3 : decode cX4_takeStatement 3 = .ok (.invokevirtual 37, 3) := by decide +kernel
theorem dX4_takeStatement_6 : decode cX4_takeStatement 6 = .ok (.ifCond .eq 24, 3) := by decide +kernel
theorem dX4_takeStatement_9 : decode cX4_takeStatement 9 = .ok (.aload_n 0, 1) := by decide +kernel
theorem dX4_takeStatement_10 : decode cX4_takeStatement 10 = .ok (.aload_n 1, 1) := by decide +kernel
theorem dX4_takeStatement_11 : decode cX4_takeStatement 11 = .ok (.invokevirtual 41, 3) := by decide +kernel
theorem dX4_takeStatement_14 : decode cX4_takeStatement 14 = .ok (.ifCond .eq 14, 3) := by decide +kernel
theorem dX4_takeStatement_17 : decode cX4_takeStatement 17 = .ok (.aload_n 0, 1) := by decide +kernel
theorem dX4_takeStatement_18 : decode cX4_takeStatement 18 = .ok (.invokevirtual 44, 3) := by decide +kernel
theorem dX4_takeStatement_21 : decode cX4_takeStatement 21 = .ok (.ifCond .eq 7, 3) := by decide +kernel
theorem dX4_takeStatement_24 : decode cX4_takeStatement 24 = .ok (.iconst 1, 1) := by decide +kernel
theorem dX4_takeStatement_25 : decode cX4_takeStatement 25 = .ok (.goto 4, 3) := by decide +kernel
theorem dX4_takeStatement_28 : decode cX4_takeStatement 28 = .ok (.iconst 0, 1) := by decide +kernel
theorem dX4_takeStatement_29 : decode cX4_takeStatement 29 = .ok (.ireturn, 1) := by decide +kernel
theorem dX4_takeStatement_30 : decode cX4_takeStatement 30 = .ok (.aload_n 0, 1) := by decide +kernel
theorem dX4_takeStatement_31 : decode cX4_takeStatement 31 = .ok (.ldc 48, 2) := by decide +kernel
theorem dX4_takeStatement_33 : decode cX4_takeStatement 33 = .ok (.invokevirtual 37, 3) := by decide +kernel
theorem dX4_takeStatement_36 : decode cX4_takeStatement 36 = .ok (.ifCond .eq 24, 3) := by decide +kernel
theorem dX4_takeStatement_39 : decode cX4_takeStatement 39 = .ok (.aload_n 0, 1) := by decide +kernel
theorem dX4_takeStatement_40 : decode cX4_takeStatement 40 = .ok (.aload_n 1, 1) := by decide +kernel
theorem dX4_takeStatement_41 : decode cX4_takeStatement 41 = .ok (.invokevirtual 50, 3) := by decide +kernel
theorem dX4_takeStatement_44 : decode cX4_takeStatement 44 = .ok (.ifCond .eq 14, 3) := by decide +kernel
theorem dX4_takeStatement_47 : decode cX4_takeStatement 47 = .ok (.aload_n 0, 1) := by decide +kernel
theorem dX4_takeStatement_48 : decode cX4_takeStatement 48 = .ok (.invokevirtual 44, 3) := by decide +kernel
theorem dX4_takeStatement_51 : decode cX4_takeStatement 51 = .ok (.ifCond .eq 7, 3) := by decide +kernel
theorem dX4_takeStatement_54 : decode cX4_takeStatement 54 = .ok (.iconst 1, 1) := by decide +kernel
theorem dX4_takeStatement_55 : decode cX4_takeStatement 55 = .ok (.goto 4, 3) := by decide +kernel
theorem dX4_takeStatement_58 : decode cX4_takeStatement 58 = .ok (.iconst 0, 1) := by decide +kernel
theorem dX4_takeStatement_59 : decode cX4_takeStatement 59 = .ok (.ireturn, 1) := by decide +kernel
theorem dX4_takeStatement_60 : decode cX4_takeStatement 60 = .ok (.aload_n 0, 1) := by decide +kernel
theorem dX4_takeStatement_61 : decode cX4_takeStatement 61 = .ok (.ldc 53, 2) := by decide +kernel
theorem dX4_takeStatement_63 : decode cX4_takeStatement 63 = .ok (.invokevirtual 37, 3) := by decide +kernel
theorem dX4_takeStatement_66 : decode cX4_takeStatement 66 = .ok (.ifCond .eq 32, 3) := by decide +kernel
theorem dX4_takeStatement_69 : decode cX4_takeStatement 69 = .ok (.aload_n 1, 1) := by decide +kernel
theorem dX4_takeStatement_70 : decode cX4_takeStatement 70 = .ok (.aload_n 0, 1) := by decide +kernel
theorem dX4_takeStatement_71 : decode cX4_takeStatement 71 = .ok (.invokevirtual 55, 3) := by decide +kernel
theorem dX4_takeStatement_74 : decode cX4_takeStatement 74 = .ok (.putfield 59, 3) := by decide +kernel
theorem dX4_takeStatement_77 : decode cX4_takeStatement 77 = .ok (.aload_n 1, 1) := by decide +kernel
theorem dX4_takeStatement_78 : decode cX4_takeStatement 78 = .ok (.getfield 59, 3) := by decide +kernel
theorem dX4_takeStatement_81 : decode cX4_takeStatement 81 = .ok (.iconst (-1), 1) := by decide +kernel
theorem dX4_takeStatement_82 : decode cX4_takeStatement 82 = .ok (.if_icmp .eq 14, 3) := by decide +kernel
theorem dX4_takeStatement_85 : decode cX4_takeStatement 85 = .ok (.aload_n 0, 1) := by decide +kernel
theorem dX4_takeStatement_86 : decode cX4_takeStatement 86 = .ok (.invokevirtual 44, 3) := by decide +kernel
theorem dX4_takeStatement_89 : decode cX4_takeStatement 89 = .ok (.ifCond .eq 7, 3) := by decide +kernel
theorem dX4_takeStatement_92 : decode cX4_takeStatement 92 = .ok (.iconst 1, 1) := by decide +kernel
theorem dX4_takeStatement_93 : decode cX4_takeStatement 93 = .ok (.goto 4, 3) := by decide +kernel
theorem dX4_takeStatement_96 : decode cX4_takeStatement 96 = .ok (.iconst 0, 1) := by decide +kernel
theorem dX4_takeStatement_97 : decode cX4_takeStatement 97 = .ok (.ireturn, 1) := by decide +kernel
theorem dX4_takeStatement_98 : decode cX4_takeStatement 98 = .ok (.aload_n 0, 1) := by decide +kernel
theorem dX4_takeStatement_99 : decode cX4_takeStatement 99 = .ok (.ldc 63, 2) := by decide +kernel
theorem dX4_takeStatement_101 : decode cX4_takeStatement 101 = .ok (.invokevirtual 37, 3) := by decide +kernel
theorem dX4_takeStatement_104 : decode cX4_takeStatement 104 = .ok (.ifCond .eq 32, 3) := by decide +kernel
theorem dX4_takeStatement_107 : decode cX4_takeStatement 107 = .ok (.aload_n 1, 1) := by decide +kernel
theorem dX4_takeStatement_108 : decode cX4_takeStatement 108 = .ok (.aload_n 0, 1) := by decide +kernel
theorem dX4_takeStatement_109 : decode cX4_takeStatement 109 = .ok (.invokevirtual 55, 3) := by decide +kernel
theorem dX4_takeStatement_112 : decode cX4_takeStatement 112 = .ok (.putfield 65, 3) := by decide +kernel
theorem dX4_takeStatement_115 : decode cX4_takeStatement 115 = .ok (.aload_n 1, 1) := by decide +kernel
theorem dX4_takeStatement_116 : decode cX4_takeStatement 116 = .ok (.getfield 65, 3) := by decide +kernel
theorem dX4_takeStatement_119 : decode cX4_takeStatement 119 = .ok (.iconst (-1), 1) := by decide +kernel
theorem dX4_takeStatement_120 : decode cX4_takeStatement 120 = .ok (.if_icmp .eq 14, 3) := by decide +kernel
theorem dX4_takeStatement_123 : decode cX4_takeStatement 123 = .ok (.aload_n 0, 1) := by decide +kernel
theorem dX4_takeStatement_124 : decode cX4_takeStatement 124 = .ok (.invokevirtual 44, 3) := by decide +kernel
theorem dX4_takeStatement_127 : decode cX4_takeStatement 127 = .ok (.ifCond .eq 7, 3) := by decide +kernel
theorem dX4_takeStatement_130 : decode cX4_takeStatement 130 = .ok (.iconst 1, 1) := by decide +kernel
theorem dX4_takeStatement_131 : decode cX4_takeStatement 131 = .ok (.goto 4, 3) := by decide +kernel
theorem dX4_takeStatement_134 : decode cX4_takeStatement 134 = .ok (.iconst 0, 1) := by decide +kernel
theorem dX4_takeStatement_135 : decode cX4_takeStatement 135 = .ok (.ireturn, 1) := by decide +kernel
theorem dX4_takeStatement_136 : decode cX4_takeStatement 136 = .ok (.aload_n 0, 1) := by decide +kernel
theorem dX4_takeStatement_137 : decode cX4_takeStatement 137 = .ok (.ldc 68, 2) := by decide +kernel
theorem dX4_takeStatement_139 : decode cX4_takeStatement 139 = .ok (.invokevirtual 37, 3) := by decide +kernel
theorem dX4_takeStatement_142 : decode cX4_takeStatement 142 = .ok (.ifCond .eq 32, 3) := by decide +kernel
theorem dX4_takeStatement_145 : decode cX4_takeStatement 145 = .ok (.aload_n 1, 1) := by decide +kernel
theorem dX4_takeStatement_146 : decode cX4_takeStatement 146 = .ok (.aload_n 0, 1) := by decide +kernel
theorem dX4_takeStatement_147 : decode cX4_takeStatement 147 = .ok (.invokevirtual 55, 3) := by decide +kernel
theorem dX4_takeStatement_150 : decode cX4_takeStatement 150 = .ok (.putfield 70, 3) := by decide +kernel
theorem dX4_takeStatement_153 : decode cX4_takeStatement 153 = .ok (.aload_n 1, 1) := by decide +kernel
theorem dX4_takeStatement_154 : decode cX4_takeStatement 154 = .ok (.getfield 70, 3) := by decide +kernel
theorem dX4_takeStatement_157 : decode cX4_takeStatement 157 = .ok (.iconst (-1), 1) := by decide +kernel
theorem dX4_takeStatement_158 : decode cX4_takeStatement 158 = .ok (.if_icmp .eq 14, 3) := by decide +kernel
theorem dX4_takeStatement_161 : decode cX4_takeStatement 161 = .ok (.aload_n 0, 1) := by decide +kernel
theorem dX4_takeStatement_162 : decode cX4_takeStatement 162 = .ok (.invokevirtual 44, 3) := by decide +kernel
theorem dX4_takeStatement_165 : decode cX4_takeStatement 165 = .ok (.ifCond .eq 7, 3) := by decide +kernel
theorem dX4_takeStatement_168 : decode cX4_takeStatement 168 = .ok (.iconst 1, 1) := by decide +kernel
theorem dX4_takeStatement_169 : decode cX4_takeStatement 169 = .ok (.goto 4, 3) := by decide +kernel
theorem dX4_takeStatement_172 : decode cX4_takeStatement 172 = .ok (.iconst 0, 1) := by decide +kernel
theorem dX4_takeStatement_173 : decode cX4_takeStatement 173 = .ok (.ireturn, 1) := by decide +kernel
theorem dX4_takeStatement_174 : decode cX4_takeStatement 174 = .ok (.iconst 0, 1) := by decide +kernel
theorem dX4_takeStatement_175 : decode cX4_takeStatement 175 = .ok (.ireturn, 1) := by decide +kernel
set_option maxRecDepth 20000 in
theorem ggX4_takeOrder_X4_step : GoodIn wsX4_takeOrder wsX4_step := goodIn_r _ [6, 7, 8, 9, 10, 11, 12, 13, 14, 15, 16, 17, 18, 19, 20, 5, 21, 22, 23, 24, 85, 86, 87, 88, 89, 90, 91] (by decide +kernel) (by decide +kernel)
set_option maxRecDepth 20000 in
theorem gX4_takeOrder_X4_step : GoodIn wsX4_takeOrder (wsV RX4 28 RX4 yX4_step wsX4_step) := goodIn_app (goodIn_of _ (by decide +kernel)) ggX4_takeOrder_X4_step
set_option maxRecDepth 20000 in
theorem ggX4_takeOrder_X4_isWord : GoodIn wsX4_takeOrder wsX4_isWord := goodIn_r _ [28, 11, 7, 8, 10, 29, 30, 31, 32, 33, 34, 35, 36, 37, 38, 39, 40, 12, 13, 14, 15, 16, 17, 18, 41, 42, 43, 44, 45, 46, 47, 48, 49, 50, 51, 52, 53, 54, 55, 56, 57, 58, 59, 60, 61, 62, 63, 64, 65, 66, 67, 68, 69, 70, 71, 72, 73, 74, 75, 76, 77, 85, 86, 87, 88, 89, 90, 91] (by decide +kernel) (by decide +kernel)
set_option maxRecDepth 20000 in
theorem gX4_takeOrder_X4_isWord : GoodIn wsX4_takeOrder (wsV RX4 37 RX4 yX4_isWord wsX4_isWord) := goodIn_app (goodIn_of _ (by decide +kernel)) ggX4_takeOrder_X4_isWord
theorem dX4_takeOrder_0 : decode cX4_takeOrder 0 = .ok (.aload_n 0, 1) := by decide +kernel
theorem dX4_takeOrder_1 : decode cX4_takeOrder 1 = .ok (.invokevirtual 28, 3) := by decide +kernel
theorem dX4_takeOrder_4 : decode cX4_takeOrder 4 = .ok (.aload_n 0, 1) := by decide +kernel
theorem dX4_takeOrder_5 : decode cX4_takeOrder 5 = .ok (.ldc 72, 2) := by decide +kernel
theorem dX4_takeOrder_7 : decode cX4_takeOrder 7 = .ok (.invokevirtual 37, 3) := by decide +kernel
theorem dX4_takeOrder_10 : decode cX4_takeOrder 10 = .ok (.ifCond .eq 11, 3) := by decide +kernel
theorem dX4_takeOrder_13 : decode cX4_takeOrder 13 = .ok (.aload_n 1, 1) := by decide +kernel
theorem dX4_takeOrder_14 : decode cX4_takeOrder 14 = .ok (.iconst 0, 1) := by decide +kernel
theorem dX4_takeOrder_15 : decode cX4_takeOrder 15 = .ok (.putfield 74, 3) := by decide +kernel
theorem dX4_takeOrder_18 : decode cX4_takeOrder 18 = .ok (.goto 39, 3) := by decide +kernel
theorem dX4_takeOrder_21 : decode cX4_takeOrder 21 = .ok (.aload_n 0, 1) := by decide +kernel
theorem dX4_takeOrder_22 : decode cX4_takeOrder 22 = .ok (.ldc 76, 2) := by decide +kernel
theorem dX4_takeOrder_24 : decode cX4_takeOrder 24 = .ok (.invokevirtual 37, 3) := by decide +kernel
theorem dX4_takeOrder_27 : decode cX4_takeOrder 27 = .ok (.ifCond .eq 11, 3) := by decide +kernel
theorem dX4_takeOrder_30 : decode cX4_takeOrder 30 = .ok (.aload_n 1, 1) := by decide +kernel
theorem dX4_takeOrder_31 : decode cX4_takeOrder 31 = .ok (.iconst 1, 1) := by decide +kernel
theorem dX4_takeOrder_32 : decode cX4_takeOrder 32 = .ok (.putfield 74, 3) := by decide +kernel
theorem dX4_takeOrder_35 : decode cX4_takeOrder 35 = .ok (.goto 22, 3) := by decide +kernel
theorem dX4_takeOrder_38 : decode cX4_takeOrder 38 = .ok (.aload_n 0, 1) := by decide +kernel
theorem dX4_takeOrder_39 : decode cX4_takeOrder 39 = .ok (.ldc 78, 2) := by decide +kernel
theorem dX4_takeOrder_41 : decode cX4_takeOrder 41 = .ok (.invokevirtual 37, 3) := by decide +kernel
theorem dX4_takeOrder_44 : decode cX4_takeOrder 44 = .ok (.ifCond .eq 11, 3) := by decide +kernel
theorem dX4_takeOrder_47 : decode cX4_takeOrder 47 = .ok (.aload_n 1, 1) := by decide +kernel
theorem dX4_takeOrder_48 : decode cX4_takeOrder 48 = .ok (.iconst 2, 1) := by decide +kernel
theorem dX4_takeOrder_49 : decode cX4_takeOrder 49 = .ok (.putfield 74, 3) := by decide +kernel
theorem dX4_takeOrder_52 : decode cX4_takeOrder 52 = .ok (.goto 5, 3) := by decide +kernel
theorem dX4_takeOrder_55 : decode cX4_takeOrder 55 = .ok (.iconst 0, 1) := by decide +kernel
theorem dX4_takeOrder_56 : decode cX4_takeOrder 56 = .ok (.ireturn, 1) := by decide +kernel
theorem dX4_takeOrder_57 : decode cX4_takeOrder 57 = .ok (.iconst 1, 1) := by decide +kernel
theorem dX4_takeOrder_58 : decode cX4_takeOrder 58 = .ok (.ireturn, 1) := by decide +kernel
set_option maxRecDepth 20000 in
theorem ggX4_takeDays_X4_takeNumber : GoodIn wsX4_takeDays wsX4_takeNumber := goodIn_r _ [5, 6, 7, 8, 9, 10, 11, 12, 4, 13, 14, 15, 16, 17, 18, 19, 20, 21, 22, 23, 24, 25, 26, 27, 90, 91, 92, 93, 94, 95, 96] (by decide +kernel) (by decide +kernel)
set_option maxRecDepth 20000 in
theorem gX4_takeDays_X4_takeNumber : GoodIn wsX4_takeDays (wsV RX4 55 RX4 yX4_takeNumber wsX4_takeNumber) := goodIn_app (goodIn_of _ (by decide +kernel)) ggX4_takeDays_X4_takeNumber
set_option maxRecDepth 20000 in
theorem ggX4_takeDays_X4_step : GoodIn wsX4_takeDays wsX4_step := goodIn_r _ [13, 7, 8, 14, 9, 6, 15, 16, 17, 18, 19, 20, 21, 22, 23, 4, 24, 25, 26, 27, 90, 91, 92, 93, 94, 95, 96] (by decide +kernel) (by decide +kernel)
set_option maxRecDepth 20000 in
theorem gX4_takeDays_X4_step : GoodIn wsX4_takeDays (wsV RX4 28 RX4 yX4_step wsX4_step) := goodIn_app (goodIn_of _ (by decide +kernel)) ggX4_takeDays_X4_step
set_option maxRecDepth 20000 in
theorem ggX4_takeDays_X4_isWord : GoodIn wsX4_takeDays wsX4_isWord := goodIn_r _ [31, 6, 7, 8, 9, 32, 33, 34, 35, 36, 37, 38, 39, 40, 41, 42, 43, 15, 16, 17, 18, 19, 20, 21, 44, 45, 46, 47, 48, 49, 50, 51, 52, 53, 54, 55, 56, 57, 58, 59, 60, 61, 62, 63, 64, 65, 66, 67, 68, 69, 70, 71, 72, 73, 74, 75, 76, 77, 78, 79, 80, 90, 91, 92, 93, 94, 95, 96] (by decide +kernel) (by decide +kernel)
set_option maxRecDepth 20000 in
theorem gX4_takeDays_X4_isWord : GoodIn wsX4_takeDays (wsV RX4 37 RX4 yX4_isWord wsX4_isWord) := goodIn_app (goodIn_of _ (by decide +kernel)) ggX4_takeDays_X4_isWord
set_option maxRecDepth 20000 in
theorem ggX4_takeDays_X7_allow : GoodIn wsX4_takeDays wsX7_allow := goodIn_r _ [85, 86, 87, 88, 89, 97, 98, 99, 100, 101, 102, 103] (by decide +kernel) (by decide +kernel)
set_option maxRecDepth 20000 in
theorem gX4_takeDays_X7_allow : GoodIn wsX4_takeDays (wsV RX4 82 RX7 yX7_allow wsX7_allow) := goodIn_app (goodIn_of _ (by decide +kernel)) ggX4_takeDays_X7_allow
theorem dX4_takeDays_0 : decode cX4_takeDays 0 = .ok (.aload_n 0, 1) := by decide +kernel
theorem dX4_takeDays_1 : decode cX4_takeDays 1 = .ok (.invokevirtual 55, 3) := by decide +kernel
theorem dX4_takeDays_4 : decode cX4_takeDays 4 = .ok (.istore_n 2, 1) := by decide +kernel
theorem dX4_takeDays_5 : decode cX4_takeDays 5 = .ok (.iload_n 2, 1) := by decide +kernel
theorem dX4_takeDays_6 : decode cX4_takeDays 6 = .ok (.iconst (-1), 1) := by decide +kernel
theorem dX4_takeDays_7 : decode cX4_takeDays 7 = .ok (.if_icmp .ne 5, 3) := by decide +kernel
theorem dX4_takeDays_10 : decode cX4_takeDays 10 = .ok (.iconst 0, 1) := by decide +kernel
theorem dX4_takeDays_11 : decode cX4_takeDays 11 = .ok (.ireturn, 1) := by decide +kernel
theorem dX4_takeDays_12 : decode cX4_takeDays 12 = .ok (.aload_n 0, 1) := by decide +kernel
theorem dX4_takeDays_13 : decode cX4_takeDays 13 = .ok (.invokevirtual 28, 3) := by decide +kernel
theorem dX4_takeDays_16 : decode cX4_takeDays 16 = .ok (.aload_n 0, 1) := by decide +kernel
theorem dX4_takeDays_17 : decode cX4_takeDays 17 = .ok (.ldc 80, 2) := by decide +kernel
theorem dX4_takeDays_19 : decode cX4_takeDays 19 = .ok (.invokevirtual 37, 3) := by decide +kernel
theorem dX4_takeDays_22 : decode cX4_takeDays 22 = .ok (.ifCond .ne 5, 3) := by decide +kernel
theorem dX4_takeDays_25 : decode cX4_takeDays 25 = .ok (.iconst 0, 1) := by decide +kernel
theorem dX4_takeDays_26 : decode cX4_takeDays 26 = .ok (.ireturn, 1) := by decide +kernel
theorem dX4_takeDays_27 : decode cX4_takeDays 27 = .ok (.aload_n 0, 1) := by decide +kernel
theorem dX4_takeDays_28 : decode cX4_takeDays 28 = .ok (.invokevirtual 55, 3) := by decide +kernel
theorem dX4_takeDays_31 : decode cX4_takeDays 31 = .ok (.istore_n 3, 1) := by decide +kernel
theorem dX4_takeDays_32 : decode cX4_takeDays 32 = .ok (.iload_n 3, 1) := by decide +kernel
theorem dX4_takeDays_33 : decode cX4_takeDays 33 = .ok (.iconst (-1), 1) := by decide +kernel
theorem dX4_takeDays_34 : decode cX4_takeDays 34 = .ok (.if_icmp .ne 5, 3) := by decide +kernel
theorem dX4_takeDays_37 : decode cX4_takeDays 37 = .ok (.iconst 0, 1) := by decide +kernel
theorem dX4_takeDays_38 : decode cX4_takeDays 38 = .ok (.ireturn, 1) := by decide +kernel
theorem dX4_takeDays_39 : decode cX4_takeDays 39 = .ok (.aload_n 1, 1) := by decide +kernel
theorem dX4_takeDays_40 : decode cX4_takeDays 40 = .ok (.iload_n 2, 1) := by decide +kernel
theorem dX4_takeDays_41 : decode cX4_takeDays 41 = .ok (.iload_n 3, 1) := by decide +kernel
theorem dX4_takeDays_42 : decode cX4_takeDays 42 = .ok (.invokevirtual 82, 3) := by decide +kernel
theorem dX4_takeDays_45 : decode cX4_takeDays 45 = .ok (.iconst 1, 1) := by decide +kernel
theorem dX4_takeDays_46 : decode cX4_takeDays 46 = .ok (.ireturn, 1) := by decide +kernel
set_option maxRecDepth 20000 in
theorem ggX4_takeSemicolon_X4_step : GoodIn wsX4_takeSemicolon wsX4_step := goodIn_r _ [6, 7, 8, 9, 10, 1, 11, 12, 13, 14, 15, 16, 17, 18, 19, 5, 20, 21, 22, 23, 24, 25, 26, 27, 28, 29, 30] (by decide +kernel) (by decide +kernel)
set_option maxRecDepth 20000 in
theorem gX4_takeSemicolon_X4_step : GoodIn wsX4_takeSemicolon (wsV RX4 28 RX4 yX4_step wsX4_step) := goodIn_app (goodIn_of _ (by decide +kernel)) ggX4_takeSemicolon_X4_step
theorem dX4_takeSemicolon_0 : decode cX4_takeSemicolon 0 = .ok (.aload_n 0, 1) := by decide +kernel
theorem dX4_takeSemicolon_1 : decode cX4_takeSemicolon 1 = .ok (.invokevirtual 28, 3) := by decide +kernel
theorem dX4_takeSemicolon_4 : decode cX4_takeSemicolon 4 = .ok (.aload_n 0, 1) := by decide +kernel
theorem dX4_takeSemicolon_5 : decode cX4_takeSemicolon 5 = .ok (.getfield 25, 3) := by decide +kernel
theorem dX4_takeSemicolon_8 : decode cX4_takeSemicolon 8 = .ok (.iconst 3, 1) := by decide +kernel
theorem dX4_takeSemicolon_9 : decode cX4_takeSemicolon 9 = .ok (.if_icmp .ne 7, 3) := by decide +kernel
theorem dX4_takeSemicolon_12 : decode cX4_takeSemicolon 12 = .ok (.iconst 1, 1) := by decide +kernel
theorem dX4_takeSemicolon_13 : decode cX4_takeSemicolon 13 = .ok (.goto 4, 3) := by decide +kernel
theorem dX4_takeSemicolon_16 : decode cX4_takeSemicolon 16 = .ok (.iconst 0, 1) := by decide +kernel
theorem dX4_takeSemicolon_17 : decode cX4_takeSemicolon 17 = .ok (.ireturn, 1) := by decide +kernel
set_option maxRecDepth 20000 in
theorem ggX4_takeNumber_X4_step : GoodIn wsX4_takeNumber wsX4_step := goodIn_r _ [9, 2, 3, 10, 4, 1, 11, 12, 13, 14, 15, 16, 17, 18, 19, 8, 20, 21, 22, 23, 24, 25, 26, 27, 28, 29, 30] (by decide +kernel) (by decide +kernel)
set_option maxRecDepth 20000 in
theorem gX4_takeNumber_X4_step : GoodIn wsX4_takeNumber (wsV RX4 28 RX4 yX4_step wsX4_step) := goodIn_app (goodIn_of _ (by decide +kernel)) ggX4_takeNumber_X4_step
set_option maxRecDepth 20000 in
theorem ggX4_takeNumber_X8_at : GoodIn wsX4_takeNumber wsX8_at := goodIn_r _ [15, 16, 17, 29, 30] (by decide +kernel) (by decide +kernel)
set_option maxRecDepth 20000 in
theorem gX4_takeNumber_X8_at : GoodIn wsX4_takeNumber (wsV RX4 86 RX8 yX8_at wsX8_at) := goodIn_app (goodIn_of _ (by decide +kernel)) ggX4_takeNumber_X8_at
theorem dX4_takeNumber_0 : decode cX4_takeNumber 0 = .ok (.aload_n 0, 1) := by decide +kernel
theorem dX4_takeNumber_1 : decode cX4_takeNumber 1 = .ok (.invokevirtual 28, 3) := by decide +kernel
theorem dX4_takeNumber_4 : decode cX4_takeNumber 4 = .ok (.aload_n 0, 1) := by decide +kernel
theorem dX4_takeNumber_5 : decode cX4_takeNumber 5 = .ok (.getfield 25, 3) := by decide +kernel
theorem dX4_takeNumber_8 : decode cX4_takeNumber 8 = .ok (.iconst 2, 1) := by decide +kernel
theorem dX4_takeNumber_9 : decode cX4_takeNumber 9 = .ok (.if_icmp .ne 16, 3) := by decide +kernel
theorem dX4_takeNumber_12 : decode cX4_takeNumber 12 = .ok (.aload_n 0, 1) := by decide +kernel
theorem dX4_takeNumber_13 : decode cX4_takeNumber 13 = .ok (.getfield 22, 3) := by decide +kernel
theorem dX4_takeNumber_16 : decode cX4_takeNumber 16 = .ok (.aload_n 0, 1) := by decide +kernel
theorem dX4_takeNumber_17 : decode cX4_takeNumber 17 = .ok (.getfield 19, 3) := by decide +kernel
theorem dX4_takeNumber_20 : decode cX4_takeNumber 20 = .ok (.isub, 1) := by decide +kernel
theorem dX4_takeNumber_21 : decode cX4_takeNumber 21 = .ok (.iconst 3, 1) := by decide +kernel
theorem dX4_takeNumber_22 : decode cX4_takeNumber 22 = .ok (.if_icmp .le 5, 3) := by decide +kernel
theorem dX4_takeNumber_25 : decode cX4_takeNumber 25 = .ok (.iconst (-1), 1) := by decide +kernel
theorem dX4_takeNumber_26 : decode cX4_takeNumber 26 = .ok (.ireturn, 1) := by decide +kernel
theorem dX4_takeNumber_27 : decode cX4_takeNumber 27 = .ok (.iconst 0, 1) := by decide +kernel
theorem dX4_takeNumber_28 : decode cX4_takeNumber 28 = .ok (.istore_n 1, 1) := by decide +kernel
theorem dX4_takeNumber_29 : decode cX4_takeNumber 29 = .ok (.aload_n 0, 1) := by decide +kernel
theorem dX4_takeNumber_30 : decode cX4_takeNumber 30 = .ok (.getfield 19, 3) := by decide +kernel
theorem dX4_takeNumber_33 : decode cX4_takeNumber 33 = .ok (.istore_n 2, 1) := by decide +kernel
theorem dX4_takeNumber_34 : decode cX4_takeNumber 34 = .ok (.iload_n 2, 1) := by decide +kernel
theorem dX4_takeNumber_35 : decode cX4_takeNumber 35 = .ok (.aload_n 0, 1) := by decide +kernel
theorem dX4_takeNumber_36 : decode cX4_takeNumber 36 = .ok (.getfield 22, 3) := by decide +kernel
theorem dX4_takeNumber_39 : decode cX4_takeNumber 39 = .ok (.if_icmp .ge 26, 3) := by decide +kernel
theorem dX4_takeNumber_42 : decode cX4_takeNumber 42 = .ok (.iload_n 1, 1) := by decide +kernel
theorem dX4_takeNumber_43 : decode cX4_takeNumber 43 = .ok (.bipush 10, 2) := by decide +kernel
theorem dX4_takeNumber_45 : decode cX4_takeNumber 45 = .ok (.imul, 1) := by decide +kernel
theorem dX4_takeNumber_46 : decode cX4_takeNumber 46 = .ok (.aload_n 0, 1) := by decide +kernel
theorem dX4_takeNumber_47 : decode cX4_takeNumber 47 = .ok (.getfield 9, 3) := by decide +kernel
theorem dX4_takeNumber_50 : decode cX4_takeNumber 50 = .ok (.iload_n 2, 1) := by decide +kernel
theorem dX4_takeNumber_51 : decode cX4_takeNumber 51 = .ok (.invokevirtual 86, 3) := by decide +kernel
theorem dX4_takeNumber_54 : decode cX4_takeNumber 54 = .ok (.iadd, 1) := by decide +kernel
theorem dX4_takeNumber_55 : decode cX4_takeNumber 55 = .ok (.bipush 48, 2) := by decide +kernel
theorem dX4_takeNumber_57 : decode cX4_takeNumber 57 = .ok (.isub, 1) := by decide +kernel
theorem dX4_takeNumber_58 : decode cX4_takeNumber 58 = .ok (.istore_n 1, 1) := by decide +kernel
theorem dX4_takeNumber_59 : decode cX4_takeNumber 59 = .ok (.iinc 2 1, 3) := by decide +kernel
theorem dX4_takeNumber_62 : decode cX4_takeNumber 62 = .ok (.goto (-28), 3) := by decide +kernel
theorem dX4_takeNumber_65 : decode cX4_takeNumber 65 = .ok (.iload_n 1, 1) := by decide +kernel
theorem dX4_takeNumber_66 : decode cX4_takeNumber 66 = .ok (.ireturn, 1) := by decide +kernel
set_option maxRecDepth 20000 in
theorem ggX4_step_X8_at : GoodIn wsX4_step wsX8_at := goodIn_r _ [10, 11, 12, 25, 26] (by decide +kernel) (by decide +kernel)
set_option maxRecDepth 20000 in
theorem gX4_step_X8_at : GoodIn wsX4_step (wsV RX4 86 RX8 yX8_at wsX8_at) := goodIn_app (goodIn_of _ (by decide +kernel)) ggX4_step_X8_at
set_option maxRecDepth 20000 in
theorem ggX4_step_X4_isBlank : GoodIn wsX4_step wsX4_isBlank := goodIn_r _ [16] (by decide +kernel) (by decide +kernel)
set_option maxRecDepth 20000 in
theorem gX4_step_X4_isBlank : GoodIn wsX4_step (va_wsS RX4 92 yX4_isBlank wsX4_isBlank) := goodIn_app (goodIn_of _ (by decide +kernel)) ggX4_step_X4_isBlank
set_option maxRecDepth 20000 in
theorem ggX4_step_X4_kindOf : GoodIn wsX4_step wsX4_kindOf := goodIn_r _ [19] (by decide +kernel) (by decide +kernel)
set_option maxRecDepth 20000 in
theorem gX4_step_X4_kindOf : GoodIn wsX4_step (va_wsS RX4 96 yX4_kindOf wsX4_kindOf) := goodIn_app (goodIn_of _ (by decide +kernel)) ggX4_step_X4_kindOf
theorem dX4_step_0 : decode cX4_step 0 = .ok (.aload_n 0, 1) := by decide +kernel
theorem dX4_step_1 : decode cX4_step 1 = .ok (.aload_n 0, 1) := by decide +kernel
theorem dX4_step_2 : decode cX4_step 2 = .ok (.getfield 22, 3) := by decide +kernel
theorem dX4_step_5 : decode cX4_step 5 = .ok (.putfield 19, 3) := by decide +kernel
theorem dX4_step_8 : decode cX4_step 8 = .ok (.aload_n 0, 1) := by decide +kernel
theorem dX4_step_9 : decode cX4_step 9 = .ok (.getfield 19, 3) := by decide +kernel
theorem dX4_step_12 : decode cX4_step 12 = .ok (.aload_n 0, 1) := by decide +kernel
theorem dX4_step_13 : decode cX4_step 13 = .ok (.getfield 15, 3) := by decide +kernel
theorem dX4_step_16 : decode cX4_step 16 = .ok (.if_icmp .ge 33, 3) := by decide +kernel
theorem dX4_step_19 : decode cX4_step 19 = .ok (.aload_n 0, 1) := by decide +kernel
theorem dX4_step_20 : decode cX4_step 20 = .ok (.getfield 9, 3) := by decide +kernel
theorem dX4_step_23 : decode cX4_step 23 = .ok (.aload_n 0, 1) := by decide +kernel
theorem dX4_step_24 : decode cX4_step 24 = .ok (.getfield 19, 3) := by decide +kernel
theorem dX4_step_27 : decode cX4_step 27 = .ok (.invokevirtual 86, 3) := by decide +kernel
theorem dX4_step_30 : decode cX4_step 30 = .ok (.invokestatic 92, 3) := by decide +kernel
theorem dX4_step_33 : decode cX4_step 33 = .ok (.ifCond .eq 16, 3) := by decide +kernel
theorem dX4_step_36 : decode cX4_step 36 = .ok (.aload_n 0, 1) := by decide +kernel
theorem dX4_step_37 : decode cX4_step 37 = .ok (.dup, 1) := by decide +kernel
theorem dX4_step_38 : decode cX4_step 38 = .ok (.getfield 19, 3) := by decide +kernel
theorem dX4_step_41 : decode cX4_step 41 = .ok (.iconst 1, 1) := by decide +kernel
theorem dX4_step_42 : decode cX4_step 42 = .ok (.iadd, 1) := by decide +kernel
theorem dX4_step_43 : decode cX4_step 43 = .ok (.putfield 19, 3) := by decide +kernel
theorem dX4_step_46 : decode cX4_step 46 = .ok (.goto (-38), 3) := by decide +kernel
theorem dX4_step_49 : decode cX4_step 49 = .ok (.aload_n 0, 1) := by decide +kernel
theorem dX4_step_50 : decode cX4_step 50 = .ok (.aload_n 0, 1) := by decide +kernel
theorem dX4_step_51 : decode cX4_step 51 = .ok (.getfield 19, 3) := by decide +kernel
theorem dX4_step_54 : decode cX4_step 54 = .ok (.putfield 22, 3) := by decide +kernel
theorem dX4_step_57 : decode cX4_step 57 = .ok (.aload_n 0, 1) := by decide +kernel
theorem dX4_step_58 : decode cX4_step 58 = .ok (.getfield 19, 3) := by decide +kernel
theorem dX4_step_61 : decode cX4_step 61 = .ok (.aload_n 0, 1) := by decide +kernel
theorem dX4_step_62 : decode cX4_step 62 = .ok (.getfield 15, 3) := by decide +kernel
theorem dX4_step_65 : decode cX4_step 65 = .ok (.if_icmp .lt 9, 3) := by decide +kernel
theorem dX4_step_68 : decode cX4_step 68 = .ok (.aload_n 0, 1) := by decide +kernel
theorem dX4_step_69 : decode cX4_step 69 = .ok (.iconst 0, 1) := by decide +kernel
theorem dX4_step_70 : decode cX4_step 70 = .ok (.putfield 25, 3) := by decide +kernel
theorem dX4_step_73 : decode cX4_step 73 = .ok (.return_, 1) := by decide +kernel
theorem dX4_step_74 : decode cX4_step 74 = .ok (.aload_n 0, 1) := by decide +kernel
theorem dX4_step_75 : decode cX4_step 75 = .ok (.aload_n 0, 1) := by decide +kernel
theorem dX4_step_76 : decode cX4_step 76 = .ok (.getfield 9, 3) := by decide +kernel
theorem dX4_step_79 : decode cX4_step 79 = .ok (.aload_n 0, 1) := by decide +kernel
theorem dX4_step_80 : decode cX4_step 80 = .ok (.getfield 19, 3) := by decide +kernel
theorem dX4_step_83 : decode cX4_step 83 = .ok (.invokevirtual 86, 3) := by decide +kernel
theorem dX4_step_86 : decode cX4_step 86 = .ok (.invokestatic 96, 3) := by decide +kernel
theorem dX4_step_89 : decode cX4_step 89 = .ok (.putfield 25, 3) := by decide +kernel
theorem dX4_step_92 : decode cX4_step 92 = .ok (.aload_n 0, 1) := by decide +kernel
theorem dX4_step_93 : decode cX4_step 93 = .ok (.dup, 1) := by decide +kernel
theorem dX4_step_94 : decode cX4_step 94 = .ok (.getfield 22, 3) := by decide +kernel
theorem dX4_step_97 : decode cX4_step 97 = .ok (.iconst 1, 1) := by decide +kernel
theorem dX4_step_98 : decode cX4_step 98 = .ok (.iadd, 1) := by decide +kernel
theorem dX4_step_99 : decode cX4_step 99 = .ok (.putfield 22, 3) := by decide +kernel
theorem dX4_step_102 : decode cX4_step 102 = .ok (.aload_n 0, 1) := by decide +kernel
theorem dX4_step_103 : decode cX4_step 103 = .ok (.getfield 25, 3) := by decide +kernel
theorem dX4_step_106 : decode cX4_step 106 = .ok (.iconst 1, 1) := by decide +kernel
theorem dX4_step_107 : decode cX4_step 107 = .ok (.if_icmp .eq 11, 3) := by decide +kernel
theorem dX4_step_110 : decode cX4_step 110 = .ok (.aload_n 0, 1) := by decide +kernel
theorem dX4_step_111 : decode cX4_step 111 = .ok (.getfield 25, 3) := by decide +kernel
theorem dX4_step_114 : decode cX4_step 114 = .ok (.iconst 2, 1) := by decide +kernel
theorem dX4_step_115 : decode cX4_step 115 = .ok (.if_icmp .ne 48, 3) := by decide +kernel
theorem dX4_step_118 : decode cX4_step 118 = .ok (.aload_n 0, 1) := by decide +kernel
theorem dX4_step_119 : decode cX4_step 119 = .ok (.getfield 22, 3) := by decide +kernel
theorem dX4_step_122 : decode cX4_step 122 = .ok (.aload_n 0, 1) := by decide +kernel
theorem dX4_step_123 : decode cX4_step 123 = .ok (.getfield 15, 3) := by decide +kernel
theorem dX4_step_126 : decode cX4_step 126 = .ok (.if_icmp .ge 37, 3) := by decide +kernel
theorem dX4_step_129 : decode cX4_step 129 = .ok (.aload_n 0, 1) := by decide +kernel
theorem dX4_step_130 : decode cX4_step 130 = .ok (.getfield 9, 3) := by decide +kernel
theorem dX4_step_133 : decode cX4_step 133 = .ok (.aload_n 0, 1) := by decide +kernel
theorem dX4_step_134 : decode cX4_step 134 = .ok (.getfield 22, 3) := by decide +kernel
theorem dX4_step_137 : decode cX4_step 137 = .ok (.invokevirtual 86, 3) := by decide +kernel
theorem dX4_step_140 : decode cX4_step 140 = .ok (.invokestatic 96, 3) := by decide +kernel
theorem dX4_step_143 : decode cX4_step 143 = .ok (.aload_n 0, 1) := by decide +kernel
theorem dX4_step_144 : decode cX4_step 144 = .ok (.getfield 25, 3) := by decide +kernel
theorem dX4_step_147 : decode cX4_step 147 = .ok (.if_icmp .ne 16, 3) := by decide +kernel
theorem dX4_step_150 : decode cX4_step 150 = .ok (.aload_n 0, 1) := by decide +kernel
theorem dX4_step_151 : decode cX4_step 151 = .ok (.dup, 1) := by decide +kernel
theorem dX4_step_152 : decode cX4_step 152 = .ok (.getfield 22, 3) := by decide +kernel
theorem dX4_step_155 : decode cX4_step 155 = .ok (.iconst 1, 1) := by decide +kernel
theorem dX4_step_156 : decode cX4_step 156 = .ok (.iadd, 1) := by decide +kernel
theorem dX4_step_157 : decode cX4_step 157 = .ok (.putfield 22, 3) := by decide +kernel
theorem dX4_step_160 : decode cX4_step 160 = .ok (.goto (-42), 3) := by decide +kernel
theorem dX4_step_163 : decode cX4_step 163 = .ok (.return_, 1) := by decide +kernel
set_option maxRecDepth 20000 in
theorem ggX4_isWord_J0_length_8abf5 : GoodIn wsX4_isWord wsJ0_length_8abf5 := goodIn_r _ [9, 10, 11, 12, 13, 8, 14, 15, 16] (by decide +kernel) (by decide +kernel)
set_option maxRecDepth 20000 in
theorem gX4_isWord_J0_length_8abf5 : GoodIn wsX4_isWord (wsV RX4 99 RJ0 yJ0_length_8abf5 wsJ0_length_8abf5) := goodIn_app (goodIn_of _ (by decide +kernel)) ggX4_isWord_J0_length_8abf5
set_option maxRecDepth 20000 in
theorem ggX4_isWord_X8_at : GoodIn wsX4_isWord wsX8_at := goodIn_r _ [21, 22, 23, 66, 67] (by decide +kernel) (by decide +kernel)
set_option maxRecDepth 20000 in
theorem gX4_isWord_X8_at : GoodIn wsX4_isWord (wsV RX4 86 RX8 yX8_at wsX8_at) := goodIn_app (goodIn_of _ (by decide +kernel)) ggX4_isWord_X8_at
set_option maxRecDepth 20000 in
theorem ggX4_isWord_J0_charAt_5068e : GoodIn wsX4_isWord wsJ0_charAt_5068e := goodIn_r _ [27, 10, 28, 29, 30, 8, 31, 15, 16, 32, 33, 34, 35, 36, 37, 38, 39, 40, 41, 42, 43, 44, 45, 46, 47, 48, 49, 50, 51, 52, 53, 54, 55, 56, 57, 58, 59, 60] (by decide +kernel) (by decide +kernel)
set_option maxRecDepth 20000 in
theorem gX4_isWord_J0_charAt_5068e : GoodIn wsX4_isWord (wsV RX4 103 RJ0 yJ0_charAt_5068e wsJ0_charAt_5068e) := goodIn_app (goodIn_of _ (by decide +kernel)) ggX4_isWord_J0_charAt_5068e
theorem dX4_isWord_0 : decode cX4_isWord 0 = .ok (.aload_n 0, 1) := by decide +kernel
theorem dX4_isWord_1 : decode cX4_isWord 1 = .ok (.getfield 25, 3) := by decide +kernel
theorem dX4_isWord_4 : decode cX4_isWord 4 = .ok (.iconst 1, 1) := by decide +kernel
theorem dX4_isWord_5 : decode cX4_isWord 5 = .ok (.if_icmp .ne 19, 3) := by decide +kernel
theorem dX4_isWord_8 : decode cX4_isWord 8 = .ok (.aload_n 0, 1) := by decide +kernel
theorem dX4_isWord_9 : decode cX4_isWord 9 = .ok (.getfield 22, 3) := by decide +kernel
theorem dX4_isWord_12 : decode cX4_isWord 12 = .ok (.aload_n 0, 1) := by decide +kernel
theorem dX4_isWord_13 : decode cX4_isWord 13 = .ok (.getfield 19, 3) := by decide +kernel
theorem dX4_isWord_16 : decode cX4_isWord 16 = .ok (.isub, 1) := by decide +kernel
theorem dX4_isWord_17 : decode cX4_isWord 17 = .ok (.aload_n 1, 1) := by decide +kernel
theorem dX4_isWord_18 : decode cX4_isWord 18 = .ok (.invokevirtual 99, 3) := by decide +kernel
theorem dX4_isWord_21 : decode cX4_isWord 21 = .ok (.if_icmp .eq 5, 3) := by decide +kernel
theorem dX4_isWord_24 : decode cX4_isWord 24 = .ok (.iconst 0, 1) := by decide +kernel
theorem dX4_isWord_25 : decode cX4_isWord 25 = .ok (.ireturn, 1) := by decide +kernel
theorem dX4_isWord_26 : decode cX4_isWord 26 = .ok (.iconst 0, 1) := by decide +kernel
theorem dX4_isWord_27 : decode cX4_isWord 27 = .ok (.istore_n 2, 1) := by decide +kernel
theorem dX4_isWord_28 : decode cX4_isWord 28 = .ok (.iload_n 2, 1) := by decide +kernel
theorem dX4_isWord_29 : decode cX4_isWord 29 = .ok (.aload_n 1, 1) := by decide +kernel
theorem dX4_isWord_30 : decode cX4_isWord 30 = .ok (.invokevirtual 99, 3) := by decide +kernel
theorem dX4_isWord_33 : decode cX4_isWord 33 = .ok (.if_icmp .ge 32, 3) := by decide +kernel
theorem dX4_isWord_36 : decode cX4_isWord 36 = .ok (.aload_n 0, 1) := by decide +kernel
theorem dX4_isWord_37 : decode cX4_isWord 37 = .ok (.getfield 9, 3) := by decide +kernel
theorem dX4_isWord_40 : decode cX4_isWord 40 = .ok (.aload_n 0, 1) := by decide +kernel
theorem dX4_isWord_41 : decode cX4_isWord 41 = .ok (.getfield 19, 3) := by decide +kernel
theorem dX4_isWord_44 : decode cX4_isWord 44 = .ok (.iload_n 2, 1) := by decide +kernel
theorem dX4_isWord_45 : decode cX4_isWord 45 = .ok (.iadd, 1) := by decide +kernel
theorem dX4_isWord_46 : decode cX4_isWord 46 = .ok (.invokevirtual 86, 3) := by decide +kernel
theorem dX4_isWord_49 : decode cX4_isWord 49 = .ok (.aload_n 1, 1) := by decide +kernel
theorem dX4_isWord_50 : decode cX4_isWord 50 = .ok (.iload_n 2, 1) := by decide +kernel
theorem dX4_isWord_51 : decode cX4_isWord 51 = .ok (.invokevirtual 103, 3) := by decide +kernel
theorem dX4_isWord_54 : decode cX4_isWord 54 = .ok (.if_icmp .eq 5, 3) := by decide +kernel
theorem dX4_isWord_57 : decode cX4_isWord 57 = .ok (.iconst 0, 1) := by decide +kernel
theorem dX4_isWord_58 : decode cX4_isWord 58 = .ok (.ireturn, 1) := by decide +kernel
theorem dX4_isWord_59 : decode cX4_isWord 59 = .ok (.iinc 2 1, 3) := by decide +kernel
theorem dX4_isWord_62 : decode cX4_isWord 62 = .ok (.goto (-34), 3) := by decide +kernel
theorem dX4_isWord_65 : decode cX4_isWord 65 = .ok (.iconst 1, 1) := by decide +kernel
theorem dX4_isWord_66 : decode cX4_isWord 66 = .ok (.ireturn, 1) := by decide +kernel
theorem dX4_isBlank_0 : decode cX4_isBlank 0 = .ok (.iload_n 0, 1) := by decide +kernel
theorem dX4_isBlank_1 : decode cX4_isBlank 1 = .ok (.bipush 32, 2) := by decide +kernel
theorem dX4_isBlank_3 : decode cX4_isBlank 3 = .ok (.if_icmp .eq 9, 3) := by decide +kernel
theorem dX4_isBlank_6 : decode cX4_isBlank 6 = .ok (.iload_n 0, 1) := by decide +kernel
theorem dX4_isBlank_7 : decode cX4_isBlank 7 = .ok (.bipush 10, 2) := by decide +kernel
theorem dX4_isBlank_9 : decode cX4_isBlank 9 = .ok (.if_icmp .ne 7, 3) := by decide +kernel
theorem dX4_isBlank_12 : decode cX4_isBlank 12 = .ok (.iconst 1, 1) := by decide +kernel
theorem dX4_isBlank_13 : decode cX4_isBlank 13 = .ok (.goto 4, 3) := by decide +kernel
theorem dX4_isBlank_16 : decode cX4_isBlank 16 = .ok (.iconst 0, 1) := by decide +kernel
theorem dX4_isBlank_17 : decode cX4_isBlank 17 = .ok (.ireturn, 1) := by decide +kernel
theorem dX4_kindOf_0 : decode cX4_kindOf 0 = .ok (.iload_n 0, 1) := by decide +kernel
theorem dX4_kindOf_1 : decode cX4_kindOf 1 = .ok (.bipush 97, 2) := by decide +kernel
theorem dX4_kindOf_3 : decode cX4_kindOf 3 = .ok (.if_icmp .lt 11, 3) := by decide +kernel
theorem dX4_kindOf_6 : decode cX4_kindOf 6 = .ok (.iload_n 0, 1) := by decide +kernel
theorem dX4_kindOf_7 : decode cX4_kindOf 7 = .ok (.bipush 122, 2) := by decide +kernel
theorem dX4_kindOf_9 : decode cX4_kindOf 9 = .ok (.if_icmp .gt 5, 3) := by decide +kernel
theorem dX4_kindOf_12 : decode cX4_kindOf 12 = .ok (.iconst 1, 1) := by decide +kernel
theorem dX4_kindOf_13 : decode cX4_kindOf 13 = .ok (.ireturn, 1) := by decide +kernel
theorem dX4_kindOf_14 : decode cX4_kindOf 14 = .ok (.iload_n 0, 1) := by decide +kernel
theorem dX4_kindOf_15 : decode cX4_kindOf 15 = .ok (.bipush 48, 2) := by decide +kernel
theorem dX4_kindOf_17 : decode cX4_kindOf 17 = .ok (.if_icmp .lt 11, 3) := by decide +kernel
theorem dX4_kindOf_20 : decode cX4_kindOf 20 = .ok (.iload_n 0, 1) := by decide +kernel
theorem dX4_kindOf_21 : decode cX4_kindOf 21 = .ok (.bipush 57, 2) := by decide +kernel
theorem dX4_kindOf_23 : decode cX4_kindOf 23 = .ok (.if_icmp .gt 5, 3) := by decide +kernel
theorem dX4_kindOf_26 : decode cX4_kindOf 26 = .ok (.iconst 2, 1) := by decide +kernel
theorem dX4_kindOf_27 : decode cX4_kindOf 27 = .ok (.ireturn, 1) := by decide +kernel
theorem dX4_kindOf_28 : decode cX4_kindOf 28 = .ok (.iload_n 0, 1) := by decide +kernel
theorem dX4_kindOf_29 : decode cX4_kindOf 29 = .ok (.bipush 59, 2) := by decide +kernel
theorem dX4_kindOf_31 : decode cX4_kindOf 31 = .ok (.if_icmp .ne 7, 3) := by decide +kernel
theorem dX4_kindOf_34 : decode cX4_kindOf 34 = .ok (.iconst 3, 1) := by decide +kernel
theorem dX4_kindOf_35 : decode cX4_kindOf 35 = .ok (.goto 4, 3) := by decide +kernel
theorem dX4_kindOf_38 : decode cX4_kindOf 38 = .ok (.iconst 4, 1) := by decide +kernel
theorem dX4_kindOf_39 : decode cX4_kindOf 39 = .ok (.ireturn, 1) := by decide +kernel
theorem dX5_init_0 : decode cX5_init 0 = .ok (.aload_n 0, 1) := by decide +kernel
theorem dX5_init_1 : decode cX5_init 1 = .ok (.invokespecial 3, 3) := by decide +kernel
theorem dX5_init_4 : decode cX5_init 4 = .ok (.aload_n 0, 1) := by decide +kernel
theorem dX5_init_5 : decode cX5_init 5 = .ok (.bipush 6, 2) := by decide +kernel
theorem dX5_init_7 : decode cX5_init 7 = .ok (.newarray .int, 2) := by decide +kernel
theorem dX5_init_9 : decode cX5_init 9 = .ok (.putfield 11, 3) := by decide +kernel
theorem dX5_init_12 : decode cX5_init 12 = .ok (.aload_n 0, 1) := by decide +kernel
theorem dX5_init_13 : decode cX5_init 13 = .ok (.bipush 6, 2) := by decide +kernel
theorem dX5_init_15 : decode cX5_init 15 = .ok (.newarray .int, 2) := by decide +kernel
theorem dX5_init_17 : decode cX5_init 17 = .ok (.putfield 15, 3) := by decide +kernel
theorem dX5_init_20 : decode cX5_init 20 = .ok (.aload_n 0, 1) := by decide +kernel
theorem dX5_init_21 : decode cX5_init 21 = .ok (.bipush 6, 2) := by decide +kernel
theorem dX5_init_23 : decode cX5_init 23 = .ok (.newarray .int, 2) := by decide +kernel
theorem dX5_init_25 : decode cX5_init 25 = .ok (.putfield 18, 3) := by decide +kernel
theorem dX5_init_28 : decode cX5_init 28 = .ok (.aload_n 0, 1) := by decide +kernel
theorem dX5_init_29 : decode cX5_init 29 = .ok (.bipush 64, 2) := by decide +kernel
theorem dX5_init_31 : decode cX5_init 31 = .ok (.newarray .int, 2) := by decide +kernel
theorem dX5_init_33 : decode cX5_init 33 = .ok (.putfield 21, 3) := by decide +kernel
theorem dX5_init_36 : decode cX5_init 36 = .ok (.aload_n 0, 1) := by decide +kernel
theorem dX5_init_37 : decode cX5_init 37 = .ok (.iconst 0, 1) := by decide +kernel
theorem dX5_init_38 : decode cX5_init 38 = .ok (.putfield 24, 3) := by decide +kernel
theorem dX5_init_41 : decode cX5_init 41 = .ok (.aload_n 0, 1) := by decide +kernel
theorem dX5_init_42 : decode cX5_init 42 = .ok (.iconst 0, 1) := by decide +kernel
theorem dX5_init_43 : decode cX5_init 43 = .ok (.putfield 28, 3) := by decide +kernel
theorem dX5_init_46 : decode cX5_init 46 = .ok (.return_, 1) := by decide +kernel
theorem dX5_clear_0 : decode cX5_clear 0 = .ok (.aload_n 0, 1) := by decide +kernel
theorem dX5_clear_1 : decode cX5_clear 1 = .ok (.iconst 0, 1) := by decide +kernel
theorem dX5_clear_2 : decode cX5_clear 2 = .ok (.putfield 24, 3) := by decide +kernel
theorem dX5_clear_5 : decode cX5_clear 5 = .ok (.return_, 1) := by decide +kernel
theorem dX5_add_0 : decode cX5_add 0 = .ok (.aload_n 0, 1) := by decide +kernel
theorem dX5_add_1 : decode cX5_add 1 = .ok (.getfield 24, 3) := by decide +kernel
theorem dX5_add_4 : decode cX5_add 4 = .ok (.bipush 6, 2) := by decide +kernel
theorem dX5_add_6 : decode cX5_add 6 = .ok (.if_icmp .ge 43, 3) := by decide +kernel
theorem dX5_add_9 : decode cX5_add 9 = .ok (.aload_n 0, 1) := by decide +kernel
theorem dX5_add_10 : decode cX5_add 10 = .ok (.getfield 11, 3) := by decide +kernel
theorem dX5_add_13 : decode cX5_add 13 = .ok (.aload_n 0, 1) := by decide +kernel
theorem dX5_add_14 : decode cX5_add 14 = .ok (.getfield 24, 3) := by decide +kernel
theorem dX5_add_17 : decode cX5_add 17 = .ok (.iload_n 1, 1) := by decide +kernel
theorem dX5_add_18 : decode cX5_add 18 = .ok (.iastore, 1) := by decide +kernel
theorem dX5_add_19 : decode cX5_add 19 = .ok (.aload_n 0, 1) := by decide +kernel
theorem dX5_add_20 : decode cX5_add 20 = .ok (.getfield 15, 3) := by decide +kernel
theorem dX5_add_23 : decode cX5_add 23 = .ok (.aload_n 0, 1) := by decide +kernel
theorem dX5_add_24 : decode cX5_add 24 = .ok (.getfield 24, 3) := by decide +kernel
theorem dX5_add_27 : decode cX5_add 27 = .ok (.iload_n 2, 1) := by decide +kernel
theorem dX5_add_28 : decode cX5_add 28 = .ok (.iastore, 1) := by decide +kernel
theorem dX5_add_29 : decode cX5_add 29 = .ok (.aload_n 0, 1) := by decide +kernel
theorem dX5_add_30 : decode cX5_add 30 = .ok (.getfield 18, 3) := by decide +kernel
theorem dX5_add_33 : decode cX5_add 33 = .ok (.aload_n 0, 1) := by decide +kernel
theorem dX5_add_34 : decode cX5_add 34 = .ok (.getfield 24, 3) := by decide +kernel
theorem dX5_add_37 : decode cX5_add 37 = .ok (.iload_n 3, 1) := by decide +kernel
theorem dX5_add_38 : decode cX5_add 38 = .ok (.iastore, 1) := by decide +kernel
theorem dX5_add_39 : decode cX5_add 39 = .ok (.aload_n 0, 1) := by decide +kernel
theorem dX5_add_40 : decode cX5_add 40 = .ok (.dup, 1) := by decide +kernel
theorem dX5_add_41 : decode cX5_add 41 = .ok (.getfield 24, 3) := by decide +kernel
theorem dX5_add_44 : decode cX5_add 44 = .ok (.iconst 1, 1) := by decide +kernel
theorem dX5_add_45 : decode cX5_add 45 = .ok (.iadd, 1) := by decide +kernel
theorem dX5_add_46 : decode cX5_add 46 = .ok (.putfield 24, 3) := by decide +kernel
theorem dX5_add_49 : decode cX5_add 49 = .ok (.return_, 1) := by decide +kernel
set_option maxRecDepth 20000 in
theorem ggX5_weigh_X5_bestNext : GoodIn wsX5_weigh wsX5_bestNext := goodIn_r _ [8, 2, 9, 10, 11, 7, 12, 3, 13, 14, 15, 16, 17, 18, 19, 20, 21, 22, 23, 24, 1, 25, 26, 27, 28, 29, 30, 31] (by decide +kernel) (by decide +kernel)
set_option maxRecDepth 20000 in
theorem gX5_weigh_X5_bestNext : GoodIn wsX5_weigh (wsV RX5 31 RX5 yX5_bestNext wsX5_bestNext) := goodIn_app (goodIn_of _ (by decide +kernel)) ggX5_weigh_X5_bestNext
set_option maxRecDepth 20000 in
theorem ggX5_weigh_X5_restWith : GoodIn wsX5_weigh wsX5_restWith := goodIn_r _ [12, 2, 3, 13, 14, 15, 16, 17, 18, 19, 20, 21, 22, 23, 7, 24, 1, 25, 26, 27, 28, 29, 30, 31] (by decide +kernel) (by decide +kernel)
set_option maxRecDepth 20000 in
theorem gX5_weigh_X5_restWith : GoodIn wsX5_weigh (wsV RX5 35 RX5 yX5_restWith wsX5_restWith) := goodIn_app (goodIn_of _ (by decide +kernel)) ggX5_weigh_X5_restWith
theorem dX5_weigh_0 : decode cX5_weigh 0 = .ok (.aload_n 0, 1) := by decide +kernel
theorem dX5_weigh_1 : decode cX5_weigh 1 = .ok (.iload_n 1, 1) := by decide +kernel
theorem dX5_weigh_2 : decode cX5_weigh 2 = .ok (.putfield 28, 3) := by decide +kernel
theorem dX5_weigh_5 : decode cX5_weigh 5 = .ok (.iconst 1, 1) := by decide +kernel
theorem dX5_weigh_6 : decode cX5_weigh 6 = .ok (.aload_n 0, 1) := by decide +kernel
theorem dX5_weigh_7 : decode cX5_weigh 7 = .ok (.getfield 24, 3) := by decide +kernel
theorem dX5_weigh_10 : decode cX5_weigh 10 = .ok (.ishl, 1) := by decide +kernel
theorem dX5_weigh_11 : decode cX5_weigh 11 = .ok (.iconst 1, 1) := by decide +kernel
theorem dX5_weigh_12 : decode cX5_weigh 12 = .ok (.isub, 1) := by decide +kernel
theorem dX5_weigh_13 : decode cX5_weigh 13 = .ok (.istore_n 2, 1) := by decide +kernel
theorem dX5_weigh_14 : decode cX5_weigh 14 = .ok (.iload_n 2, 1) := by decide +kernel
theorem dX5_weigh_15 : decode cX5_weigh 15 = .ok (.istore_n 3, 1) := by decide +kernel
theorem dX5_weigh_16 : decode cX5_weigh 16 = .ok (.iload_n 3, 1) := by decide +kernel
theorem dX5_weigh_17 : decode cX5_weigh 17 = .ok (.ifCond .lt 39, 3) := by decide +kernel
theorem dX5_weigh_20 : decode cX5_weigh 20 = .ok (.aload_n 0, 1) := by decide +kernel
theorem dX5_weigh_21 : decode cX5_weigh 21 = .ok (.iload_n 3, 1) := by decide +kernel
theorem dX5_weigh_22 : decode cX5_weigh 22 = .ok (.invokevirtual 31, 3) := by decide +kernel
theorem dX5_weigh_25 : decode cX5_weigh 25 = .ok (.istore 4, 2) := by decide +kernel
theorem dX5_weigh_27 : decode cX5_weigh 27 = .ok (.aload_n 0, 1) := by decide +kernel
theorem dX5_weigh_28 : decode cX5_weigh 28 = .ok (.getfield 21, 3) := by decide +kernel
theorem dX5_weigh_31 : decode cX5_weigh 31 = .ok (.iload_n 3, 1) := by decide +kernel
theorem dX5_weigh_32 : decode cX5_weigh 32 = .ok (.iload 4, 2) := by decide +kernel
theorem dX5_weigh_34 : decode cX5_weigh 34 = .ok (.iconst (-1), 1) := by decide +kernel
theorem dX5_weigh_35 : decode cX5_weigh 35 = .ok (.if_icmp .ne 7, 3) := by decide +kernel
theorem dX5_weigh_38 : decode cX5_weigh 38 = .ok (.iconst 0, 1) := by decide +kernel
theorem dX5_weigh_39 : decode cX5_weigh 39 = .ok (.goto 10, 3) := by decide +kernel
theorem dX5_weigh_42 : decode cX5_weigh 42 = .ok (.aload_n 0, 1) := by decide +kernel
theorem dX5_weigh_43 : decode cX5_weigh 43 = .ok (.iload_n 3, 1) := by decide +kernel
theorem dX5_weigh_44 : decode cX5_weigh 44 = .ok (.iload 4, 2) := by decide +kernel
theorem dX5_weigh_46 : decode cX5_weigh 46 = .ok (.invokevirtual 35, 3) := by decide +kernel
theorem dX5_weigh_49 : decode cX5_weigh 49 = .ok (.iastore, 1) := by decide +kernel
theorem dX5_weigh_50 : decode cX5_weigh 50 = .ok (.iinc 3 (-1), 3) := by decide +kernel
theorem dX5_weigh_53 : decode cX5_weigh 53 = .ok (.goto (-37), 3) := by decide +kernel
theorem dX5_weigh_56 : decode cX5_weigh 56 = .ok (.return_, 1) := by decide +kernel
theorem dX5_leastSum_0 : decode cX5_leastSum 0 = .ok (.aload_n 0, 1) := by decide +kernel
theorem dX5_leastSum_1 : decode cX5_leastSum 1 = .ok (.getfield 21, 3) := by decide +kernel
theorem dX5_leastSum_4 : decode cX5_leastSum 4 = .ok (.iconst 0, 1) := by decide +kernel
theorem dX5_leastSum_5 : decode cX5_leastSum 5 = .ok (.iaload, 1) := by decide +kernel
theorem dX5_leastSum_6 : decode cX5_leastSum 6 = .ok (.ireturn, 1) := by decide +kernel
set_option maxRecDepth 20000 in
theorem ggX5_inPlace_X9_isPlace : GoodIn wsX5_inPlace wsX9_isPlace := goodIn_r _ [5] (by decide +kernel) (by decide +kernel)
set_option maxRecDepth 20000 in
theorem gX5_inPlace_X9_isPlace_n39 : GoodIn wsX5_inPlace (wsX9_isPlace) := ggX5_inPlace_X9_isPlace
set_option maxRecDepth 20000 in
theorem ggX5_inPlace_X5_bestNext : GoodIn wsX5_inPlace wsX5_bestNext := goodIn_r _ [10, 1, 11, 12, 13, 9, 14, 15, 16, 17, 18, 19, 20, 3, 4, 5, 21, 22, 23, 24, 25, 26, 27, 28, 29, 30, 31, 32] (by decide +kernel) (by decide +kernel)
set_option maxRecDepth 20000 in
theorem gX5_inPlace_X5_bestNext : GoodIn wsX5_inPlace (wsV RX5 31 RX5 yX5_bestNext wsX5_bestNext) := goodIn_app (goodIn_of _ (by decide +kernel)) ggX5_inPlace_X5_bestNext
theorem dX5_inPlace_0 : decode cX5_inPlace 0 = .ok (.iload_n 1, 1) := by decide +kernel
theorem dX5_inPlace_1 : decode cX5_inPlace 1 = .ok (.aload_n 0, 1) := by decide +kernel
theorem dX5_inPlace_2 : decode cX5_inPlace 2 = .ok (.getfield 24, 3) := by decide +kernel
theorem dX5_inPlace_5 : decode cX5_inPlace 5 = .ok (.invokestatic 39, 3) := by decide +kernel
theorem dX5_inPlace_8 : decode cX5_inPlace 8 = .ok (.ifCond .ne 5, 3) := by decide +kernel
theorem dX5_inPlace_11 : decode cX5_inPlace 11 = .ok (.iconst (-1), 1) := by decide +kernel
theorem dX5_inPlace_12 : decode cX5_inPlace 12 = .ok (.ireturn, 1) := by decide +kernel
theorem dX5_inPlace_13 : decode cX5_inPlace 13 = .ok (.iconst 0, 1) := by decide +kernel
theorem dX5_inPlace_14 : decode cX5_inPlace 14 = .ok (.istore_n 2, 1) := by decide +kernel
theorem dX5_inPlace_15 : decode cX5_inPlace 15 = .ok (.aload_n 0, 1) := by decide +kernel
theorem dX5_inPlace_16 : decode cX5_inPlace 16 = .ok (.iload_n 2, 1) := by decide +kernel
theorem dX5_inPlace_17 : decode cX5_inPlace 17 = .ok (.invokevirtual 31, 3) := by decide +kernel
theorem dX5_inPlace_20 : decode cX5_inPlace 20 = .ok (.istore_n 3, 1) := by decide +kernel
theorem dX5_inPlace_21 : decode cX5_inPlace 21 = .ok (.iconst 0, 1) := by decide +kernel
theorem dX5_inPlace_22 : decode cX5_inPlace 22 = .ok (.istore 4, 2) := by decide +kernel
theorem dX5_inPlace_24 : decode cX5_inPlace 24 = .ok (.iload 4, 2) := by decide +kernel
theorem dX5_inPlace_26 : decode cX5_inPlace 26 = .ok (.iload_n 1, 1) := by decide +kernel
theorem dX5_inPlace_27 : decode cX5_inPlace 27 = .ok (.if_icmp .ge 26, 3) := by decide +kernel
theorem dX5_inPlace_30 : decode cX5_inPlace 30 = .ok (.iload_n 3, 1) := by decide +kernel
theorem dX5_inPlace_31 : decode cX5_inPlace 31 = .ok (.iconst (-1), 1) := by decide +kernel
theorem dX5_inPlace_32 : decode cX5_inPlace 32 = .ok (.if_icmp .eq 21, 3) := by decide +kernel
theorem dX5_inPlace_35 : decode cX5_inPlace 35 = .ok (.iload_n 2, 1) := by decide +kernel
theorem dX5_inPlace_36 : decode cX5_inPlace 36 = .ok (.iconst 1, 1) := by decide +kernel
theorem dX5_inPlace_37 : decode cX5_inPlace 37 = .ok (.iload_n 3, 1) := by decide +kernel
theorem dX5_inPlace_38 : decode cX5_inPlace 38 = .ok (.ishl, 1) := by decide +kernel
theorem dX5_inPlace_39 : decode cX5_inPlace 39 = .ok (.ior, 1) := by decide +kernel
theorem dX5_inPlace_40 : decode cX5_inPlace 40 = .ok (.istore_n 2, 1) := by decide +kernel
theorem dX5_inPlace_41 : decode cX5_inPlace 41 = .ok (.aload_n 0, 1) := by decide +kernel
theorem dX5_inPlace_42 : decode cX5_inPlace 42 = .ok (.iload_n 2, 1) := by decide +kernel
theorem dX5_inPlace_43 : decode cX5_inPlace 43 = .ok (.invokevirtual 31, 3) := by decide +kernel
theorem dX5_inPlace_46 : decode cX5_inPlace 46 = .ok (.istore_n 3, 1) := by decide +kernel
theorem dX5_inPlace_47 : decode cX5_inPlace 47 = .ok (.iinc 4 1, 3) := by decide +kernel
theorem dX5_inPlace_50 : decode cX5_inPlace 50 = .ok (.goto (-26), 3) := by decide +kernel
theorem dX5_inPlace_53 : decode cX5_inPlace 53 = .ok (.iload_n 3, 1) := by decide +kernel
theorem dX5_inPlace_54 : decode cX5_inPlace 54 = .ok (.aload_n 0, 1) := by decide +kernel
theorem dX5_inPlace_55 : decode cX5_inPlace 55 = .ok (.getfield 24, 3) := by decide +kernel
theorem dX5_inPlace_58 : decode cX5_inPlace 58 = .ok (.invokestatic 39, 3) := by decide +kernel
theorem dX5_inPlace_61 : decode cX5_inPlace 61 = .ok (.ifCond .eq 12, 3) := by decide +kernel
theorem dX5_inPlace_64 : decode cX5_inPlace 64 = .ok (.aload_n 0, 1) := by decide +kernel
theorem dX5_inPlace_65 : decode cX5_inPlace 65 = .ok (.getfield 11, 3) := by decide +kernel
theorem dX5_inPlace_68 : decode cX5_inPlace 68 = .ok (.iload_n 3, 1) := by decide +kernel
theorem dX5_inPlace_69 : decode cX5_inPlace 69 = .ok (.iaload, 1) := by decide +kernel
theorem dX5_inPlace_70 : decode cX5_inPlace 70 = .ok (.goto 4, 3) := by decide +kernel
theorem dX5_inPlace_73 : decode cX5_inPlace 73 = .ok (.iconst (-1), 1) := by decide +kernel
theorem dX5_inPlace_74 : decode cX5_inPlace 74 = .ok (.ireturn, 1) := by decide +kernel
set_option maxRecDepth 20000 in
theorem ggX5_bestNext_X5_restWith : GoodIn wsX5_bestNext wsX5_restWith := goodIn_r _ [6, 1, 7, 8, 9, 10, 11, 12, 13, 14, 15, 16, 17, 18, 5, 19, 20, 21, 22, 23, 24, 25, 26, 27] (by decide +kernel) (by decide +kernel)
set_option maxRecDepth 20000 in
theorem gX5_bestNext_X5_restWith : GoodIn wsX5_bestNext (wsV RX5 35 RX5 yX5_restWith wsX5_restWith) := goodIn_app (goodIn_of _ (by decide +kernel)) ggX5_bestNext_X5_restWith
theorem dX5_bestNext_0 : decode cX5_bestNext 0 = .ok (.iconst (-1), 1) := by decide +kernel
theorem dX5_bestNext_1 : decode cX5_bestNext 1 = .ok (.istore_n 2, 1) := by decide +kernel
theorem dX5_bestNext_2 : decode cX5_bestNext 2 = .ok (.iconst 0, 1) := by decide +kernel
theorem dX5_bestNext_3 : decode cX5_bestNext 3 = .ok (.istore_n 3, 1) := by decide +kernel
theorem dX5_bestNext_4 : decode cX5_bestNext 4 = .ok (.iload_n 3, 1) := by decide +kernel
theorem dX5_bestNext_5 : decode cX5_bestNext 5 = .ok (.aload_n 0, 1) := by decide +kernel
theorem dX5_bestNext_6 : decode cX5_bestNext 6 = .ok (.getfield 24, 3) := by decide +kernel
theorem dX5_bestNext_9 : decode cX5_bestNext 9 = .ok (.if_icmp .ge 51, 3) := by decide +kernel
theorem dX5_bestNext_12 : decode cX5_bestNext 12 = .ok (.iload_n 1, 1) := by decide +kernel
theorem dX5_bestNext_13 : decode cX5_bestNext 13 = .ok (.iload_n 3, 1) := by decide +kernel
theorem dX5_bestNext_14 : decode cX5_bestNext 14 = .ok (.ishr, 1) := by decide +kernel
theorem dX5_bestNext_15 : decode cX5_bestNext 15 = .ok (.iconst 1, 1) := by decide +kernel
theorem dX5_bestNext_16 : decode cX5_bestNext 16 = .ok (.iand, 1) := by decide +kernel
theorem dX5_bestNext_17 : decode cX5_bestNext 17 = .ok (.ifCond .ne 7, 3) := by decide +kernel
theorem dX5_bestNext_20 : decode cX5_bestNext 20 = .ok (.iconst 1, 1) := by decide +kernel
theorem dX5_bestNext_21 : decode cX5_bestNext 21 = .ok (.goto 4, 3) := by decide +kernel
theorem dX5_bestNext_24 : decode cX5_bestNext 24 = .ok (.iconst 0, 1) := by decide +kernel
theorem dX5_bestNext_25 : decode cX5_bestNext 25 = .ok (.istore 4, 2) := by decide +kernel
theorem dX5_bestNext_27 : decode cX5_bestNext 27 = .ok (.iload 4, 2) := by decide +kernel
theorem dX5_bestNext_29 : decode cX5_bestNext 29 = .ok (.ifCond .eq 25, 3) := by decide +kernel
theorem dX5_bestNext_32 : decode cX5_bestNext 32 = .ok (.iload_n 2, 1) := by decide +kernel
theorem dX5_bestNext_33 : decode cX5_bestNext 33 = .ok (.iconst (-1), 1) := by decide +kernel
theorem dX5_bestNext_34 : decode cX5_bestNext 34 = .ok (.if_icmp .eq 18, 3) := by decide +kernel
theorem dX5_bestNext_37 : decode cX5_bestNext 37 = .ok (.aload_n 0, 1) := by decide +kernel
theorem dX5_bestNext_38 : decode cX5_bestNext 38 = .ok (.iload_n 1, 1) := by decide +kernel
theorem dX5_bestNext_39 : decode cX5_bestNext 39 = .ok (.iload_n 3, 1) := by decide +kernel
theorem dX5_bestNext_40 : decode cX5_bestNext 40 = .ok (.invokevirtual 35, 3) := by decide +kernel
theorem dX5_bestNext_43 : decode cX5_bestNext 43 = .ok (.aload_n 0, 1) := by decide +kernel
theorem dX5_bestNext_44 : decode cX5_bestNext 44 = .ok (.iload_n 1, 1) := by decide +kernel
theorem dX5_bestNext_45 : decode cX5_bestNext 45 = .ok (.iload_n 2, 1) := by decide +kernel
theorem dX5_bestNext_46 : decode cX5_bestNext 46 = .ok (.invokevirtual 35, 3) := by decide +kernel
theorem dX5_bestNext_49 : decode cX5_bestNext 49 = .ok (.if_icmp .ge 5, 3) := by decide +kernel
theorem dX5_bestNext_52 : decode cX5_bestNext 52 = .ok (.iload_n 3, 1) := by decide +kernel
theorem dX5_bestNext_53 : decode cX5_bestNext 53 = .ok (.istore_n 2, 1) := by decide +kernel
theorem dX5_bestNext_54 : decode cX5_bestNext 54 = .ok (.iinc 3 1, 3) := by decide +kernel
theorem dX5_bestNext_57 : decode cX5_bestNext 57 = .ok (.goto (-53), 3) := by decide +kernel
theorem dX5_bestNext_60 : decode cX5_bestNext 60 = .ok (.iload_n 2, 1) := by decide +kernel
theorem dX5_bestNext_61 : decode cX5_bestNext 61 = .ok (.ireturn, 1) := by decide +kernel
set_option maxRecDepth 20000 in
theorem ggX5_restWith_X9_isPlace : GoodIn wsX5_restWith wsX9_isPlace := goodIn_r _ [10] (by decide +kernel) (by decide +kernel)
set_option maxRecDepth 20000 in
theorem gX5_restWith_X9_isPlace_n39 : GoodIn wsX5_restWith (wsX9_isPlace) := ggX5_restWith_X9_isPlace
set_option maxRecDepth 20000 in
theorem ggX5_restWith_X5_endOf : GoodIn wsX5_restWith wsX5_endOf := goodIn_r _ [15, 16, 1, 17, 18, 19, 20, 21, 22, 23] (by decide +kernel) (by decide +kernel)
set_option maxRecDepth 20000 in
theorem gX5_restWith_X5_endOf : GoodIn wsX5_restWith (wsV RX5 43 RX5 yX5_endOf wsX5_endOf) := goodIn_app (goodIn_of _ (by decide +kernel)) ggX5_restWith_X5_endOf
theorem dX5_restWith_0 : decode cX5_restWith 0 = .ok (.iload_n 1, 1) := by decide +kernel
theorem dX5_restWith_1 : decode cX5_restWith 1 = .ok (.iconst 1, 1) := by decide +kernel
theorem dX5_restWith_2 : decode cX5_restWith 2 = .ok (.iload_n 2, 1) := by decide +kernel
theorem dX5_restWith_3 : decode cX5_restWith 3 = .ok (.ishl, 1) := by decide +kernel
theorem dX5_restWith_4 : decode cX5_restWith 4 = .ok (.ior, 1) := by decide +kernel
theorem dX5_restWith_5 : decode cX5_restWith 5 = .ok (.istore_n 3, 1) := by decide +kernel
theorem dX5_restWith_6 : decode cX5_restWith 6 = .ok (.iload_n 2, 1) := by decide +kernel
theorem dX5_restWith_7 : decode cX5_restWith 7 = .ok (.aload_n 0, 1) := by decide +kernel
theorem dX5_restWith_8 : decode cX5_restWith 8 = .ok (.getfield 24, 3) := by decide +kernel
theorem dX5_restWith_11 : decode cX5_restWith 11 = .ok (.invokestatic 39, 3) := by decide +kernel
theorem dX5_restWith_14 : decode cX5_restWith 14 = .ok (.ifCond .eq 15, 3) := by decide +kernel
theorem dX5_restWith_17 : decode cX5_restWith 17 = .ok (.iload_n 3, 1) := by decide +kernel
theorem dX5_restWith_18 : decode cX5_restWith 18 = .ok (.aload_n 0, 1) := by decide +kernel
theorem dX5_restWith_19 : decode cX5_restWith 19 = .ok (.getfield 21, 3) := by decide +kernel
theorem dX5_restWith_22 : decode cX5_restWith 22 = .ok (.arraylength, 1) := by decide +kernel
theorem dX5_restWith_23 : decode cX5_restWith 23 = .ok (.invokestatic 39, 3) := by decide +kernel
theorem dX5_restWith_26 : decode cX5_restWith 26 = .ok (.ifCond .ne 5, 3) := by decide +kernel
theorem dX5_restWith_29 : decode cX5_restWith 29 = .ok (.iconst 0, 1) := by decide +kernel
theorem dX5_restWith_30 : decode cX5_restWith 30 = .ok (.ireturn, 1) := by decide +kernel
theorem dX5_restWith_31 : decode cX5_restWith 31 = .ok (.iconst 0, 1) := by decide +kernel
theorem dX5_restWith_32 : decode cX5_restWith 32 = .ok (.aload_n 0, 1) := by decide +kernel
theorem dX5_restWith_33 : decode cX5_restWith 33 = .ok (.iload_n 3, 1) := by decide +kernel
theorem dX5_restWith_34 : decode cX5_restWith 34 = .ok (.invokevirtual 43, 3) := by decide +kernel
theorem dX5_restWith_37 : decode cX5_restWith 37 = .ok (.aload_n 0, 1) := by decide +kernel
theorem dX5_restWith_38 : decode cX5_restWith 38 = .ok (.getfield 18, 3) := by decide +kernel
theorem dX5_restWith_41 : decode cX5_restWith 41 = .ok (.iload_n 2, 1) := by decide +kernel
theorem dX5_restWith_42 : decode cX5_restWith 42 = .ok (.iaload, 1) := by decide +kernel
theorem dX5_restWith_43 : decode cX5_restWith 43 = .ok (.isub, 1) := by decide +kernel
theorem dX5_restWith_44 : decode cX5_restWith 44 = .ok (.invokestatic 46, 3) := by decide +kernel
theorem dX5_restWith_47 : decode cX5_restWith 47 = .ok (.aload_n 0, 1) := by decide +kernel
theorem dX5_restWith_48 : decode cX5_restWith 48 = .ok (.getfield 21, 3) := by decide +kernel
theorem dX5_restWith_51 : decode cX5_restWith 51 = .ok (.iload_n 3, 1) := by decide +kernel
theorem dX5_restWith_52 : decode cX5_restWith 52 = .ok (.iaload, 1) := by decide +kernel
theorem dX5_restWith_53 : decode cX5_restWith 53 = .ok (.iadd, 1) := by decide +kernel
theorem dX5_restWith_54 : decode cX5_restWith 54 = .ok (.ireturn, 1) := by decide +kernel
theorem dX5_endOf_0 : decode cX5_endOf 0 = .ok (.aload_n 0, 1) := by decide +kernel
theorem dX5_endOf_1 : decode cX5_endOf 1 = .ok (.getfield 28, 3) := by decide +kernel
theorem dX5_endOf_4 : decode cX5_endOf 4 = .ok (.istore_n 2, 1) := by decide +kernel
theorem dX5_endOf_5 : decode cX5_endOf 5 = .ok (.iconst 0, 1) := by decide +kernel
theorem dX5_endOf_6 : decode cX5_endOf 6 = .ok (.istore_n 3, 1) := by decide +kernel
theorem dX5_endOf_7 : decode cX5_endOf 7 = .ok (.iload_n 3, 1) := by decide +kernel
theorem dX5_endOf_8 : decode cX5_endOf 8 = .ok (.aload_n 0, 1) := by decide +kernel
theorem dX5_endOf_9 : decode cX5_endOf 9 = .ok (.getfield 24, 3) := by decide +kernel
theorem dX5_endOf_12 : decode cX5_endOf 12 = .ok (.if_icmp .ge 27, 3) := by decide +kernel
theorem dX5_endOf_15 : decode cX5_endOf 15 = .ok (.iload_n 1, 1) := by decide +kernel
theorem dX5_endOf_16 : decode cX5_endOf 16 = .ok (.iload_n 3, 1) := by decide +kernel
theorem dX5_endOf_17 : decode cX5_endOf 17 = .ok (.ishr, 1) := by decide +kernel
theorem dX5_endOf_18 : decode cX5_endOf 18 = .ok (.iconst 1, 1) := by decide +kernel
theorem dX5_endOf_19 : decode cX5_endOf 19 = .ok (.iand, 1) := by decide +kernel
theorem dX5_endOf_20 : decode cX5_endOf 20 = .ok (.iconst 1, 1) := by decide +kernel
theorem dX5_endOf_21 : decode cX5_endOf 21 = .ok (.if_icmp .ne 12, 3) := by decide +kernel
theorem dX5_endOf_24 : decode cX5_endOf 24 = .ok (.iload_n 2, 1) := by decide +kernel
theorem dX5_endOf_25 : decode cX5_endOf 25 = .ok (.aload_n 0, 1) := by decide +kernel
theorem dX5_endOf_26 : decode cX5_endOf 26 = .ok (.getfield 15, 3) := by decide +kernel
theorem dX5_endOf_29 : decode cX5_endOf 29 = .ok (.iload_n 3, 1) := by decide +kernel
theorem dX5_endOf_30 : decode cX5_endOf 30 = .ok (.iaload, 1) := by decide +kernel
theorem dX5_endOf_31 : decode cX5_endOf 31 = .ok (.iadd, 1) := by decide +kernel
theorem dX5_endOf_32 : decode cX5_endOf 32 = .ok (.istore_n 2, 1) := by decide +kernel
theorem dX5_endOf_33 : decode cX5_endOf 33 = .ok (.iinc 3 1, 3) := by decide +kernel
theorem dX5_endOf_36 : decode cX5_endOf 36 = .ok (.goto (-29), 3) := by decide +kernel
theorem dX5_endOf_39 : decode cX5_endOf 39 = .ok (.iload_n 2, 1) := by decide +kernel
theorem dX5_endOf_40 : decode cX5_endOf 40 = .ok (.ireturn, 1) := by decide +kernel
theorem dX6_init_0 : decode cX6_init 0 = .ok (.aload_n 0, 1) := by decide +kernel
theorem dX6_init_1 : decode cX6_init 1 = .ok (.invokespecial 3, 3) := by decide +kernel
theorem dX6_init_4 : decode cX6_init 4 = .ok (.aload_n 0, 1) := by decide +kernel
theorem dX6_init_5 : decode cX6_init 5 = .ok (.iload_n 2, 1) := by decide +kernel
theorem dX6_init_6 : decode cX6_init 6 = .ok (.putfield 9, 3) := by decide +kernel
theorem dX6_init_9 : decode cX6_init 9 = .ok (.aload_n 0, 1) := by decide +kernel
theorem dX6_init_10 : decode cX6_init 10 = .ok (.iload_n 3, 1) := by decide +kernel
theorem dX6_init_11 : decode cX6_init 11 = .ok (.putfield 15, 3) := by decide +kernel
theorem dX6_init_14 : decode cX6_init 14 = .ok (.aload_n 0, 1) := by decide +kernel
theorem dX6_init_15 : decode cX6_init 15 = .ok (.iload 4, 2) := by decide +kernel
theorem dX6_init_17 : decode cX6_init 17 = .ok (.putfield 18, 3) := by decide +kernel
theorem dX6_init_20 : decode cX6_init 20 = .ok (.aload_n 0, 1) := by decide +kernel
theorem dX6_init_21 : decode cX6_init 21 = .ok (.iload 5, 2) := by decide +kernel
theorem dX6_init_23 : decode cX6_init 23 = .ok (.putfield 21, 3) := by decide +kernel
theorem dX6_init_26 : decode cX6_init 26 = .ok (.aload_n 0, 1) := by decide +kernel
theorem dX6_init_27 : decode cX6_init 27 = .ok (.iload_n 1, 1) := by decide +kernel
theorem dX6_init_28 : decode cX6_init 28 = .ok (.newarray .int, 2) := by decide +kernel
theorem dX6_init_30 : decode cX6_init 30 = .ok (.putfield 24, 3) := by decide +kernel
theorem dX6_init_33 : decode cX6_init 33 = .ok (.aload_n 0, 1) := by decide +kernel
theorem dX6_init_34 : decode cX6_init 34 = .ok (.iconst 4, 1) := by decide +kernel
theorem dX6_init_35 : decode cX6_init 35 = .ok (.newarray .int, 2) := by decide +kernel
theorem dX6_init_37 : decode cX6_init 37 = .ok (.putfield 28, 3) := by decide +kernel
theorem dX6_init_40 : decode cX6_init 40 = .ok (.aload_n 0, 1) := by decide +kernel
theorem dX6_init_41 : decode cX6_init 41 = .ok (.iconst 0, 1) := by decide +kernel
theorem dX6_init_42 : decode cX6_init 42 = .ok (.putfield 31, 3) := by decide +kernel
theorem dX6_init_45 : decode cX6_init 45 = .ok (.aload_n 0, 1) := by decide +kernel
theorem dX6_init_46 : decode cX6_init 46 = .ok (.iconst (-1), 1) := by decide +kernel
theorem dX6_init_47 : decode cX6_init 47 = .ok (.putfield 34, 3) := by decide +kernel
theorem dX6_init_50 : decode cX6_init 50 = .ok (.aload_n 0, 1) := by decide +kernel
theorem dX6_init_51 : decode cX6_init 51 = .ok (.iconst 0, 1) := by decide +kernel
theorem dX6_init_52 : decode cX6_init 52 = .ok (.putfield 37, 3) := by decide +kernel
theorem dX6_init_55 : decode cX6_init 55 = .ok (.aload_n 0, 1) := by decide +kernel
theorem dX6_init_56 : decode cX6_init 56 = .ok (.iconst 0, 1) := by decide +kernel
theorem dX6_init_57 : decode cX6_init 57 = .ok (.putfield 40, 3) := by decide +kernel
theorem dX6_init_60 : decode cX6_init 60 = .ok (.aload_n 0, 1) := by decide +kernel
theorem dX6_init_61 : decode cX6_init 61 = .ok (.sipush 400, 3) := by decide +kernel
theorem dX6_init_64 : decode cX6_init 64 = .ok (.putfield 43, 3) := by decide +kernel
theorem dX6_init_67 : decode cX6_init 67 = .ok (.aload_n 0, 1) := by decide +kernel
theorem dX6_init_68 : decode cX6_init 68 = .ok (.iconst 0, 1) := by decide +kernel
theorem dX6_init_69 : decode cX6_init 69 = .ok (.putfield 46, 3) := by decide +kernel
theorem dX6_init_72 : decode cX6_init 72 = .ok (.return_, 1) := by decide +kernel
theorem dX6_hasCome_0 : decode cX6_hasCome 0 = .ok (.aload_n 0, 1) := by decide +kernel
theorem dX6_hasCome_1 : decode cX6_hasCome 1 = .ok (.getfield 34, 3) := by decide +kernel
theorem dX6_hasCome_4 : decode cX6_hasCome 4 = .ok (.iconst (-1), 1) := by decide +kernel
theorem dX6_hasCome_5 : decode cX6_hasCome 5 = .ok (.if_icmp .eq 7, 3) := by decide +kernel
theorem dX6_hasCome_8 : decode cX6_hasCome 8 = .ok (.iconst 1, 1) := by decide +kernel
theorem dX6_hasCome_9 : decode cX6_hasCome 9 = .ok (.goto 4, 3) := by decide +kernel
theorem dX6_hasCome_12 : decode cX6_hasCome 12 = .ok (.iconst 0, 1) := by decide +kernel
theorem dX6_hasCome_13 : decode cX6_hasCome 13 = .ok (.ireturn, 1) := by decide +kernel
theorem dX6_bagsLeft_0 : decode cX6_bagsLeft 0 = .ok (.aload_n 0, 1) := by decide +kernel
theorem dX6_bagsLeft_1 : decode cX6_bagsLeft 1 = .ok (.getfield 18, 3) := by decide +kernel
theorem dX6_bagsLeft_4 : decode cX6_bagsLeft 4 = .ok (.aload_n 0, 1) := by decide +kernel
theorem dX6_bagsLeft_5 : decode cX6_bagsLeft 5 = .ok (.getfield 37, 3) := by decide +kernel
theorem dX6_bagsLeft_8 : decode cX6_bagsLeft 8 = .ok (.isub, 1) := by decide +kernel
theorem dX6_bagsLeft_9 : decode cX6_bagsLeft 9 = .ok (.ireturn, 1) := by decide +kernel
set_option maxRecDepth 20000 in
theorem ggX6_beginDay_X6_hasCome : GoodIn wsX6_beginDay wsX6_hasCome := goodIn_r _ [8, 9, 13, 14, 15, 16, 17, 18, 19, 20, 21, 22, 23, 24] (by decide +kernel) (by decide +kernel)
set_option maxRecDepth 20000 in
theorem gX6_beginDay_X6_hasCome : GoodIn wsX6_beginDay (wsV RX6 50 RX6 yX6_hasCome wsX6_hasCome) := goodIn_app (goodIn_of _ (by decide +kernel)) ggX6_beginDay_X6_hasCome
set_option maxRecDepth 20000 in
theorem ggX6_beginDay_X9_isPlace : GoodIn wsX6_beginDay wsX9_isPlace := goodIn_r _ [12] (by decide +kernel) (by decide +kernel)
set_option maxRecDepth 20000 in
theorem gX6_beginDay_X9_isPlace_n54 : GoodIn wsX6_beginDay (wsX9_isPlace) := ggX6_beginDay_X9_isPlace
theorem dX6_beginDay_0 : decode cX6_beginDay 0 = .ok (.aload_n 0, 1) := by decide +kernel
theorem dX6_beginDay_1 : decode cX6_beginDay 1 = .ok (.iconst 0, 1) := by decide +kernel
theorem dX6_beginDay_2 : decode cX6_beginDay 2 = .ok (.putfield 40, 3) := by decide +kernel
theorem dX6_beginDay_5 : decode cX6_beginDay 5 = .ok (.aload_n 0, 1) := by decide +kernel
theorem dX6_beginDay_6 : decode cX6_beginDay 6 = .ok (.invokevirtual 50, 3) := by decide +kernel
theorem dX6_beginDay_9 : decode cX6_beginDay 9 = .ok (.ifCond .ne 31, 3) := by decide +kernel
theorem dX6_beginDay_12 : decode cX6_beginDay 12 = .ok (.aload_n 0, 1) := by decide +kernel
theorem dX6_beginDay_13 : decode cX6_beginDay 13 = .ok (.getfield 31, 3) := by decide +kernel
theorem dX6_beginDay_16 : decode cX6_beginDay 16 = .ok (.aload_n 0, 1) := by decide +kernel
theorem dX6_beginDay_17 : decode cX6_beginDay 17 = .ok (.getfield 24, 3) := by decide +kernel
theorem dX6_beginDay_20 : decode cX6_beginDay 20 = .ok (.arraylength, 1) := by decide +kernel
theorem dX6_beginDay_21 : decode cX6_beginDay 21 = .ok (.invokestatic 54, 3) := by decide +kernel
theorem dX6_beginDay_24 : decode cX6_beginDay 24 = .ok (.ifCond .eq 16, 3) := by decide +kernel
theorem dX6_beginDay_27 : decode cX6_beginDay 27 = .ok (.aload_n 0, 1) := by decide +kernel
theorem dX6_beginDay_28 : decode cX6_beginDay 28 = .ok (.getfield 24, 3) := by decide +kernel
theorem dX6_beginDay_31 : decode cX6_beginDay 31 = .ok (.aload_n 0, 1) := by decide +kernel
theorem dX6_beginDay_32 : decode cX6_beginDay 32 = .ok (.getfield 31, 3) := by decide +kernel
theorem dX6_beginDay_35 : decode cX6_beginDay 35 = .ok (.dup2, 1) := by decide +kernel
theorem dX6_beginDay_36 : decode cX6_beginDay 36 = .ok (.iaload, 1) := by decide +kernel
theorem dX6_beginDay_37 : decode cX6_beginDay 37 = .ok (.iconst 1, 1) := by decide +kernel
theorem dX6_beginDay_38 : decode cX6_beginDay 38 = .ok (.iadd, 1) := by decide +kernel
theorem dX6_beginDay_39 : decode cX6_beginDay 39 = .ok (.iastore, 1) := by decide +kernel
theorem dX6_beginDay_40 : decode cX6_beginDay 40 = .ok (.return_, 1) := by decide +kernel
theorem dX6_moveUp_0 : decode cX6_moveUp 0 = .ok (.aload_n 0, 1) := by decide +kernel
theorem dX6_moveUp_1 : decode cX6_moveUp 1 = .ok (.dup, 1) := by decide +kernel
theorem dX6_moveUp_2 : decode cX6_moveUp 2 = .ok (.getfield 31, 3) := by decide +kernel
theorem dX6_moveUp_5 : decode cX6_moveUp 5 = .ok (.iconst 1, 1) := by decide +kernel
theorem dX6_moveUp_6 : decode cX6_moveUp 6 = .ok (.iadd, 1) := by decide +kernel
theorem dX6_moveUp_7 : decode cX6_moveUp 7 = .ok (.putfield 31, 3) := by decide +kernel
theorem dX6_moveUp_10 : decode cX6_moveUp 10 = .ok (.aload_n 0, 1) := by decide +kernel
theorem dX6_moveUp_11 : decode cX6_moveUp 11 = .ok (.getfield 31, 3) := by decide +kernel
theorem dX6_moveUp_14 : decode cX6_moveUp 14 = .ok (.aload_n 0, 1) := by decide +kernel
theorem dX6_moveUp_15 : decode cX6_moveUp 15 = .ok (.getfield 24, 3) := by decide +kernel
theorem dX6_moveUp_18 : decode cX6_moveUp 18 = .ok (.arraylength, 1) := by decide +kernel
theorem dX6_moveUp_19 : decode cX6_moveUp 19 = .ok (.iconst 1, 1) := by decide +kernel
theorem dX6_moveUp_20 : decode cX6_moveUp 20 = .ok (.isub, 1) := by decide +kernel
theorem dX6_moveUp_21 : decode cX6_moveUp 21 = .ok (.if_icmp .lt 8, 3) := by decide +kernel
theorem dX6_moveUp_24 : decode cX6_moveUp 24 = .ok (.aload_n 0, 1) := by decide +kernel
theorem dX6_moveUp_25 : decode cX6_moveUp 25 = .ok (.iload_n 1, 1) := by decide +kernel
theorem dX6_moveUp_26 : decode cX6_moveUp 26 = .ok (.putfield 34, 3) := by decide +kernel
theorem dX6_moveUp_29 : decode cX6_moveUp 29 = .ok (.return_, 1) := by decide +kernel
set_option maxRecDepth 20000 in
theorem ggX6_stay_X9_isPlace : GoodIn wsX6_stay wsX9_isPlace := goodIn_r _ [5] (by decide +kernel) (by decide +kernel)
set_option maxRecDepth 20000 in
theorem gX6_stay_X9_isPlace_n54 : GoodIn wsX6_stay (wsX9_isPlace) := ggX6_stay_X9_isPlace
theorem dX6_stay_0 : decode cX6_stay 0 = .ok (.aload_n 0, 1) := by decide +kernel
theorem dX6_stay_1 : decode cX6_stay 1 = .ok (.iload_n 1, 1) := by decide +kernel
theorem dX6_stay_2 : decode cX6_stay 2 = .ok (.putfield 40, 3) := by decide +kernel
theorem dX6_stay_5 : decode cX6_stay 5 = .ok (.iload_n 1, 1) := by decide +kernel
theorem dX6_stay_6 : decode cX6_stay 6 = .ok (.iconst 1, 1) := by decide +kernel
theorem dX6_stay_7 : decode cX6_stay 7 = .ok (.isub, 1) := by decide +kernel
theorem dX6_stay_8 : decode cX6_stay 8 = .ok (.iconst 4, 1) := by decide +kernel
theorem dX6_stay_9 : decode cX6_stay 9 = .ok (.invokestatic 54, 3) := by decide +kernel
theorem dX6_stay_12 : decode cX6_stay 12 = .ok (.ifCond .eq 15, 3) := by decide +kernel
theorem dX6_stay_15 : decode cX6_stay 15 = .ok (.aload_n 0, 1) := by decide +kernel
theorem dX6_stay_16 : decode cX6_stay 16 = .ok (.getfield 28, 3) := by decide +kernel
theorem dX6_stay_19 : decode cX6_stay 19 = .ok (.iload_n 1, 1) := by decide +kernel
theorem dX6_stay_20 : decode cX6_stay 20 = .ok (.iconst 1, 1) := by decide +kernel
theorem dX6_stay_21 : decode cX6_stay 21 = .ok (.isub, 1) := by decide +kernel
theorem dX6_stay_22 : decode cX6_stay 22 = .ok (.dup2, 1) := by decide +kernel
theorem dX6_stay_23 : decode cX6_stay 23 = .ok (.iaload, 1) := by decide +kernel
theorem dX6_stay_24 : decode cX6_stay 24 = .ok (.iconst 1, 1) := by decide +kernel
theorem dX6_stay_25 : decode cX6_stay 25 = .ok (.iadd, 1) := by decide +kernel
theorem dX6_stay_26 : decode cX6_stay 26 = .ok (.iastore, 1) := by decide +kernel
theorem dX6_stay_27 : decode cX6_stay 27 = .ok (.return_, 1) := by decide +kernel
set_option maxRecDepth 20000 in
theorem ggX6_tell_X6_bagsLeft : GoodIn wsX6_tell wsX6_bagsLeft := goodIn_r _ [10, 11, 12, 21, 22, 23, 24, 25, 26, 27, 28, 29, 30, 31, 32] (by decide +kernel) (by decide +kernel)
set_option maxRecDepth 20000 in
theorem gX6_tell_X6_bagsLeft : GoodIn wsX6_tell (wsV RX6 58 RX6 yX6_bagsLeft wsX6_bagsLeft) := goodIn_app (goodIn_of _ (by decide +kernel)) ggX6_tell_X6_bagsLeft
set_option maxRecDepth 20000 in
theorem ggX6_tell_X9_isPlace : GoodIn wsX6_tell wsX9_isPlace := goodIn_r _ [15] (by decide +kernel) (by decide +kernel)
set_option maxRecDepth 20000 in
theorem gX6_tell_X9_isPlace_n54 : GoodIn wsX6_tell (wsX9_isPlace) := ggX6_tell_X9_isPlace
set_option maxRecDepth 20000 in
theorem ggX6_tell_X6_tellDays : GoodIn wsX6_tell wsX6_tellDays := goodIn_r _ [19, 4, 20, 13, 14, 15, 21, 22, 23, 24, 25, 26, 27, 28, 29, 30, 31, 32] (by decide +kernel) (by decide +kernel)
set_option maxRecDepth 20000 in
theorem gX6_tell_X6_tellDays : GoodIn wsX6_tell (wsV RX6 62 RX6 yX6_tellDays wsX6_tellDays) := goodIn_app (goodIn_of _ (by decide +kernel)) ggX6_tell_X6_tellDays
theorem dX6_tell_0 : decode cX6_tell 0 = .ok (.iload_n 1, 1) := by decide +kernel
theorem dX6_tell_1 : decode cX6_tell 1 = .ok (.tableswitch 101 0 5 #[39, 44, 49, 54, 59, 88], 39) := by decide +kernel
theorem dX6_tell_40 : decode cX6_tell 40 = .ok (.aload_n 0, 1) := by decide +kernel
theorem dX6_tell_41 : decode cX6_tell 41 = .ok (.getfield 31, 3) := by decide +kernel
theorem dX6_tell_44 : decode cX6_tell 44 = .ok (.ireturn, 1) := by decide +kernel
theorem dX6_tell_45 : decode cX6_tell 45 = .ok (.aload_n 0, 1) := by decide +kernel
theorem dX6_tell_46 : decode cX6_tell 46 = .ok (.getfield 34, 3) := by decide +kernel
theorem dX6_tell_49 : decode cX6_tell 49 = .ok (.ireturn, 1) := by decide +kernel
theorem dX6_tell_50 : decode cX6_tell 50 = .ok (.aload_n 0, 1) := by decide +kernel
theorem dX6_tell_51 : decode cX6_tell 51 = .ok (.invokevirtual 58, 3) := by decide +kernel
theorem dX6_tell_54 : decode cX6_tell 54 = .ok (.ireturn, 1) := by decide +kernel
theorem dX6_tell_55 : decode cX6_tell 55 = .ok (.aload_n 0, 1) := by decide +kernel
theorem dX6_tell_56 : decode cX6_tell 56 = .ok (.getfield 40, 3) := by decide +kernel
theorem dX6_tell_59 : decode cX6_tell 59 = .ok (.ireturn, 1) := by decide +kernel
theorem dX6_tell_60 : decode cX6_tell 60 = .ok (.aload_n 0, 1) := by decide +kernel
theorem dX6_tell_61 : decode cX6_tell 61 = .ok (.getfield 31, 3) := by decide +kernel
theorem dX6_tell_64 : decode cX6_tell 64 = .ok (.aload_n 0, 1) := by decide +kernel
theorem dX6_tell_65 : decode cX6_tell 65 = .ok (.getfield 24, 3) := by decide +kernel
theorem dX6_tell_68 : decode cX6_tell 68 = .ok (.arraylength, 1) := by decide +kernel
theorem dX6_tell_69 : decode cX6_tell 69 = .ok (.invokestatic 54, 3) := by decide +kernel
theorem dX6_tell_72 : decode cX6_tell 72 = .ok (.ifCond .eq 15, 3) := by decide +kernel
theorem dX6_tell_75 : decode cX6_tell 75 = .ok (.aload_n 0, 1) := by decide +kernel
theorem dX6_tell_76 : decode cX6_tell 76 = .ok (.getfield 24, 3) := by decide +kernel
theorem dX6_tell_79 : decode cX6_tell 79 = .ok (.aload_n 0, 1) := by decide +kernel
theorem dX6_tell_80 : decode cX6_tell 80 = .ok (.getfield 31, 3) := by decide +kernel
theorem dX6_tell_83 : decode cX6_tell 83 = .ok (.iaload, 1) := by decide +kernel
theorem dX6_tell_84 : decode cX6_tell 84 = .ok (.goto 4, 3) := by decide +kernel
theorem dX6_tell_87 : decode cX6_tell 87 = .ok (.iconst (-1), 1) := by decide +kernel
theorem dX6_tell_88 : decode cX6_tell 88 = .ok (.ireturn, 1) := by decide +kernel
theorem dX6_tell_89 : decode cX6_tell 89 = .ok (.aload_n 0, 1) := by decide +kernel
theorem dX6_tell_90 : decode cX6_tell 90 = .ok (.getfield 46, 3) := by decide +kernel
theorem dX6_tell_93 : decode cX6_tell 93 = .ok (.ifCond .eq 7, 3) := by decide +kernel
theorem dX6_tell_96 : decode cX6_tell 96 = .ok (.iconst 1, 1) := by decide +kernel
theorem dX6_tell_97 : decode cX6_tell 97 = .ok (.goto 4, 3) := by decide +kernel
theorem dX6_tell_100 : decode cX6_tell 100 = .ok (.iconst 0, 1) := by decide +kernel
theorem dX6_tell_101 : decode cX6_tell 101 = .ok (.ireturn, 1) := by decide +kernel
theorem dX6_tell_102 : decode cX6_tell 102 = .ok (.aload_n 0, 1) := by decide +kernel
theorem dX6_tell_103 : decode cX6_tell 103 = .ok (.iload_n 1, 1) := by decide +kernel
theorem dX6_tell_104 : decode cX6_tell 104 = .ok (.invokevirtual 62, 3) := by decide +kernel
theorem dX6_tell_107 : decode cX6_tell 107 = .ok (.ireturn, 1) := by decide +kernel
set_option maxRecDepth 20000 in
theorem ggX6_tellDays_X9_isPlace : GoodIn wsX6_tellDays wsX9_isPlace := goodIn_r _ [5] (by decide +kernel) (by decide +kernel)
set_option maxRecDepth 20000 in
theorem gX6_tellDays_X9_isPlace_n54 : GoodIn wsX6_tellDays (wsX9_isPlace) := ggX6_tellDays_X9_isPlace
theorem dX6_tellDays_0 : decode cX6_tellDays 0 = .ok (.iload_n 1, 1) := by decide +kernel
theorem dX6_tellDays_1 : decode cX6_tellDays 1 = .ok (.bipush 10, 2) := by decide +kernel
theorem dX6_tellDays_3 : decode cX6_tellDays 3 = .ok (.isub, 1) := by decide +kernel
theorem dX6_tellDays_4 : decode cX6_tellDays 4 = .ok (.aload_n 0, 1) := by decide +kernel
theorem dX6_tellDays_5 : decode cX6_tellDays 5 = .ok (.getfield 24, 3) := by decide +kernel
theorem dX6_tellDays_8 : decode cX6_tellDays 8 = .ok (.arraylength, 1) := by decide +kernel
theorem dX6_tellDays_9 : decode cX6_tellDays 9 = .ok (.invokestatic 54, 3) := by decide +kernel
theorem dX6_tellDays_12 : decode cX6_tellDays 12 = .ok (.ifCond .eq 13, 3) := by decide +kernel
theorem dX6_tellDays_15 : decode cX6_tellDays 15 = .ok (.aload_n 0, 1) := by decide +kernel
theorem dX6_tellDays_16 : decode cX6_tellDays 16 = .ok (.getfield 24, 3) := by decide +kernel
theorem dX6_tellDays_19 : decode cX6_tellDays 19 = .ok (.iload_n 1, 1) := by decide +kernel
theorem dX6_tellDays_20 : decode cX6_tellDays 20 = .ok (.bipush 10, 2) := by decide +kernel
theorem dX6_tellDays_22 : decode cX6_tellDays 22 = .ok (.isub, 1) := by decide +kernel
theorem dX6_tellDays_23 : decode cX6_tellDays 23 = .ok (.iaload, 1) := by decide +kernel
theorem dX6_tellDays_24 : decode cX6_tellDays 24 = .ok (.ireturn, 1) := by decide +kernel
theorem dX6_tellDays_25 : decode cX6_tellDays 25 = .ok (.iload_n 1, 1) := by decide +kernel
theorem dX6_tellDays_26 : decode cX6_tellDays 26 = .ok (.bipush 31, 2) := by decide +kernel
theorem dX6_tellDays_28 : decode cX6_tellDays 28 = .ok (.isub, 1) := by decide +kernel
theorem dX6_tellDays_29 : decode cX6_tellDays 29 = .ok (.iconst 4, 1) := by decide +kernel
theorem dX6_tellDays_30 : decode cX6_tellDays 30 = .ok (.invokestatic 54, 3) := by decide +kernel
theorem dX6_tellDays_33 : decode cX6_tellDays 33 = .ok (.ifCond .eq 13, 3) := by decide +kernel
theorem dX6_tellDays_36 : decode cX6_tellDays 36 = .ok (.aload_n 0, 1) := by decide +kernel
theorem dX6_tellDays_37 : decode cX6_tellDays 37 = .ok (.getfield 28, 3) := by decide +kernel
theorem dX6_tellDays_40 : decode cX6_tellDays 40 = .ok (.iload_n 1, 1) := by decide +kernel
theorem dX6_tellDays_41 : decode cX6_tellDays 41 = .ok (.bipush 31, 2) := by decide +kernel
theorem dX6_tellDays_43 : decode cX6_tellDays 43 = .ok (.isub, 1) := by decide +kernel
theorem dX6_tellDays_44 : decode cX6_tellDays 44 = .ok (.iaload, 1) := by decide +kernel
theorem dX6_tellDays_45 : decode cX6_tellDays 45 = .ok (.ireturn, 1) := by decide +kernel
theorem dX6_tellDays_46 : decode cX6_tellDays 46 = .ok (.iconst (-1), 1) := by decide +kernel
theorem dX6_tellDays_47 : decode cX6_tellDays 47 = .ok (.ireturn, 1) := by decide +kernel
set_option maxRecDepth 20000 in
theorem ggX6_judgedBy_X6_daysOver : GoodIn wsX6_judgedBy wsX6_daysOver := goodIn_r _ [6, 7, 8, 9, 10, 11, 12, 13, 14, 15, 16, 17, 18, 19, 20, 42, 43, 44, 45, 46, 47, 48, 49, 50, 51, 52, 53, 35, 36, 37, 38, 39, 40, 41] (by decide +kernel) (by decide +kernel)
set_option maxRecDepth 20000 in
theorem gX6_judgedBy_X6_daysOver : GoodIn wsX6_judgedBy (wsV RX6 66 RX6 yX6_daysOver wsX6_daysOver) := goodIn_app (goodIn_of _ (by decide +kernel)) ggX6_judgedBy_X6_daysOver
set_option maxRecDepth 20000 in
theorem ggX6_judgedBy_X6_bagsShort : GoodIn wsX6_judgedBy wsX6_bagsShort := goodIn_r _ [24, 25, 26, 27, 8, 9, 10, 11, 42, 43, 44, 45, 46, 47, 48, 49, 50, 51, 52, 53, 35, 36, 37, 38, 39, 40, 41] (by decide +kernel) (by decide +kernel)
set_option maxRecDepth 20000 in
theorem gX6_judgedBy_X6_bagsShort : GoodIn wsX6_judgedBy (wsV RX6 70 RX6 yX6_bagsShort wsX6_bagsShort) := goodIn_app (goodIn_of _ (by decide +kernel)) ggX6_judgedBy_X6_bagsShort
set_option maxRecDepth 20000 in
theorem ggX6_judgedBy_X6_goodsOver : GoodIn wsX6_judgedBy wsX6_goodsOver := goodIn_r _ [31, 32, 33, 34, 8, 9, 10, 11, 42, 43, 44, 45, 46, 47, 48, 49, 50, 51, 52, 53, 35, 36, 37, 38, 39, 40, 41] (by decide +kernel) (by decide +kernel)
set_option maxRecDepth 20000 in
theorem gX6_judgedBy_X6_goodsOver : GoodIn wsX6_judgedBy (wsV RX6 73 RX6 yX6_goodsOver wsX6_goodsOver) := goodIn_app (goodIn_of _ (by decide +kernel)) ggX6_judgedBy_X6_goodsOver
theorem dX6_judgedBy_0 : decode cX6_judgedBy 0 = .ok (.iload_n 2, 1) := by decide +kernel
theorem dX6_judgedBy_1 : decode cX6_judgedBy 1 = .ok (.tableswitch 72 0 3 #[31, 37, 43, 49], 31) := by decide +kernel
theorem dX6_judgedBy_32 : decode cX6_judgedBy 32 = .ok (.aload_n 0, 1) := by decide +kernel
theorem dX6_judgedBy_33 : decode cX6_judgedBy 33 = .ok (.aload_n 1, 1) := by decide +kernel
theorem dX6_judgedBy_34 : decode cX6_judgedBy 34 = .ok (.invokevirtual 66, 3) := by decide +kernel
theorem dX6_judgedBy_37 : decode cX6_judgedBy 37 = .ok (.ireturn, 1) := by decide +kernel
theorem dX6_judgedBy_38 : decode cX6_judgedBy 38 = .ok (.aload_n 0, 1) := by decide +kernel
theorem dX6_judgedBy_39 : decode cX6_judgedBy 39 = .ok (.aload_n 1, 1) := by decide +kernel
theorem dX6_judgedBy_40 : decode cX6_judgedBy 40 = .ok (.invokevirtual 70, 3) := by decide +kernel
theorem dX6_judgedBy_43 : decode cX6_judgedBy 43 = .ok (.ireturn, 1) := by decide +kernel
theorem dX6_judgedBy_44 : decode cX6_judgedBy 44 = .ok (.aload_n 0, 1) := by decide +kernel
theorem dX6_judgedBy_45 : decode cX6_judgedBy 45 = .ok (.aload_n 1, 1) := by decide +kernel
theorem dX6_judgedBy_46 : decode cX6_judgedBy 46 = .ok (.invokevirtual 73, 3) := by decide +kernel
theorem dX6_judgedBy_49 : decode cX6_judgedBy 49 = .ok (.ireturn, 1) := by decide +kernel
theorem dX6_judgedBy_50 : decode cX6_judgedBy 50 = .ok (.aload_n 1, 1) := by decide +kernel
theorem dX6_judgedBy_51 : decode cX6_judgedBy 51 = .ok (.getfield 76, 3) := by decide +kernel
theorem dX6_judgedBy_54 : decode cX6_judgedBy 54 = .ok (.aload_n 0, 1) := by decide +kernel
theorem dX6_judgedBy_55 : decode cX6_judgedBy 55 = .ok (.aload_n 1, 1) := by decide +kernel
theorem dX6_judgedBy_56 : decode cX6_judgedBy 56 = .ok (.invokevirtual 66, 3) := by decide +kernel
theorem dX6_judgedBy_59 : decode cX6_judgedBy 59 = .ok (.aload_n 0, 1) := by decide +kernel
theorem dX6_judgedBy_60 : decode cX6_judgedBy 60 = .ok (.aload_n 1, 1) := by decide +kernel
theorem dX6_judgedBy_61 : decode cX6_judgedBy 61 = .ok (.invokevirtual 70, 3) := by decide +kernel
theorem dX6_judgedBy_64 : decode cX6_judgedBy 64 = .ok (.iadd, 1) := by decide +kernel
theorem dX6_judgedBy_65 : decode cX6_judgedBy 65 = .ok (.aload_n 0, 1) := by decide +kernel
theorem dX6_judgedBy_66 : decode cX6_judgedBy 66 = .ok (.aload_n 1, 1) := by decide +kernel
theorem dX6_judgedBy_67 : decode cX6_judgedBy 67 = .ok (.invokevirtual 73, 3) := by decide +kernel
theorem dX6_judgedBy_70 : decode cX6_judgedBy 70 = .ok (.iadd, 1) := by decide +kernel
theorem dX6_judgedBy_71 : decode cX6_judgedBy 71 = .ok (.imul, 1) := by decide +kernel
theorem dX6_judgedBy_72 : decode cX6_judgedBy 72 = .ok (.ireturn, 1) := by decide +kernel
theorem dX6_judgedBy_73 : decode cX6_judgedBy 73 = .ok (.iconst (-1), 1) := by decide +kernel
theorem dX6_judgedBy_74 : decode cX6_judgedBy 74 = .ok (.ireturn, 1) := by decide +kernel
set_option maxRecDepth 20000 in
theorem ggX6_daysOver_X7_allowedIn : GoodIn wsX6_daysOver wsX7_allowedIn := goodIn_r _ [10, 11, 12, 13, 14, 27, 28, 29, 30, 31, 32, 33] (by decide +kernel) (by decide +kernel)
set_option maxRecDepth 20000 in
theorem gX6_daysOver_X7_allowedIn : GoodIn wsX6_daysOver (wsV RX6 81 RX7 yX7_allowedIn wsX7_allowedIn) := goodIn_app (goodIn_of _ (by decide +kernel)) ggX6_daysOver_X7_allowedIn
theorem dX6_daysOver_0 : decode cX6_daysOver 0 = .ok (.iconst 0, 1) := by decide +kernel
theorem dX6_daysOver_1 : decode cX6_daysOver 1 = .ok (.istore_n 2, 1) := by decide +kernel
theorem dX6_daysOver_2 : decode cX6_daysOver 2 = .ok (.iconst 0, 1) := by decide +kernel
theorem dX6_daysOver_3 : decode cX6_daysOver 3 = .ok (.istore_n 3, 1) := by decide +kernel
theorem dX6_daysOver_4 : decode cX6_daysOver 4 = .ok (.iload_n 3, 1) := by decide +kernel
theorem dX6_daysOver_5 : decode cX6_daysOver 5 = .ok (.aload_n 0, 1) := by decide +kernel
theorem dX6_daysOver_6 : decode cX6_daysOver 6 = .ok (.getfield 24, 3) := by decide +kernel
theorem dX6_daysOver_9 : decode cX6_daysOver 9 = .ok (.arraylength, 1) := by decide +kernel
theorem dX6_daysOver_10 : decode cX6_daysOver 10 = .ok (.iconst 1, 1) := by decide +kernel
theorem dX6_daysOver_11 : decode cX6_daysOver 11 = .ok (.isub, 1) := by decide +kernel
theorem dX6_daysOver_12 : decode cX6_daysOver 12 = .ok (.if_icmp .ge 28, 3) := by decide +kernel
theorem dX6_daysOver_15 : decode cX6_daysOver 15 = .ok (.iload_n 2, 1) := by decide +kernel
theorem dX6_daysOver_16 : decode cX6_daysOver 16 = .ok (.iconst 0, 1) := by decide +kernel
theorem dX6_daysOver_17 : decode cX6_daysOver 17 = .ok (.aload_n 0, 1) := by decide +kernel
theorem dX6_daysOver_18 : decode cX6_daysOver 18 = .ok (.getfield 24, 3) := by decide +kernel
theorem dX6_daysOver_21 : decode cX6_daysOver 21 = .ok (.iload_n 3, 1) := by decide +kernel
theorem dX6_daysOver_22 : decode cX6_daysOver 22 = .ok (.iaload, 1) := by decide +kernel
theorem dX6_daysOver_23 : decode cX6_daysOver 23 = .ok (.aload_n 1, 1) := by decide +kernel
theorem dX6_daysOver_24 : decode cX6_daysOver 24 = .ok (.iload_n 3, 1) := by decide +kernel
theorem dX6_daysOver_25 : decode cX6_daysOver 25 = .ok (.invokevirtual 81, 3) := by decide +kernel
theorem dX6_daysOver_28 : decode cX6_daysOver 28 = .ok (.isub, 1) := by decide +kernel
theorem dX6_daysOver_29 : decode cX6_daysOver 29 = .ok (.invokestatic 84, 3) := by decide +kernel
theorem dX6_daysOver_32 : decode cX6_daysOver 32 = .ok (.iadd, 1) := by decide +kernel
theorem dX6_daysOver_33 : decode cX6_daysOver 33 = .ok (.istore_n 2, 1) := by decide +kernel
theorem dX6_daysOver_34 : decode cX6_daysOver 34 = .ok (.iinc 3 1, 3) := by decide +kernel
theorem dX6_daysOver_37 : decode cX6_daysOver 37 = .ok (.goto (-33), 3) := by decide +kernel
theorem dX6_daysOver_40 : decode cX6_daysOver 40 = .ok (.iload_n 2, 1) := by decide +kernel
theorem dX6_daysOver_41 : decode cX6_daysOver 41 = .ok (.ireturn, 1) := by decide +kernel
theorem dX6_bagsShort_0 : decode cX6_bagsShort 0 = .ok (.iconst 0, 1) := by decide +kernel
theorem dX6_bagsShort_1 : decode cX6_bagsShort 1 = .ok (.aload_n 0, 1) := by decide +kernel
theorem dX6_bagsShort_2 : decode cX6_bagsShort 2 = .ok (.getfield 37, 3) := by decide +kernel
theorem dX6_bagsShort_5 : decode cX6_bagsShort 5 = .ok (.aload_n 0, 1) := by decide +kernel
theorem dX6_bagsShort_6 : decode cX6_bagsShort 6 = .ok (.getfield 18, 3) := by decide +kernel
theorem dX6_bagsShort_9 : decode cX6_bagsShort 9 = .ok (.aload_n 1, 1) := by decide +kernel
theorem dX6_bagsShort_10 : decode cX6_bagsShort 10 = .ok (.getfield 90, 3) := by decide +kernel
theorem dX6_bagsShort_13 : decode cX6_bagsShort 13 = .ok (.imul, 1) := by decide +kernel
theorem dX6_bagsShort_14 : decode cX6_bagsShort 14 = .ok (.sipush 1000, 3) := by decide +kernel
theorem dX6_bagsShort_17 : decode cX6_bagsShort 17 = .ok (.idiv, 1) := by decide +kernel
theorem dX6_bagsShort_18 : decode cX6_bagsShort 18 = .ok (.isub, 1) := by decide +kernel
theorem dX6_bagsShort_19 : decode cX6_bagsShort 19 = .ok (.invokestatic 84, 3) := by decide +kernel
theorem dX6_bagsShort_22 : decode cX6_bagsShort 22 = .ok (.ireturn, 1) := by decide +kernel
theorem dX6_goodsOver_0 : decode cX6_goodsOver 0 = .ok (.iconst 0, 1) := by decide +kernel
theorem dX6_goodsOver_1 : decode cX6_goodsOver 1 = .ok (.aload_n 0, 1) := by decide +kernel
theorem dX6_goodsOver_2 : decode cX6_goodsOver 2 = .ok (.getfield 21, 3) := by decide +kernel
theorem dX6_goodsOver_5 : decode cX6_goodsOver 5 = .ok (.aload_n 1, 1) := by decide +kernel
theorem dX6_goodsOver_6 : decode cX6_goodsOver 6 = .ok (.getfield 93, 3) := by decide +kernel
theorem dX6_goodsOver_9 : decode cX6_goodsOver 9 = .ok (.aload_n 0, 1) := by decide +kernel
theorem dX6_goodsOver_10 : decode cX6_goodsOver 10 = .ok (.getfield 15, 3) := by decide +kernel
theorem dX6_goodsOver_13 : decode cX6_goodsOver 13 = .ok (.imul, 1) := by decide +kernel
theorem dX6_goodsOver_14 : decode cX6_goodsOver 14 = .ok (.isub, 1) := by decide +kernel
theorem dX6_goodsOver_15 : decode cX6_goodsOver 15 = .ok (.invokestatic 84, 3) := by decide +kernel
theorem dX6_goodsOver_18 : decode cX6_goodsOver 18 = .ok (.ireturn, 1) := by decide +kernel
theorem dX7_init_0 : decode cX7_init 0 = .ok (.aload_n 0, 1) := by decide +kernel
theorem dX7_init_1 : decode cX7_init 1 = .ok (.invokespecial 3, 3) := by decide +kernel
theorem dX7_init_4 : decode cX7_init 4 = .ok (.aload_n 0, 1) := by decide +kernel
theorem dX7_init_5 : decode cX7_init 5 = .ok (.iload_n 2, 1) := by decide +kernel
theorem dX7_init_6 : decode cX7_init 6 = .ok (.putfield 9, 3) := by decide +kernel
theorem dX7_init_9 : decode cX7_init 9 = .ok (.aload_n 0, 1) := by decide +kernel
theorem dX7_init_10 : decode cX7_init 10 = .ok (.iload_n 3, 1) := by decide +kernel
theorem dX7_init_11 : decode cX7_init 11 = .ok (.putfield 15, 3) := by decide +kernel
theorem dX7_init_14 : decode cX7_init 14 = .ok (.aload_n 0, 1) := by decide +kernel
theorem dX7_init_15 : decode cX7_init 15 = .ok (.iload_n 1, 1) := by decide +kernel
theorem dX7_init_16 : decode cX7_init 16 = .ok (.newarray .int, 2) := by decide +kernel
theorem dX7_init_18 : decode cX7_init 18 = .ok (.putfield 18, 3) := by decide +kernel
theorem dX7_init_21 : decode cX7_init 21 = .ok (.iconst 0, 1) := by decide +kernel
theorem dX7_init_22 : decode cX7_init 22 = .ok (.istore 4, 2) := by decide +kernel
theorem dX7_init_24 : decode cX7_init 24 = .ok (.iload 4, 2) := by decide +kernel
theorem dX7_init_26 : decode cX7_init 26 = .ok (.iload_n 1, 1) := by decide +kernel
theorem dX7_init_27 : decode cX7_init 27 = .ok (.if_icmp .ge 17, 3) := by decide +kernel
theorem dX7_init_30 : decode cX7_init 30 = .ok (.aload_n 0, 1) := by decide +kernel
theorem dX7_init_31 : decode cX7_init 31 = .ok (.getfield 18, 3) := by decide +kernel
theorem dX7_init_34 : decode cX7_init 34 = .ok (.iload 4, 2) := by decide +kernel
theorem dX7_init_36 : decode cX7_init 36 = .ok (.iconst 3, 1) := by decide +kernel
theorem dX7_init_37 : decode cX7_init 37 = .ok (.iastore, 1) := by decide +kernel
theorem dX7_init_38 : decode cX7_init 38 = .ok (.iinc 4 1, 3) := by decide +kernel
theorem dX7_init_41 : decode cX7_init 41 = .ok (.goto (-17), 3) := by decide +kernel
theorem dX7_init_44 : decode cX7_init 44 = .ok (.aload_n 0, 1) := by decide +kernel
theorem dX7_init_45 : decode cX7_init 45 = .ok (.iconst 2, 1) := by decide +kernel
theorem dX7_init_46 : decode cX7_init 46 = .ok (.putfield 22, 3) := by decide +kernel
theorem dX7_init_49 : decode cX7_init 49 = .ok (.aload_n 0, 1) := by decide +kernel
theorem dX7_init_50 : decode cX7_init 50 = .ok (.bipush 20, 2) := by decide +kernel
theorem dX7_init_52 : decode cX7_init 52 = .ok (.putfield 25, 3) := by decide +kernel
theorem dX7_init_55 : decode cX7_init 55 = .ok (.aload_n 0, 1) := by decide +kernel
theorem dX7_init_56 : decode cX7_init 56 = .ok (.iconst 2, 1) := by decide +kernel
theorem dX7_init_57 : decode cX7_init 57 = .ok (.putfield 28, 3) := by decide +kernel
theorem dX7_init_60 : decode cX7_init 60 = .ok (.aload_n 0, 1) := by decide +kernel
theorem dX7_init_61 : decode cX7_init 61 = .ok (.iconst 1, 1) := by decide +kernel
theorem dX7_init_62 : decode cX7_init 62 = .ok (.putfield 31, 3) := by decide +kernel
theorem dX7_init_65 : decode cX7_init 65 = .ok (.return_, 1) := by decide +kernel
set_option maxRecDepth 20000 in
theorem ggX7_allow_X9_isPlace : GoodIn wsX7_allow wsX9_isPlace := goodIn_r _ [4] (by decide +kernel) (by decide +kernel)
set_option maxRecDepth 20000 in
theorem gX7_allow_X9_isPlace_n34 : GoodIn wsX7_allow (wsX9_isPlace) := ggX7_allow_X9_isPlace
theorem dX7_allow_0 : decode cX7_allow 0 = .ok (.iload_n 1, 1) := by decide +kernel
theorem dX7_allow_1 : decode cX7_allow 1 = .ok (.aload_n 0, 1) := by decide +kernel
theorem dX7_allow_2 : decode cX7_allow 2 = .ok (.getfield 18, 3) := by decide +kernel
theorem dX7_allow_5 : decode cX7_allow 5 = .ok (.arraylength, 1) := by decide +kernel
theorem dX7_allow_6 : decode cX7_allow 6 = .ok (.invokestatic 34, 3) := by decide +kernel
theorem dX7_allow_9 : decode cX7_allow 9 = .ok (.ifCond .eq 10, 3) := by decide +kernel
theorem dX7_allow_12 : decode cX7_allow 12 = .ok (.aload_n 0, 1) := by decide +kernel
theorem dX7_allow_13 : decode cX7_allow 13 = .ok (.getfield 18, 3) := by decide +kernel
theorem dX7_allow_16 : decode cX7_allow 16 = .ok (.iload_n 1, 1) := by decide +kernel
theorem dX7_allow_17 : decode cX7_allow 17 = .ok (.iload_n 2, 1) := by decide +kernel
theorem dX7_allow_18 : decode cX7_allow 18 = .ok (.iastore, 1) := by decide +kernel
theorem dX7_allow_19 : decode cX7_allow 19 = .ok (.return_, 1) := by decide +kernel
set_option maxRecDepth 20000 in
theorem ggX7_allowedIn_X9_isPlace : GoodIn wsX7_allowedIn wsX9_isPlace := goodIn_r _ [4] (by decide +kernel) (by decide +kernel)
set_option maxRecDepth 20000 in
theorem gX7_allowedIn_X9_isPlace_n34 : GoodIn wsX7_allowedIn (wsX9_isPlace) := ggX7_allowedIn_X9_isPlace
theorem dX7_allowedIn_0 : decode cX7_allowedIn 0 = .ok (.iload_n 1, 1) := by decide +kernel
theorem dX7_allowedIn_1 : decode cX7_allowedIn 1 = .ok (.aload_n 0, 1) := by decide +kernel
theorem dX7_allowedIn_2 : decode cX7_allowedIn 2 = .ok (.getfield 18, 3) := by decide +kernel
theorem dX7_allowedIn_5 : decode cX7_allowedIn 5 = .ok (.arraylength, 1) := by decide +kernel
theorem dX7_allowedIn_6 : decode cX7_allowedIn 6 = .ok (.invokestatic 34, 3) := by decide +kernel
theorem dX7_allowedIn_9 : decode cX7_allowedIn 9 = .ok (.ifCond .eq 12, 3) := by decide +kernel
theorem dX7_allowedIn_12 : decode cX7_allowedIn 12 = .ok (.aload_n 0, 1) := by decide +kernel
theorem dX7_allowedIn_13 : decode cX7_allowedIn 13 = .ok (.getfield 18, 3) := by decide +kernel
theorem dX7_allowedIn_16 : decode cX7_allowedIn 16 = .ok (.iload_n 1, 1) := by decide +kernel
theorem dX7_allowedIn_17 : decode cX7_allowedIn 17 = .ok (.iaload, 1) := by decide +kernel
theorem dX7_allowedIn_18 : decode cX7_allowedIn 18 = .ok (.goto 4, 3) := by decide +kernel
theorem dX7_allowedIn_21 : decode cX7_allowedIn 21 = .ok (.iconst (-1), 1) := by decide +kernel
theorem dX7_allowedIn_22 : decode cX7_allowedIn 22 = .ok (.ireturn, 1) := by decide +kernel
set_option maxRecDepth 20000 in
theorem ggX7_tell_X7_allowedIn : GoodIn wsX7_tell wsX7_allowedIn := goodIn_r _ [10, 11, 12, 13, 14, 15, 16, 17, 18, 19, 20, 21] (by decide +kernel) (by decide +kernel)
set_option maxRecDepth 20000 in
theorem gX7_tell_X7_allowedIn : GoodIn wsX7_tell (wsV RX7 38 RX7 yX7_allowedIn wsX7_allowedIn) := goodIn_app (goodIn_of _ (by decide +kernel)) ggX7_tell_X7_allowedIn
theorem dX7_tell_0 : decode cX7_tell 0 = .ok (.iload_n 1, 1) := by decide +kernel
theorem dX7_tell_1 : decode cX7_tell 1 = .ok (.tableswitch 60 0 4 #[35, 40, 45, 50, 55], 35) := by decide +kernel
theorem dX7_tell_36 : decode cX7_tell 36 = .ok (.aload_n 0, 1) := by decide +kernel
theorem dX7_tell_37 : decode cX7_tell 37 = .ok (.getfield 22, 3) := by decide +kernel
theorem dX7_tell_40 : decode cX7_tell 40 = .ok (.ireturn, 1) := by decide +kernel
theorem dX7_tell_41 : decode cX7_tell 41 = .ok (.aload_n 0, 1) := by decide +kernel
theorem dX7_tell_42 : decode cX7_tell 42 = .ok (.getfield 25, 3) := by decide +kernel
theorem dX7_tell_45 : decode cX7_tell 45 = .ok (.ireturn, 1) := by decide +kernel
theorem dX7_tell_46 : decode cX7_tell 46 = .ok (.aload_n 0, 1) := by decide +kernel
theorem dX7_tell_47 : decode cX7_tell 47 = .ok (.getfield 28, 3) := by decide +kernel
theorem dX7_tell_50 : decode cX7_tell 50 = .ok (.ireturn, 1) := by decide +kernel
theorem dX7_tell_51 : decode cX7_tell 51 = .ok (.aload_n 0, 1) := by decide +kernel
theorem dX7_tell_52 : decode cX7_tell 52 = .ok (.getfield 31, 3) := by decide +kernel
theorem dX7_tell_55 : decode cX7_tell 55 = .ok (.ireturn, 1) := by decide +kernel
theorem dX7_tell_56 : decode cX7_tell 56 = .ok (.aload_n 0, 1) := by decide +kernel
theorem dX7_tell_57 : decode cX7_tell 57 = .ok (.getfield 9, 3) := by decide +kernel
theorem dX7_tell_60 : decode cX7_tell 60 = .ok (.ireturn, 1) := by decide +kernel
theorem dX7_tell_61 : decode cX7_tell 61 = .ok (.aload_n 0, 1) := by decide +kernel
theorem dX7_tell_62 : decode cX7_tell 62 = .ok (.iload_n 1, 1) := by decide +kernel
theorem dX7_tell_63 : decode cX7_tell 63 = .ok (.bipush 10, 2) := by decide +kernel
theorem dX7_tell_65 : decode cX7_tell 65 = .ok (.isub, 1) := by decide +kernel
theorem dX7_tell_66 : decode cX7_tell 66 = .ok (.invokevirtual 38, 3) := by decide +kernel
theorem dX7_tell_69 : decode cX7_tell 69 = .ok (.ireturn, 1) := by decide +kernel
theorem dX8_init_0 : decode cX8_init 0 = .ok (.aload_n 0, 1) := by decide +kernel
theorem dX8_init_1 : decode cX8_init 1 = .ok (.invokespecial 3, 3) := by decide +kernel
theorem dX8_init_4 : decode cX8_init 4 = .ok (.aload_n 0, 1) := by decide +kernel
theorem dX8_init_5 : decode cX8_init 5 = .ok (.sipush 400, 3) := by decide +kernel
theorem dX8_init_8 : decode cX8_init 8 = .ok (.newarray .byte, 2) := by decide +kernel
theorem dX8_init_10 : decode cX8_init 10 = .ok (.putfield 11, 3) := by decide +kernel
theorem dX8_init_13 : decode cX8_init 13 = .ok (.aload_n 0, 1) := by decide +kernel
theorem dX8_init_14 : decode cX8_init 14 = .ok (.iconst 0, 1) := by decide +kernel
theorem dX8_init_15 : decode cX8_init 15 = .ok (.putfield 15, 3) := by decide +kernel
theorem dX8_init_18 : decode cX8_init 18 = .ok (.return_, 1) := by decide +kernel
theorem dX8_hasRoom_0 : decode cX8_hasRoom 0 = .ok (.aload_n 0, 1) := by decide +kernel
theorem dX8_hasRoom_1 : decode cX8_hasRoom 1 = .ok (.getfield 15, 3) := by decide +kernel
theorem dX8_hasRoom_4 : decode cX8_hasRoom 4 = .ok (.bipush 20, 2) := by decide +kernel
theorem dX8_hasRoom_6 : decode cX8_hasRoom 6 = .ok (.iadd, 1) := by decide +kernel
theorem dX8_hasRoom_7 : decode cX8_hasRoom 7 = .ok (.sipush 400, 3) := by decide +kernel
theorem dX8_hasRoom_10 : decode cX8_hasRoom 10 = .ok (.if_icmp .gt 7, 3) := by decide +kernel
theorem dX8_hasRoom_13 : decode cX8_hasRoom 13 = .ok (.iconst 1, 1) := by decide +kernel
theorem dX8_hasRoom_14 : decode cX8_hasRoom 14 = .ok (.goto 4, 3) := by decide +kernel
theorem dX8_hasRoom_17 : decode cX8_hasRoom 17 = .ok (.iconst 0, 1) := by decide +kernel
theorem dX8_hasRoom_18 : decode cX8_hasRoom 18 = .ok (.ireturn, 1) := by decide +kernel
theorem dX8_append_0 : decode cX8_append 0 = .ok (.bipush 24, 2) := by decide +kernel
theorem dX8_append_2 : decode cX8_append 2 = .ok (.istore_n 2, 1) := by decide +kernel
theorem dX8_append_3 : decode cX8_append 3 = .ok (.iload_n 2, 1) := by decide +kernel
theorem dX8_append_4 : decode cX8_append 4 = .ok (.ifCond .lt 42, 3) := by decide +kernel
theorem dX8_append_7 : decode cX8_append 7 = .ok (.aload_n 0, 1) := by decide +kernel
theorem dX8_append_8 : decode cX8_append 8 = .ok (.getfield 15, 3) := by decide +kernel
theorem dX8_append_11 : decode cX8_append 11 = .ok (.sipush 400, 3) := by decide +kernel
theorem dX8_append_14 : decode cX8_append 14 = .ok (.if_icmp .ge 32, 3) := by decide +kernel
theorem dX8_append_17 : decode cX8_append 17 = .ok (.aload_n 0, 1) := by decide +kernel
theorem dX8_append_18 : decode cX8_append 18 = .ok (.getfield 11, 3) := by decide +kernel
theorem dX8_append_21 : decode cX8_append 21 = .ok (.aload_n 0, 1) := by decide +kernel
theorem dX8_append_22 : decode cX8_append 22 = .ok (.getfield 15, 3) := by decide +kernel
theorem dX8_append_25 : decode cX8_append 25 = .ok (.iload_n 1, 1) := by decide +kernel
theorem dX8_append_26 : decode cX8_append 26 = .ok (.iload_n 2, 1) := by decide +kernel
theorem dX8_append_27 : decode cX8_append 27 = .ok (.ishr, 1) := by decide +kernel
theorem dX8_append_28 : decode cX8_append 28 = .ok (.i2b, 1) := by decide +kernel
theorem dX8_append_29 : decode cX8_append 29 = .ok (.bastore, 1) := by decide +kernel
theorem dX8_append_30 : decode cX8_append 30 = .ok (.aload_n 0, 1) := by decide +kernel
theorem dX8_append_31 : decode cX8_append 31 = .ok (.dup, 1) := by decide +kernel
theorem dX8_append_32 : decode cX8_append 32 = .ok (.getfield 15, 3) := by decide +kernel
theorem dX8_append_35 : decode cX8_append 35 = .ok (.iconst 1, 1) := by decide +kernel
theorem dX8_append_36 : decode cX8_append 36 = .ok (.iadd, 1) := by decide +kernel
theorem dX8_append_37 : decode cX8_append 37 = .ok (.putfield 15, 3) := by decide +kernel
theorem dX8_append_40 : decode cX8_append 40 = .ok (.iinc 2 (-8), 3) := by decide +kernel
theorem dX8_append_43 : decode cX8_append 43 = .ok (.goto (-40), 3) := by decide +kernel
theorem dX8_append_46 : decode cX8_append 46 = .ok (.return_, 1) := by decide +kernel
theorem dX8_at_0 : decode cX8_at 0 = .ok (.iload_n 1, 1) := by decide +kernel
theorem dX8_at_1 : decode cX8_at 1 = .ok (.ifCond .lt 20, 3) := by decide +kernel
theorem dX8_at_4 : decode cX8_at 4 = .ok (.iload_n 1, 1) := by decide +kernel
theorem dX8_at_5 : decode cX8_at 5 = .ok (.aload_n 0, 1) := by decide +kernel
theorem dX8_at_6 : decode cX8_at 6 = .ok (.getfield 15, 3) := by decide +kernel
theorem dX8_at_9 : decode cX8_at 9 = .ok (.if_icmp .ge 12, 3) := by decide +kernel
theorem dX8_at_12 : decode cX8_at 12 = .ok (.aload_n 0, 1) := by decide +kernel
theorem dX8_at_13 : decode cX8_at 13 = .ok (.getfield 11, 3) := by decide +kernel
theorem dX8_at_16 : decode cX8_at 16 = .ok (.iload_n 1, 1) := by decide +kernel
theorem dX8_at_17 : decode cX8_at 17 = .ok (.baload, 1) := by decide +kernel
theorem dX8_at_18 : decode cX8_at 18 = .ok (.goto 4, 3) := by decide +kernel
theorem dX8_at_21 : decode cX8_at 21 = .ok (.iconst (-1), 1) := by decide +kernel
theorem dX8_at_22 : decode cX8_at 22 = .ok (.ireturn, 1) := by decide +kernel
set_option maxRecDepth 20000 in
theorem ggX9_init_X0_init : GoodIn wsX9_init wsX0_init := goodIn_r _ [43, 44, 2, 3, 45, 46, 47, 48, 49, 50, 51, 52, 53, 54, 118, 119, 120, 121, 122, 123, 124, 125, 126] (by decide +kernel) (by decide +kernel)
set_option maxRecDepth 20000 in
theorem gX9_init_X0_init : GoodIn wsX9_init (wsX0_init) := ggX9_init_X0_init
set_option maxRecDepth 20000 in
theorem ggX9_init_X3_init : GoodIn wsX9_init wsX3_init := goodIn_r _ [57, 58, 2, 3, 59, 60, 46, 61, 62, 136, 137, 138] (by decide +kernel) (by decide +kernel)
set_option maxRecDepth 20000 in
theorem gX9_init_X3_init : GoodIn wsX9_init (wsX3_init) := ggX9_init_X3_init
set_option maxRecDepth 20000 in
theorem ggX9_init_X8_init : GoodIn wsX9_init wsX8_init := goodIn_r _ [65, 66, 2, 3, 67, 68, 69, 139, 140] (by decide +kernel) (by decide +kernel)
set_option maxRecDepth 20000 in
theorem gX9_init_X8_init : GoodIn wsX9_init (wsX8_init) := ggX9_init_X8_init
set_option maxRecDepth 20000 in
theorem ggX9_init_X4_init : GoodIn wsX9_init wsX4_init := goodIn_r _ [72, 73, 2, 3, 74, 75, 76, 77, 78, 141, 142, 143, 144, 145] (by decide +kernel) (by decide +kernel)
set_option maxRecDepth 20000 in
theorem gX9_init_X4_init : GoodIn wsX9_init (wsX4_init) := ggX9_init_X4_init
set_option maxRecDepth 20000 in
theorem ggX9_init_X1_init : GoodIn wsX9_init wsX1_init := goodIn_r _ [81, 82, 2, 3, 83, 84, 85, 86, 87, 88, 89, 90, 91, 92, 93, 94, 46, 95, 96, 97, 98, 99, 146, 147, 148, 159, 160, 161, 162, 163, 164, 165] (by decide +kernel) (by decide +kernel)
set_option maxRecDepth 20000 in
theorem gX9_init_X1_init : GoodIn wsX9_init (wsX1_init) := ggX9_init_X1_init
set_option maxRecDepth 20000 in
theorem ggX9_init_X2_init : GoodIn wsX9_init wsX2_init := goodIn_r _ [102, 103, 2, 3, 46, 104, 105, 106, 107, 149, 150, 151, 152] (by decide +kernel) (by decide +kernel)
set_option maxRecDepth 20000 in
theorem gX9_init_X2_init : GoodIn wsX9_init (wsX2_init) := ggX9_init_X2_init
set_option maxRecDepth 20000 in
theorem ggX9_init_X5_init : GoodIn wsX9_init wsX5_init := goodIn_r _ [110, 111, 2, 3, 46, 112, 113, 114, 115, 116, 117, 153, 154, 155, 156, 157, 158] (by decide +kernel) (by decide +kernel)
set_option maxRecDepth 20000 in
theorem gX9_init_X5_init : GoodIn wsX9_init (wsX5_init) := ggX9_init_X5_init
end
section
theorem dX9_init_0 : decode cX9_init 0 = .ok (.aload_n 0, 1) := by decide +kernel
theorem dX9_init_1 : decode cX9_init 1 = .ok (.invokespecial 1, 3) := by decide +kernel
theorem dX9_init_4 : decode cX9_init 4 = .ok (.iconst 3, 1) := by decide +kernel
theorem dX9_init_5 : decode cX9_init 5 = .ok (.bipush 12, 2) := by decide +kernel
theorem dX9_init_7 : decode cX9_init 7 = .ok (.iload_n 1, 1) := by decide +kernel
theorem dX9_init_8 : decode cX9_init 8 = .ok (.invokestatic 9, 3) := by decide +kernel
theorem dX9_init_11 : decode cX9_init 11 = .ok (.invokestatic 15, 3) := by decide +kernel
theorem dX9_init_14 : decode cX9_init 14 = .ok (.istore_n 2, 1) := by decide +kernel
theorem dX9_init_15 : decode cX9_init 15 = .ok (.aload_n 0, 1) := by decide +kernel
theorem dX9_init_16 : decode cX9_init 16 = .ok (.new 18, 3) := by decide +kernel
theorem dX9_init_19 : decode cX9_init 19 = .ok (.dup, 1) := by decide +kernel
theorem dX9_init_20 : decode cX9_init 20 = .ok (.iload_n 2, 1) := by decide +kernel
theorem dX9_init_21 : decode cX9_init 21 = .ok (.invokespecial 20, 3) := by decide +kernel
theorem dX9_init_24 : decode cX9_init 24 = .ok (.putfield 23, 3) := by decide +kernel
theorem dX9_init_27 : decode cX9_init 27 = .ok (.aload_n 0, 1) := by decide +kernel
theorem dX9_init_28 : decode cX9_init 28 = .ok (.new 27, 3) := by decide +kernel
theorem dX9_init_31 : decode cX9_init 31 = .ok (.dup, 1) := by decide +kernel
theorem dX9_init_32 : decode cX9_init 32 = .ok (.invokespecial 29, 3) := by decide +kernel
theorem dX9_init_35 : decode cX9_init 35 = .ok (.putfield 30, 3) := by decide +kernel
theorem dX9_init_38 : decode cX9_init 38 = .ok (.aload_n 0, 1) := by decide +kernel
theorem dX9_init_39 : decode cX9_init 39 = .ok (.new 34, 3) := by decide +kernel
theorem dX9_init_42 : decode cX9_init 42 = .ok (.dup, 1) := by decide +kernel
theorem dX9_init_43 : decode cX9_init 43 = .ok (.invokespecial 36, 3) := by decide +kernel
theorem dX9_init_46 : decode cX9_init 46 = .ok (.putfield 37, 3) := by decide +kernel
theorem dX9_init_49 : decode cX9_init 49 = .ok (.aload_n 0, 1) := by decide +kernel
theorem dX9_init_50 : decode cX9_init 50 = .ok (.new 41, 3) := by decide +kernel
theorem dX9_init_53 : decode cX9_init 53 = .ok (.dup, 1) := by decide +kernel
theorem dX9_init_54 : decode cX9_init 54 = .ok (.aload_n 0, 1) := by decide +kernel
theorem dX9_init_55 : decode cX9_init 55 = .ok (.getfield 37, 3) := by decide +kernel
theorem dX9_init_58 : decode cX9_init 58 = .ok (.invokespecial 43, 3) := by decide +kernel
theorem dX9_init_61 : decode cX9_init 61 = .ok (.putfield 46, 3) := by decide +kernel
theorem dX9_init_64 : decode cX9_init 64 = .ok (.aload_n 0, 1) := by decide +kernel
theorem dX9_init_65 : decode cX9_init 65 = .ok (.new 50, 3) := by decide +kernel
theorem dX9_init_68 : decode cX9_init 68 = .ok (.dup, 1) := by decide +kernel
theorem dX9_init_69 : decode cX9_init 69 = .ok (.iload_n 2, 1) := by decide +kernel
theorem dX9_init_70 : decode cX9_init 70 = .ok (.invokespecial 52, 3) := by decide +kernel
theorem dX9_init_73 : decode cX9_init 73 = .ok (.putfield 53, 3) := by decide +kernel
theorem dX9_init_76 : decode cX9_init 76 = .ok (.aload_n 0, 1) := by decide +kernel
theorem dX9_init_77 : decode cX9_init 77 = .ok (.new 57, 3) := by decide +kernel
theorem dX9_init_80 : decode cX9_init 80 = .ok (.dup, 1) := by decide +kernel
theorem dX9_init_81 : decode cX9_init 81 = .ok (.invokespecial 59, 3) := by decide +kernel
theorem dX9_init_84 : decode cX9_init 84 = .ok (.putfield 60, 3) := by decide +kernel
theorem dX9_init_87 : decode cX9_init 87 = .ok (.aload_n 0, 1) := by decide +kernel
theorem dX9_init_88 : decode cX9_init 88 = .ok (.new 64, 3) := by decide +kernel
theorem dX9_init_91 : decode cX9_init 91 = .ok (.dup, 1) := by decide +kernel
theorem dX9_init_92 : decode cX9_init 92 = .ok (.invokespecial 66, 3) := by decide +kernel
theorem dX9_init_95 : decode cX9_init 95 = .ok (.putfield 67, 3) := by decide +kernel
theorem dX9_init_98 : decode cX9_init 98 = .ok (.aload_n 0, 1) := by decide +kernel
theorem dX9_init_99 : decode cX9_init 99 = .ok (.iconst 0, 1) := by decide +kernel
theorem dX9_init_100 : decode cX9_init 100 = .ok (.putfield 71, 3) := by decide +kernel
theorem dX9_init_103 : decode cX9_init 103 = .ok (.aload_n 0, 1) := by decide +kernel
theorem dX9_init_104 : decode cX9_init 104 = .ok (.iconst (-1), 1) := by decide +kernel
theorem dX9_init_105 : decode cX9_init 105 = .ok (.putfield 75, 3) := by decide +kernel
theorem dX9_init_108 : decode cX9_init 108 = .ok (.return_, 1) := by decide +kernel
set_option maxRecDepth 20000 in
theorem ggX9_water_X0_hasReach : GoodIn wsX9_water wsX0_hasReach := goodIn_r _ [7, 8, 9, 10, 11, 24, 25, 26, 27, 28, 29, 30, 31, 32] (by decide +kernel) (by decide +kernel)
set_option maxRecDepth 20000 in
theorem gX9_water_X0_hasReach : GoodIn wsX9_water (wsV RX9 78 RX0 yX0_hasReach wsX0_hasReach) := goodIn_app (goodIn_of _ (by decide +kernel)) ggX9_water_X0_hasReach
set_option maxRecDepth 20000 in
theorem ggX9_water_X9_isWithin : GoodIn wsX9_water wsX9_isWithin := goodIn_r _ [14] (by decide +kernel) (by decide +kernel)
set_option maxRecDepth 20000 in
theorem gX9_water_X9_isWithin : GoodIn wsX9_water (va_wsS RX9 82 yX9_isWithin wsX9_isWithin) := goodIn_app (goodIn_of _ (by decide +kernel)) ggX9_water_X9_isWithin
theorem dX9_water_0 : decode cX9_water 0 = .ok (.aload_n 0, 1) := by decide +kernel
theorem dX9_water_1 : decode cX9_water 1 = .ok (.getfield 23, 3) := by decide +kernel
theorem dX9_water_4 : decode cX9_water 4 = .ok (.iload_n 1, 1) := by decide +kernel
theorem dX9_water_5 : decode cX9_water 5 = .ok (.invokevirtual 78, 3) := by decide +kernel
theorem dX9_water_8 : decode cX9_water 8 = .ok (.ifCond .eq 14, 3) := by decide +kernel
theorem dX9_water_11 : decode cX9_water 11 = .ok (.iload_n 2, 1) := by decide +kernel
theorem dX9_water_12 : decode cX9_water 12 = .ok (.iconst 0, 1) := by decide +kernel
theorem dX9_water_13 : decode cX9_water 13 = .ok (.sipush 1000, 3) := by decide +kernel
theorem dX9_water_16 : decode cX9_water 16 = .ok (.invokestatic 82, 3) := by decide +kernel
theorem dX9_water_19 : decode cX9_water 19 = .ok (.ifCond .ne 5, 3) := by decide +kernel
theorem dX9_water_22 : decode cX9_water 22 = .ok (.iconst 0, 1) := by decide +kernel
theorem dX9_water_23 : decode cX9_water 23 = .ok (.ireturn, 1) := by decide +kernel
theorem dX9_water_24 : decode cX9_water 24 = .ok (.aload_n 0, 1) := by decide +kernel
theorem dX9_water_25 : decode cX9_water 25 = .ok (.getfield 23, 3) := by decide +kernel
theorem dX9_water_28 : decode cX9_water 28 = .ok (.getfield 86, 3) := by decide +kernel
theorem dX9_water_31 : decode cX9_water 31 = .ok (.iload_n 1, 1) := by decide +kernel
theorem dX9_water_32 : decode cX9_water 32 = .ok (.iload_n 2, 1) := by decide +kernel
theorem dX9_water_33 : decode cX9_water 33 = .ok (.iastore, 1) := by decide +kernel
theorem dX9_water_34 : decode cX9_water 34 = .ok (.iconst 1, 1) := by decide +kernel
theorem dX9_water_35 : decode cX9_water 35 = .ok (.ireturn, 1) := by decide +kernel
set_option maxRecDepth 20000 in
theorem ggX9_lock_X0_hasLock : GoodIn wsX9_lock wsX0_hasLock := goodIn_r _ [7, 8, 9, 10, 11, 24, 25, 26, 27, 28, 29, 30, 31, 32] (by decide +kernel) (by decide +kernel)
set_option maxRecDepth 20000 in
theorem gX9_lock_X0_hasLock : GoodIn wsX9_lock (wsV RX9 90 RX0 yX0_hasLock wsX0_hasLock) := goodIn_app (goodIn_of _ (by decide +kernel)) ggX9_lock_X0_hasLock
set_option maxRecDepth 20000 in
theorem ggX9_lock_X9_isWithin : GoodIn wsX9_lock wsX9_isWithin := goodIn_r _ [14] (by decide +kernel) (by decide +kernel)
set_option maxRecDepth 20000 in
theorem gX9_lock_X9_isWithin : GoodIn wsX9_lock (va_wsS RX9 82 yX9_isWithin wsX9_isWithin) := goodIn_app (goodIn_of _ (by decide +kernel)) ggX9_lock_X9_isWithin
theorem dX9_lock_0 : decode cX9_lock 0 = .ok (.aload_n 0, 1) := by decide +kernel
theorem dX9_lock_1 : decode cX9_lock 1 = .ok (.getfield 23, 3) := by decide +kernel
theorem dX9_lock_4 : decode cX9_lock 4 = .ok (.iload_n 1, 1) := by decide +kernel
theorem dX9_lock_5 : decode cX9_lock 5 = .ok (.invokevirtual 90, 3) := by decide +kernel
theorem dX9_lock_8 : decode cX9_lock 8 = .ok (.ifCond .eq 13, 3) := by decide +kernel
theorem dX9_lock_11 : decode cX9_lock 11 = .ok (.iload_n 2, 1) := by decide +kernel
theorem dX9_lock_12 : decode cX9_lock 12 = .ok (.iconst 1, 1) := by decide +kernel
theorem dX9_lock_13 : decode cX9_lock 13 = .ok (.bipush 60, 2) := by decide +kernel
theorem dX9_lock_15 : decode cX9_lock 15 = .ok (.invokestatic 82, 3) := by decide +kernel
theorem dX9_lock_18 : decode cX9_lock 18 = .ok (.ifCond .ne 5, 3) := by decide +kernel
theorem dX9_lock_21 : decode cX9_lock 21 = .ok (.iconst 0, 1) := by decide +kernel
theorem dX9_lock_22 : decode cX9_lock 22 = .ok (.ireturn, 1) := by decide +kernel
theorem dX9_lock_23 : decode cX9_lock 23 = .ok (.aload_n 0, 1) := by decide +kernel
theorem dX9_lock_24 : decode cX9_lock 24 = .ok (.getfield 23, 3) := by decide +kernel
theorem dX9_lock_27 : decode cX9_lock 27 = .ok (.getfield 93, 3) := by decide +kernel
theorem dX9_lock_30 : decode cX9_lock 30 = .ok (.iload_n 1, 1) := by decide +kernel
theorem dX9_lock_31 : decode cX9_lock 31 = .ok (.iload_n 2, 1) := by decide +kernel
theorem dX9_lock_32 : decode cX9_lock 32 = .ok (.iastore, 1) := by decide +kernel
theorem dX9_lock_33 : decode cX9_lock 33 = .ok (.iconst 1, 1) := by decide +kernel
theorem dX9_lock_34 : decode cX9_lock 34 = .ok (.ireturn, 1) := by decide +kernel
set_option maxRecDepth 20000 in
theorem ggX9_lake_X0_hasReach : GoodIn wsX9_lake wsX0_hasReach := goodIn_r _ [6, 7, 8, 9, 10, 30, 31, 32, 33, 34, 35, 36, 37, 38] (by decide +kernel) (by decide +kernel)
set_option maxRecDepth 20000 in
theorem gX9_lake_X0_hasReach : GoodIn wsX9_lake (wsV RX9 78 RX0 yX0_hasReach wsX0_hasReach) := goodIn_app (goodIn_of _ (by decide +kernel)) ggX9_lake_X0_hasReach
set_option maxRecDepth 20000 in
theorem ggX9_lake_X9_isWithin : GoodIn wsX9_lake wsX9_isWithin := goodIn_r _ [13] (by decide +kernel) (by decide +kernel)
set_option maxRecDepth 20000 in
theorem gX9_lake_X9_isWithin : GoodIn wsX9_lake (va_wsS RX9 82 yX9_isWithin wsX9_isWithin) := goodIn_app (goodIn_of _ (by decide +kernel)) ggX9_lake_X9_isWithin
set_option maxRecDepth 20000 in
theorem ggX9_lake_X0_addLake : GoodIn wsX9_lake wsX0_addLake := goodIn_r _ [17, 18, 19, 20, 30, 31, 32, 33, 34, 35, 36, 37, 38] (by decide +kernel) (by decide +kernel)
set_option maxRecDepth 20000 in
theorem gX9_lake_X0_addLake : GoodIn wsX9_lake (wsV RX9 96 RX0 yX0_addLake wsX0_addLake) := goodIn_app (goodIn_of _ (by decide +kernel)) ggX9_lake_X0_addLake
theorem dX9_lake_0 : decode cX9_lake 0 = .ok (.aload_n 0, 1) := by decide +kernel
theorem dX9_lake_1 : decode cX9_lake 1 = .ok (.getfield 23, 3) := by decide +kernel
theorem dX9_lake_4 : decode cX9_lake 4 = .ok (.iload_n 1, 1) := by decide +kernel
theorem dX9_lake_5 : decode cX9_lake 5 = .ok (.invokevirtual 78, 3) := by decide +kernel
theorem dX9_lake_8 : decode cX9_lake 8 = .ok (.ifCond .eq 14, 3) := by decide +kernel
theorem dX9_lake_11 : decode cX9_lake 11 = .ok (.iload_n 2, 1) := by decide +kernel
theorem dX9_lake_12 : decode cX9_lake 12 = .ok (.iconst 0, 1) := by decide +kernel
theorem dX9_lake_13 : decode cX9_lake 13 = .ok (.sipush 5000, 3) := by decide +kernel
theorem dX9_lake_16 : decode cX9_lake 16 = .ok (.invokestatic 82, 3) := by decide +kernel
theorem dX9_lake_19 : decode cX9_lake 19 = .ok (.ifCond .ne 5, 3) := by decide +kernel
theorem dX9_lake_22 : decode cX9_lake 22 = .ok (.iconst (-1), 1) := by decide +kernel
theorem dX9_lake_23 : decode cX9_lake 23 = .ok (.ireturn, 1) := by decide +kernel
theorem dX9_lake_24 : decode cX9_lake 24 = .ok (.aload_n 0, 1) := by decide +kernel
theorem dX9_lake_25 : decode cX9_lake 25 = .ok (.getfield 23, 3) := by decide +kernel
theorem dX9_lake_28 : decode cX9_lake 28 = .ok (.iload_n 1, 1) := by decide +kernel
theorem dX9_lake_29 : decode cX9_lake 29 = .ok (.iload_n 2, 1) := by decide +kernel
theorem dX9_lake_30 : decode cX9_lake 30 = .ok (.invokevirtual 96, 3) := by decide +kernel
theorem dX9_lake_33 : decode cX9_lake 33 = .ok (.ireturn, 1) := by decide +kernel
set_option maxRecDepth 20000 in
theorem ggX9_give_X0_hasLake : GoodIn wsX9_give wsX0_hasLake := goodIn_r _ [7, 8, 9, 10, 11, 24, 25, 26, 27, 28, 29, 30, 31, 32] (by decide +kernel) (by decide +kernel)
set_option maxRecDepth 20000 in
theorem gX9_give_X0_hasLake : GoodIn wsX9_give (wsV RX9 99 RX0 yX0_hasLake wsX0_hasLake) := goodIn_app (goodIn_of _ (by decide +kernel)) ggX9_give_X0_hasLake
set_option maxRecDepth 20000 in
theorem ggX9_give_X9_isWithin : GoodIn wsX9_give wsX9_isWithin := goodIn_r _ [14] (by decide +kernel) (by decide +kernel)
set_option maxRecDepth 20000 in
theorem gX9_give_X9_isWithin : GoodIn wsX9_give (va_wsS RX9 82 yX9_isWithin wsX9_isWithin) := goodIn_app (goodIn_of _ (by decide +kernel)) ggX9_give_X9_isWithin
theorem dX9_give_0 : decode cX9_give 0 = .ok (.aload_n 0, 1) := by decide +kernel
theorem dX9_give_1 : decode cX9_give 1 = .ok (.getfield 23, 3) := by decide +kernel
theorem dX9_give_4 : decode cX9_give 4 = .ok (.iload_n 1, 1) := by decide +kernel
theorem dX9_give_5 : decode cX9_give 5 = .ok (.invokevirtual 99, 3) := by decide +kernel
theorem dX9_give_8 : decode cX9_give 8 = .ok (.ifCond .eq 13, 3) := by decide +kernel
theorem dX9_give_11 : decode cX9_give 11 = .ok (.iload_n 2, 1) := by decide +kernel
theorem dX9_give_12 : decode cX9_give 12 = .ok (.iconst 0, 1) := by decide +kernel
theorem dX9_give_13 : decode cX9_give 13 = .ok (.bipush 100, 2) := by decide +kernel
theorem dX9_give_15 : decode cX9_give 15 = .ok (.invokestatic 82, 3) := by decide +kernel
theorem dX9_give_18 : decode cX9_give 18 = .ok (.ifCond .ne 5, 3) := by decide +kernel
theorem dX9_give_21 : decode cX9_give 21 = .ok (.iconst 0, 1) := by decide +kernel
theorem dX9_give_22 : decode cX9_give 22 = .ok (.ireturn, 1) := by decide +kernel
theorem dX9_give_23 : decode cX9_give 23 = .ok (.aload_n 0, 1) := by decide +kernel
theorem dX9_give_24 : decode cX9_give 24 = .ok (.getfield 23, 3) := by decide +kernel
theorem dX9_give_27 : decode cX9_give 27 = .ok (.getfield 102, 3) := by decide +kernel
theorem dX9_give_30 : decode cX9_give 30 = .ok (.iload_n 1, 1) := by decide +kernel
theorem dX9_give_31 : decode cX9_give 31 = .ok (.iload_n 2, 1) := by decide +kernel
theorem dX9_give_32 : decode cX9_give 32 = .ok (.iastore, 1) := by decide +kernel
theorem dX9_give_33 : decode cX9_give 33 = .ok (.iconst 1, 1) := by decide +kernel
theorem dX9_give_34 : decode cX9_give 34 = .ok (.ireturn, 1) := by decide +kernel
set_option maxRecDepth 20000 in
theorem ggX9_ice_X9_isDay : GoodIn wsX9_ice wsX9_isDay := goodIn_r _ [7, 8, 9, 6, 10] (by decide +kernel) (by decide +kernel)
set_option maxRecDepth 20000 in
theorem gX9_ice_X9_isDay : GoodIn wsX9_ice (va_wsS RX9 105 yX9_isDay wsX9_isDay) := goodIn_app (goodIn_of _ (by decide +kernel)) ggX9_ice_X9_isDay
set_option maxRecDepth 20000 in
theorem ggX9_ice_X0_hasReach : GoodIn wsX9_ice wsX0_hasReach := goodIn_r _ [15, 16, 17, 6, 18, 28, 29, 30, 31, 32, 33, 34, 35, 36] (by decide +kernel) (by decide +kernel)
set_option maxRecDepth 20000 in
theorem gX9_ice_X0_hasReach : GoodIn wsX9_ice (wsV RX9 78 RX0 yX0_hasReach wsX0_hasReach) := goodIn_app (goodIn_of _ (by decide +kernel)) ggX9_ice_X0_hasReach
theorem dX9_ice_0 : decode cX9_ice 0 = .ok (.iload_n 1, 1) := by decide +kernel
theorem dX9_ice_1 : decode cX9_ice 1 = .ok (.invokestatic 105, 3) := by decide +kernel
theorem dX9_ice_4 : decode cX9_ice 4 = .ok (.ifCond .eq 14, 3) := by decide +kernel
theorem dX9_ice_7 : decode cX9_ice 7 = .ok (.aload_n 0, 1) := by decide +kernel
theorem dX9_ice_8 : decode cX9_ice 8 = .ok (.getfield 23, 3) := by decide +kernel
theorem dX9_ice_11 : decode cX9_ice 11 = .ok (.iload_n 2, 1) := by decide +kernel
theorem dX9_ice_12 : decode cX9_ice 12 = .ok (.invokevirtual 78, 3) := by decide +kernel
theorem dX9_ice_15 : decode cX9_ice 15 = .ok (.ifCond .ne 5, 3) := by decide +kernel
theorem dX9_ice_18 : decode cX9_ice 18 = .ok (.iconst 0, 1) := by decide +kernel
theorem dX9_ice_19 : decode cX9_ice 19 = .ok (.ireturn, 1) := by decide +kernel
theorem dX9_ice_20 : decode cX9_ice 20 = .ok (.aload_n 0, 1) := by decide +kernel
theorem dX9_ice_21 : decode cX9_ice 21 = .ok (.getfield 23, 3) := by decide +kernel
theorem dX9_ice_24 : decode cX9_ice 24 = .ok (.iload_n 1, 1) := by decide +kernel
theorem dX9_ice_25 : decode cX9_ice 25 = .ok (.putfield 108, 3) := by decide +kernel
theorem dX9_ice_28 : decode cX9_ice 28 = .ok (.aload_n 0, 1) := by decide +kernel
theorem dX9_ice_29 : decode cX9_ice 29 = .ok (.getfield 23, 3) := by decide +kernel
theorem dX9_ice_32 : decode cX9_ice 32 = .ok (.iload_n 2, 1) := by decide +kernel
theorem dX9_ice_33 : decode cX9_ice 33 = .ok (.putfield 111, 3) := by decide +kernel
theorem dX9_ice_36 : decode cX9_ice 36 = .ok (.iconst 1, 1) := by decide +kernel
theorem dX9_ice_37 : decode cX9_ice 37 = .ok (.ireturn, 1) := by decide +kernel
set_option maxRecDepth 20000 in
theorem ggX9_squadron_X9_isCounty : GoodIn wsX9_squadron wsX9_isCounty := goodIn_r _ [10, 11, 12, 9, 13] (by decide +kernel) (by decide +kernel)
set_option maxRecDepth 20000 in
theorem gX9_squadron_X9_isCounty : GoodIn wsX9_squadron (va_wsS RX9 114 yX9_isCounty wsX9_isCounty) := goodIn_app (goodIn_of _ (by decide +kernel)) ggX9_squadron_X9_isCounty
set_option maxRecDepth 20000 in
theorem ggX9_squadron_X9_isWithin : GoodIn wsX9_squadron wsX9_isWithin := goodIn_r _ [13] (by decide +kernel) (by decide +kernel)
set_option maxRecDepth 20000 in
theorem gX9_squadron_X9_isWithin : GoodIn wsX9_squadron (va_wsS RX9 82 yX9_isWithin wsX9_isWithin) := goodIn_app (goodIn_of _ (by decide +kernel)) ggX9_squadron_X9_isWithin
set_option maxRecDepth 20000 in
theorem ggX9_squadron_X3_isFull : GoodIn wsX9_squadron wsX3_isFull := goodIn_r _ [18, 19, 75, 76, 77] (by decide +kernel) (by decide +kernel)
set_option maxRecDepth 20000 in
theorem gX9_squadron_X3_isFull : GoodIn wsX9_squadron (wsV RX9 117 RX3 yX3_isFull wsX3_isFull) := goodIn_app (goodIn_of _ (by decide +kernel)) ggX9_squadron_X3_isFull
set_option maxRecDepth 20000 in
theorem ggX9_squadron_X6_init : GoodIn wsX9_squadron wsX6_init := goodIn_r _ [22, 23, 24, 25, 26, 27, 28, 29, 30, 31, 32, 33, 34, 35, 36, 37, 38, 54, 55, 56, 57, 58, 59, 60, 61, 62, 63, 64, 65] (by decide +kernel) (by decide +kernel)
set_option maxRecDepth 20000 in
theorem gX9_squadron_X6_init : GoodIn wsX9_squadron (wsX6_init) := ggX9_squadron_X6_init
set_option maxRecDepth 20000 in
theorem ggX9_squadron_X3_add : GoodIn wsX9_squadron wsX3_add := goodIn_r _ [42, 43, 19, 44, 15, 16, 17, 18, 75, 76, 77] (by decide +kernel) (by decide +kernel)
set_option maxRecDepth 20000 in
theorem gX9_squadron_X3_add : GoodIn wsX9_squadron (wsV RX9 129 RX3 yX3_add wsX3_add) := goodIn_app (goodIn_of _ (by decide +kernel)) ggX9_squadron_X3_add
theorem dX9_squadron_0 : decode cX9_squadron 0 = .ok (.iload_n 1, 1) := by decide +kernel
theorem dX9_squadron_1 : decode cX9_squadron 1 = .ok (.invokestatic 114, 3) := by decide +kernel
theorem dX9_squadron_4 : decode cX9_squadron 4 = .ok (.ifCond .eq 40, 3) := by decide +kernel
theorem dX9_squadron_7 : decode cX9_squadron 7 = .ok (.iload_n 2, 1) := by decide +kernel
theorem dX9_squadron_8 : decode cX9_squadron 8 = .ok (.iconst 1, 1) := by decide +kernel
theorem dX9_squadron_9 : decode cX9_squadron 9 = .ok (.bipush 50, 2) := by decide +kernel
theorem dX9_squadron_11 : decode cX9_squadron 11 = .ok (.invokestatic 82, 3) := by decide +kernel
theorem dX9_squadron_14 : decode cX9_squadron 14 = .ok (.ifCond .eq 30, 3) := by decide +kernel
theorem dX9_squadron_17 : decode cX9_squadron 17 = .ok (.iload_n 3, 1) := by decide +kernel
theorem dX9_squadron_18 : decode cX9_squadron 18 = .ok (.iconst 0, 1) := by decide +kernel
theorem dX9_squadron_19 : decode cX9_squadron 19 = .ok (.sipush 5000, 3) := by decide +kernel
theorem dX9_squadron_22 : decode cX9_squadron 22 = .ok (.invokestatic 82, 3) := by decide +kernel
theorem dX9_squadron_25 : decode cX9_squadron 25 = .ok (.ifCond .eq 19, 3) := by decide +kernel
theorem dX9_squadron_28 : decode cX9_squadron 28 = .ok (.iload 4, 2) := by decide +kernel
theorem dX9_squadron_30 : decode cX9_squadron 30 = .ok (.iconst 0, 1) := by decide +kernel
theorem dX9_squadron_31 : decode cX9_squadron 31 = .ok (.sipush 2000, 3) := by decide +kernel
theorem dX9_squadron_34 : decode cX9_squadron 34 = .ok (.invokestatic 82, 3) := by decide +kernel
theorem dX9_squadron_37 : decode cX9_squadron 37 = .ok (.ifCond .eq 7, 3) := by decide +kernel
theorem dX9_squadron_40 : decode cX9_squadron 40 = .ok (.iconst 1, 1) := by decide +kernel
theorem dX9_squadron_41 : decode cX9_squadron 41 = .ok (.goto 4, 3) := by decide +kernel
theorem dX9_squadron_44 : decode cX9_squadron 44 = .ok (.iconst 0, 1) := by decide +kernel
theorem dX9_squadron_45 : decode cX9_squadron 45 = .ok (.istore 5, 2) := by decide +kernel
theorem dX9_squadron_47 : decode cX9_squadron 47 = .ok (.iload 5, 2) := by decide +kernel
theorem dX9_squadron_49 : decode cX9_squadron 49 = .ok (.ifCond .eq 13, 3) := by decide +kernel
theorem dX9_squadron_52 : decode cX9_squadron 52 = .ok (.aload_n 0, 1) := by decide +kernel
theorem dX9_squadron_53 : decode cX9_squadron 53 = .ok (.getfield 30, 3) := by decide +kernel
theorem dX9_squadron_56 : decode cX9_squadron 56 = .ok (.invokevirtual 117, 3) := by decide +kernel
theorem dX9_squadron_59 : decode cX9_squadron 59 = .ok (.ifCond .eq 5, 3) := by decide +kernel
theorem dX9_squadron_62 : decode cX9_squadron 62 = .ok (.iconst (-1), 1) := by decide +kernel
theorem dX9_squadron_63 : decode cX9_squadron 63 = .ok (.ireturn, 1) := by decide +kernel
theorem dX9_squadron_64 : decode cX9_squadron 64 = .ok (.aload_n 0, 1) := by decide +kernel
theorem dX9_squadron_65 : decode cX9_squadron 65 = .ok (.getfield 30, 3) := by decide +kernel
theorem dX9_squadron_68 : decode cX9_squadron 68 = .ok (.new 121, 3) := by decide +kernel
theorem dX9_squadron_71 : decode cX9_squadron 71 = .ok (.dup, 1) := by decide +kernel
theorem dX9_squadron_72 : decode cX9_squadron 72 = .ok (.aload_n 0, 1) := by decide +kernel
theorem dX9_squadron_73 : decode cX9_squadron 73 = .ok (.getfield 23, 3) := by decide +kernel
theorem dX9_squadron_76 : decode cX9_squadron 76 = .ok (.getfield 123, 3) := by decide +kernel
theorem dX9_squadron_79 : decode cX9_squadron 79 = .ok (.iload_n 1, 1) := by decide +kernel
theorem dX9_squadron_80 : decode cX9_squadron 80 = .ok (.iload_n 2, 1) := by decide +kernel
theorem dX9_squadron_81 : decode cX9_squadron 81 = .ok (.iload_n 3, 1) := by decide +kernel
theorem dX9_squadron_82 : decode cX9_squadron 82 = .ok (.iload 4, 2) := by decide +kernel
theorem dX9_squadron_84 : decode cX9_squadron 84 = .ok (.invokespecial 126, 3) := by decide +kernel
theorem dX9_squadron_87 : decode cX9_squadron 87 = .ok (.invokevirtual 129, 3) := by decide +kernel
theorem dX9_squadron_90 : decode cX9_squadron 90 = .ok (.ireturn, 1) := by decide +kernel
set_option maxRecDepth 20000 in
theorem ggX9_feed_X8_hasRoom : GoodIn wsX9_feed wsX8_hasRoom := goodIn_r _ [7, 8, 23, 24] (by decide +kernel) (by decide +kernel)
set_option maxRecDepth 20000 in
theorem gX9_feed_X8_hasRoom : GoodIn wsX9_feed (wsV RX9 133 RX8 yX8_hasRoom wsX8_hasRoom) := goodIn_app (goodIn_of _ (by decide +kernel)) ggX9_feed_X8_hasRoom
set_option maxRecDepth 20000 in
theorem ggX9_feed_X8_append : GoodIn wsX9_feed wsX8_append := goodIn_r _ [12, 8, 13, 23, 24] (by decide +kernel) (by decide +kernel)
set_option maxRecDepth 20000 in
theorem gX9_feed_X8_append : GoodIn wsX9_feed (wsV RX9 136 RX8 yX8_append wsX8_append) := goodIn_app (goodIn_of _ (by decide +kernel)) ggX9_feed_X8_append
theorem dX9_feed_0 : decode cX9_feed 0 = .ok (.aload_n 0, 1) := by decide +kernel
theorem dX9_feed_1 : decode cX9_feed 1 = .ok (.getfield 37, 3) := by decide +kernel
theorem dX9_feed_4 : decode cX9_feed 4 = .ok (.invokevirtual 133, 3) := by decide +kernel
theorem dX9_feed_7 : decode cX9_feed 7 = .ok (.ifCond .ne 5, 3) := by decide +kernel
theorem dX9_feed_10 : decode cX9_feed 10 = .ok (.iconst (-1), 1) := by decide +kernel
theorem dX9_feed_11 : decode cX9_feed 11 = .ok (.ireturn, 1) := by decide +kernel
theorem dX9_feed_12 : decode cX9_feed 12 = .ok (.aload_n 0, 1) := by decide +kernel
theorem dX9_feed_13 : decode cX9_feed 13 = .ok (.getfield 37, 3) := by decide +kernel
theorem dX9_feed_16 : decode cX9_feed 16 = .ok (.iload_n 1, 1) := by decide +kernel
theorem dX9_feed_17 : decode cX9_feed 17 = .ok (.invokevirtual 136, 3) := by decide +kernel
theorem dX9_feed_20 : decode cX9_feed 20 = .ok (.aload_n 0, 1) := by decide +kernel
theorem dX9_feed_21 : decode cX9_feed 21 = .ok (.getfield 37, 3) := by decide +kernel
theorem dX9_feed_24 : decode cX9_feed 24 = .ok (.iload_n 2, 1) := by decide +kernel
theorem dX9_feed_25 : decode cX9_feed 25 = .ok (.invokevirtual 136, 3) := by decide +kernel
theorem dX9_feed_28 : decode cX9_feed 28 = .ok (.aload_n 0, 1) := by decide +kernel
theorem dX9_feed_29 : decode cX9_feed 29 = .ok (.getfield 37, 3) := by decide +kernel
theorem dX9_feed_32 : decode cX9_feed 32 = .ok (.iload_n 3, 1) := by decide +kernel
theorem dX9_feed_33 : decode cX9_feed 33 = .ok (.invokevirtual 136, 3) := by decide +kernel
theorem dX9_feed_36 : decode cX9_feed 36 = .ok (.aload_n 0, 1) := by decide +kernel
theorem dX9_feed_37 : decode cX9_feed 37 = .ok (.getfield 37, 3) := by decide +kernel
theorem dX9_feed_40 : decode cX9_feed 40 = .ok (.iload 4, 2) := by decide +kernel
theorem dX9_feed_42 : decode cX9_feed 42 = .ok (.invokevirtual 136, 3) := by decide +kernel
theorem dX9_feed_45 : decode cX9_feed 45 = .ok (.aload_n 0, 1) := by decide +kernel
theorem dX9_feed_46 : decode cX9_feed 46 = .ok (.getfield 37, 3) := by decide +kernel
theorem dX9_feed_49 : decode cX9_feed 49 = .ok (.iload 5, 2) := by decide +kernel
theorem dX9_feed_51 : decode cX9_feed 51 = .ok (.invokevirtual 136, 3) := by decide +kernel
theorem dX9_feed_54 : decode cX9_feed 54 = .ok (.aload_n 0, 1) := by decide +kernel
theorem dX9_feed_55 : decode cX9_feed 55 = .ok (.getfield 37, 3) := by decide +kernel
theorem dX9_feed_58 : decode cX9_feed 58 = .ok (.getfield 139, 3) := by decide +kernel
theorem dX9_feed_61 : decode cX9_feed 61 = .ok (.ireturn, 1) := by decide +kernel
set_option maxRecDepth 20000 in
theorem ggX9_statute_X1_isFull : GoodIn wsX9_statute wsX1_isFull := goodIn_r _ [17, 18, 177, 178, 179] (by decide +kernel) (by decide +kernel)
set_option maxRecDepth 20000 in
theorem gX9_statute_X1_isFull : GoodIn wsX9_statute (wsV RX9 142 RX1 yX1_isFull wsX1_isFull) := goodIn_app (goodIn_of _ (by decide +kernel)) ggX9_statute_X1_isFull
set_option maxRecDepth 20000 in
theorem ggX9_statute_X7_init : GoodIn wsX9_statute wsX7_init := goodIn_r _ [21, 22, 23, 24, 25, 26, 27, 28, 29, 30, 31, 32, 161, 162, 163, 164, 165, 166, 167] (by decide +kernel) (by decide +kernel)
set_option maxRecDepth 20000 in
theorem gX9_statute_X7_init : GoodIn wsX9_statute (wsX7_init) := ggX9_statute_X7_init
set_option maxRecDepth 20000 in
theorem ggX9_statute_X4_read : GoodIn wsX9_statute wsX4_read := goodIn_r _ [37, 38, 39, 40, 41, 42, 43, 44, 36, 45, 46, 47, 48, 49, 50, 51, 52, 53, 54, 55, 56, 57, 58, 59, 60, 61, 62, 63, 64, 65, 66, 67, 68, 69, 70, 71, 72, 73, 74, 75, 76, 77, 78, 79, 80, 81, 82, 83, 84, 85, 86, 87, 88, 89, 90, 91, 92, 93, 94, 95, 96, 97, 98, 99, 100, 101, 102, 103, 104, 105, 106, 107, 108, 109, 110, 111, 112, 113, 114, 115, 116, 117, 118, 119, 120, 121, 122, 123, 124, 125, 126, 127, 128, 129, 130, 131, 132, 133, 134, 135, 136, 137, 138, 139, 6, 140, 28, 141, 142, 143, 180, 181, 182, 183, 184, 159, 160, 161, 162, 163, 164, 165, 166, 167] (by decide +kernel) (by decide +kernel)
set_option maxRecDepth 20000 in
theorem gX9_statute_X4_read : GoodIn wsX9_statute (wsV RX9 149 RX4 yX4_read wsX4_read) := goodIn_app (goodIn_of _ (by decide +kernel)) ggX9_statute_X4_read
set_option maxRecDepth 20000 in
theorem ggX9_statute_X1_take : GoodIn wsX9_statute wsX1_take := goodIn_r _ [147, 148, 18, 149, 14, 15, 16, 17, 177, 178, 179] (by decide +kernel) (by decide +kernel)
set_option maxRecDepth 20000 in
theorem gX9_statute_X1_take : GoodIn wsX9_statute (wsV RX9 153 RX1 yX1_take wsX1_take) := goodIn_app (goodIn_of _ (by decide +kernel)) ggX9_statute_X1_take
theorem dX9_statute_0 : decode cX9_statute 0 = .ok (.iload_n 1, 1) := by decide +kernel
theorem dX9_statute_1 : decode cX9_statute 1 = .ok (.ifCond .lt 14, 3) := by decide +kernel
theorem dX9_statute_4 : decode cX9_statute 4 = .ok (.iload_n 1, 1) := by decide +kernel
theorem dX9_statute_5 : decode cX9_statute 5 = .ok (.aload_n 0, 1) := by decide +kernel
theorem dX9_statute_6 : decode cX9_statute 6 = .ok (.getfield 37, 3) := by decide +kernel
theorem dX9_statute_9 : decode cX9_statute 9 = .ok (.getfield 139, 3) := by decide +kernel
theorem dX9_statute_12 : decode cX9_statute 12 = .ok (.if_icmp .le 6, 3) := by decide +kernel
theorem dX9_statute_15 : decode cX9_statute 15 = .ok (.bipush (-2), 2) := by decide +kernel
theorem dX9_statute_17 : decode cX9_statute 17 = .ok (.ireturn, 1) := by decide +kernel
theorem dX9_statute_18 : decode cX9_statute 18 = .ok (.aload_n 0, 1) := by decide +kernel
theorem dX9_statute_19 : decode cX9_statute 19 = .ok (.getfield 53, 3) := by decide +kernel
theorem dX9_statute_22 : decode cX9_statute 22 = .ok (.invokevirtual 142, 3) := by decide +kernel
theorem dX9_statute_25 : decode cX9_statute 25 = .ok (.ifCond .eq 6, 3) := by decide +kernel
theorem dX9_statute_28 : decode cX9_statute 28 = .ok (.bipush (-3), 2) := by decide +kernel
theorem dX9_statute_30 : decode cX9_statute 30 = .ok (.ireturn, 1) := by decide +kernel
theorem dX9_statute_31 : decode cX9_statute 31 = .ok (.new 143, 3) := by decide +kernel
theorem dX9_statute_34 : decode cX9_statute 34 = .ok (.dup, 1) := by decide +kernel
theorem dX9_statute_35 : decode cX9_statute 35 = .ok (.aload_n 0, 1) := by decide +kernel
theorem dX9_statute_36 : decode cX9_statute 36 = .ok (.getfield 23, 3) := by decide +kernel
theorem dX9_statute_39 : decode cX9_statute 39 = .ok (.getfield 123, 3) := by decide +kernel
theorem dX9_statute_42 : decode cX9_statute 42 = .ok (.aload_n 0, 1) := by decide +kernel
theorem dX9_statute_43 : decode cX9_statute 43 = .ok (.getfield 53, 3) := by decide +kernel
theorem dX9_statute_46 : decode cX9_statute 46 = .ok (.getfield 145, 3) := by decide +kernel
theorem dX9_statute_49 : decode cX9_statute 49 = .ok (.aload_n 0, 1) := by decide +kernel
theorem dX9_statute_50 : decode cX9_statute 50 = .ok (.getfield 71, 3) := by decide +kernel
theorem dX9_statute_53 : decode cX9_statute 53 = .ok (.invokespecial 146, 3) := by decide +kernel
theorem dX9_statute_56 : decode cX9_statute 56 = .ok (.astore_n 2, 1) := by decide +kernel
theorem dX9_statute_57 : decode cX9_statute 57 = .ok (.aload_n 0, 1) := by decide +kernel
theorem dX9_statute_58 : decode cX9_statute 58 = .ok (.aload_n 0, 1) := by decide +kernel
theorem dX9_statute_59 : decode cX9_statute 59 = .ok (.getfield 46, 3) := by decide +kernel
theorem dX9_statute_62 : decode cX9_statute 62 = .ok (.iload_n 1, 1) := by decide +kernel
theorem dX9_statute_63 : decode cX9_statute 63 = .ok (.aload_n 2, 1) := by decide +kernel
theorem dX9_statute_64 : decode cX9_statute 64 = .ok (.invokevirtual 149, 3) := by decide +kernel
theorem dX9_statute_67 : decode cX9_statute 67 = .ok (.putfield 75, 3) := by decide +kernel
theorem dX9_statute_70 : decode cX9_statute 70 = .ok (.aload_n 0, 1) := by decide +kernel
theorem dX9_statute_71 : decode cX9_statute 71 = .ok (.getfield 37, 3) := by decide +kernel
theorem dX9_statute_74 : decode cX9_statute 74 = .ok (.iconst 0, 1) := by decide +kernel
theorem dX9_statute_75 : decode cX9_statute 75 = .ok (.putfield 139, 3) := by decide +kernel
theorem dX9_statute_78 : decode cX9_statute 78 = .ok (.aload_n 0, 1) := by decide +kernel
theorem dX9_statute_79 : decode cX9_statute 79 = .ok (.getfield 75, 3) := by decide +kernel
theorem dX9_statute_82 : decode cX9_statute 82 = .ok (.iconst (-1), 1) := by decide +kernel
theorem dX9_statute_83 : decode cX9_statute 83 = .ok (.if_icmp .ne 14, 3) := by decide +kernel
theorem dX9_statute_86 : decode cX9_statute 86 = .ok (.aload_n 0, 1) := by decide +kernel
theorem dX9_statute_87 : decode cX9_statute 87 = .ok (.getfield 53, 3) := by decide +kernel
theorem dX9_statute_90 : decode cX9_statute 90 = .ok (.aload_n 2, 1) := by decide +kernel
theorem dX9_statute_91 : decode cX9_statute 91 = .ok (.invokevirtual 153, 3) := by decide +kernel
theorem dX9_statute_94 : decode cX9_statute 94 = .ok (.goto 4, 3) := by decide +kernel
theorem dX9_statute_97 : decode cX9_statute 97 = .ok (.iconst (-1), 1) := by decide +kernel
theorem dX9_statute_98 : decode cX9_statute 98 = .ok (.ireturn, 1) := by decide +kernel
theorem dX9_fault_0 : decode cX9_fault 0 = .ok (.aload_n 0, 1) := by decide +kernel
theorem dX9_fault_1 : decode cX9_fault 1 = .ok (.getfield 75, 3) := by decide +kernel
theorem dX9_fault_4 : decode cX9_fault 4 = .ok (.ireturn, 1) := by decide +kernel
set_option maxRecDepth 20000 in
theorem ggX9_law_X9_isDay : GoodIn wsX9_law wsX9_isDay := goodIn_r _ [5, 6, 7, 4, 8] (by decide +kernel) (by decide +kernel)
set_option maxRecDepth 20000 in
theorem gX9_law_X9_isDay : GoodIn wsX9_law (va_wsS RX9 105 yX9_isDay wsX9_isDay) := goodIn_app (goodIn_of _ (by decide +kernel)) ggX9_law_X9_isDay
set_option maxRecDepth 20000 in
theorem ggX9_law_X1_inForce : GoodIn wsX9_law wsX1_inForce := goodIn_r _ [13, 14, 15, 16, 17, 44, 45, 46, 47, 48, 49, 50, 51, 52, 53] (by decide +kernel) (by decide +kernel)
set_option maxRecDepth 20000 in
theorem gX9_law_X1_inForce : GoodIn wsX9_law (wsV RX9 157 RX1 yX1_inForce wsX1_inForce) := goodIn_app (goodIn_of _ (by decide +kernel)) ggX9_law_X1_inForce
set_option maxRecDepth 20000 in
theorem ggX9_law_X7_tell : GoodIn wsX9_law wsX7_tell := goodIn_r _ [22, 23, 24, 25, 26, 27, 28, 29, 30, 21, 31, 32, 33, 4, 34, 47, 48, 49, 50, 51, 52, 53] (by decide +kernel) (by decide +kernel)
set_option maxRecDepth 20000 in
theorem gX9_law_X7_tell : GoodIn wsX9_law (wsV RX9 161 RX7 yX7_tell wsX7_tell) := goodIn_app (goodIn_of _ (by decide +kernel)) ggX9_law_X7_tell
theorem dX9_law_0 : decode cX9_law 0 = .ok (.iload_n 1, 1) := by decide +kernel
theorem dX9_law_1 : decode cX9_law 1 = .ok (.invokestatic 105, 3) := by decide +kernel
theorem dX9_law_4 : decode cX9_law 4 = .ok (.ifCond .eq 18, 3) := by decide +kernel
theorem dX9_law_7 : decode cX9_law 7 = .ok (.aload_n 0, 1) := by decide +kernel
theorem dX9_law_8 : decode cX9_law 8 = .ok (.getfield 53, 3) := by decide +kernel
theorem dX9_law_11 : decode cX9_law 11 = .ok (.iload_n 1, 1) := by decide +kernel
theorem dX9_law_12 : decode cX9_law 12 = .ok (.invokevirtual 157, 3) := by decide +kernel
theorem dX9_law_15 : decode cX9_law 15 = .ok (.iload_n 2, 1) := by decide +kernel
theorem dX9_law_16 : decode cX9_law 16 = .ok (.invokevirtual 161, 3) := by decide +kernel
theorem dX9_law_19 : decode cX9_law 19 = .ok (.goto 4, 3) := by decide +kernel
theorem dX9_law_22 : decode cX9_law 22 = .ok (.iconst (-1), 1) := by decide +kernel
theorem dX9_law_23 : decode cX9_law 23 = .ok (.ireturn, 1) := by decide +kernel
set_option maxRecDepth 20000 in
theorem ggX9_leave_X3_find : GoodIn wsX9_leave wsX3_find := goodIn_r _ [7, 8, 9, 10, 11, 12, 34, 35, 36] (by decide +kernel) (by decide +kernel)
set_option maxRecDepth 20000 in
theorem gX9_leave_X3_find : GoodIn wsX9_leave (wsV RX9 165 RX3 yX3_find wsX3_find) := goodIn_app (goodIn_of _ (by decide +kernel)) ggX9_leave_X3_find
theorem dX9_leave_0 : decode cX9_leave 0 = .ok (.aload_n 0, 1) := by decide +kernel
theorem dX9_leave_1 : decode cX9_leave 1 = .ok (.getfield 30, 3) := by decide +kernel
theorem dX9_leave_4 : decode cX9_leave 4 = .ok (.iload_n 1, 1) := by decide +kernel
theorem dX9_leave_5 : decode cX9_leave 5 = .ok (.invokevirtual 165, 3) := by decide +kernel
theorem dX9_leave_8 : decode cX9_leave 8 = .ok (.astore_n 3, 1) := by decide +kernel
theorem dX9_leave_9 : decode cX9_leave 9 = .ok (.aload_n 3, 1) := by decide +kernel
theorem dX9_leave_10 : decode cX9_leave 10 = .ok (.ifnull 11, 3) := by decide +kernel
theorem dX9_leave_13 : decode cX9_leave 13 = .ok (.aload_n 3, 1) := by decide +kernel
theorem dX9_leave_14 : decode cX9_leave 14 = .ok (.getfield 169, 3) := by decide +kernel
theorem dX9_leave_17 : decode cX9_leave 17 = .ok (.iload_n 2, 1) := by decide +kernel
theorem dX9_leave_18 : decode cX9_leave 18 = .ok (.if_icmp .ne 5, 3) := by decide +kernel
theorem dX9_leave_21 : decode cX9_leave 21 = .ok (.iconst 0, 1) := by decide +kernel
theorem dX9_leave_22 : decode cX9_leave 22 = .ok (.ireturn, 1) := by decide +kernel
theorem dX9_leave_23 : decode cX9_leave 23 = .ok (.aload_n 3, 1) := by decide +kernel
theorem dX9_leave_24 : decode cX9_leave 24 = .ok (.iload_n 2, 1) := by decide +kernel
theorem dX9_leave_25 : decode cX9_leave 25 = .ok (.putfield 169, 3) := by decide +kernel
theorem dX9_leave_28 : decode cX9_leave 28 = .ok (.iconst 1, 1) := by decide +kernel
theorem dX9_leave_29 : decode cX9_leave 29 = .ok (.ireturn, 1) := by decide +kernel
set_option maxRecDepth 20000 in
theorem ggX9_lose_X3_find : GoodIn wsX9_lose wsX3_find := goodIn_r _ [7, 8, 9, 10, 11, 12, 49, 50, 51] (by decide +kernel) (by decide +kernel)
set_option maxRecDepth 20000 in
theorem gX9_lose_X3_find : GoodIn wsX9_lose (wsV RX9 165 RX3 yX3_find wsX3_find) := goodIn_app (goodIn_of _ (by decide +kernel)) ggX9_lose_X3_find
set_option maxRecDepth 20000 in
theorem ggX9_lose_X6_hasCome : GoodIn wsX9_lose wsX6_hasCome := goodIn_r _ [17, 18, 37, 38, 39, 40, 41, 42, 43, 44, 45, 46, 47, 48] (by decide +kernel) (by decide +kernel)
set_option maxRecDepth 20000 in
theorem gX9_lose_X6_hasCome : GoodIn wsX9_lose (wsV RX9 173 RX6 yX6_hasCome wsX6_hasCome) := goodIn_app (goodIn_of _ (by decide +kernel)) ggX9_lose_X6_hasCome
set_option maxRecDepth 20000 in
theorem ggX9_lose_X6_bagsLeft : GoodIn wsX9_lose wsX6_bagsLeft := goodIn_r _ [22, 23, 24, 37, 38, 39, 40, 41, 42, 43, 44, 45, 46, 47, 48] (by decide +kernel) (by decide +kernel)
set_option maxRecDepth 20000 in
theorem gX9_lose_X6_bagsLeft : GoodIn wsX9_lose (wsV RX9 176 RX6 yX6_bagsLeft wsX6_bagsLeft) := goodIn_app (goodIn_of _ (by decide +kernel)) ggX9_lose_X6_bagsLeft
set_option maxRecDepth 20000 in
theorem ggX9_lose_X9_isWithin : GoodIn wsX9_lose wsX9_isWithin := goodIn_r _ [27] (by decide +kernel) (by decide +kernel)
set_option maxRecDepth 20000 in
theorem gX9_lose_X9_isWithin : GoodIn wsX9_lose (va_wsS RX9 82 yX9_isWithin wsX9_isWithin) := goodIn_app (goodIn_of _ (by decide +kernel)) ggX9_lose_X9_isWithin
theorem dX9_lose_0 : decode cX9_lose 0 = .ok (.aload_n 0, 1) := by decide +kernel
theorem dX9_lose_1 : decode cX9_lose 1 = .ok (.getfield 30, 3) := by decide +kernel
theorem dX9_lose_4 : decode cX9_lose 4 = .ok (.iload_n 1, 1) := by decide +kernel
theorem dX9_lose_5 : decode cX9_lose 5 = .ok (.invokevirtual 165, 3) := by decide +kernel
theorem dX9_lose_8 : decode cX9_lose 8 = .ok (.astore_n 3, 1) := by decide +kernel
theorem dX9_lose_9 : decode cX9_lose 9 = .ok (.aload_n 3, 1) := by decide +kernel
theorem dX9_lose_10 : decode cX9_lose 10 = .ok (.ifnull 22, 3) := by decide +kernel
theorem dX9_lose_13 : decode cX9_lose 13 = .ok (.aload_n 3, 1) := by decide +kernel
theorem dX9_lose_14 : decode cX9_lose 14 = .ok (.invokevirtual 173, 3) := by decide +kernel
theorem dX9_lose_17 : decode cX9_lose 17 = .ok (.ifCond .ne 15, 3) := by decide +kernel
theorem dX9_lose_20 : decode cX9_lose 20 = .ok (.iload_n 2, 1) := by decide +kernel
theorem dX9_lose_21 : decode cX9_lose 21 = .ok (.iconst 1, 1) := by decide +kernel
theorem dX9_lose_22 : decode cX9_lose 22 = .ok (.aload_n 3, 1) := by decide +kernel
theorem dX9_lose_23 : decode cX9_lose 23 = .ok (.invokevirtual 176, 3) := by decide +kernel
theorem dX9_lose_26 : decode cX9_lose 26 = .ok (.invokestatic 82, 3) := by decide +kernel
theorem dX9_lose_29 : decode cX9_lose 29 = .ok (.ifCond .ne 5, 3) := by decide +kernel
theorem dX9_lose_32 : decode cX9_lose 32 = .ok (.iconst (-1), 1) := by decide +kernel
theorem dX9_lose_33 : decode cX9_lose 33 = .ok (.ireturn, 1) := by decide +kernel
theorem dX9_lose_34 : decode cX9_lose 34 = .ok (.aload_n 3, 1) := by decide +kernel
theorem dX9_lose_35 : decode cX9_lose 35 = .ok (.dup, 1) := by decide +kernel
theorem dX9_lose_36 : decode cX9_lose 36 = .ok (.getfield 180, 3) := by decide +kernel
theorem dX9_lose_39 : decode cX9_lose 39 = .ok (.iload_n 2, 1) := by decide +kernel
theorem dX9_lose_40 : decode cX9_lose 40 = .ok (.iadd, 1) := by decide +kernel
theorem dX9_lose_41 : decode cX9_lose 41 = .ok (.putfield 180, 3) := by decide +kernel
theorem dX9_lose_44 : decode cX9_lose 44 = .ok (.aload_n 3, 1) := by decide +kernel
theorem dX9_lose_45 : decode cX9_lose 45 = .ok (.invokevirtual 176, 3) := by decide +kernel
theorem dX9_lose_48 : decode cX9_lose 48 = .ok (.ireturn, 1) := by decide +kernel
set_option maxRecDepth 20000 in
theorem ggX9_day_X0_takeFromLakes : GoodIn wsX9_day wsX0_takeFromLakes := goodIn_r _ [11, 12, 13, 14, 15, 16, 17, 18, 19, 20, 21, 22, 23, 10, 24, 25, 26, 27, 28, 137, 138, 139, 140, 141, 142, 143, 144, 145] (by decide +kernel) (by decide +kernel)
set_option maxRecDepth 20000 in
theorem gX9_day_X0_takeFromLakes : GoodIn wsX9_day (wsV RX9 183 RX0 yX0_takeFromLakes wsX0_takeFromLakes) := goodIn_app (goodIn_of _ (by decide +kernel)) ggX9_day_X0_takeFromLakes
set_option maxRecDepth 20000 in
theorem ggX9_day_X3_beginDay : GoodIn wsX9_day wsX3_beginDay := goodIn_r _ [33, 34, 35, 36, 37, 32, 38, 39, 26, 27, 28, 40, 41, 42, 43, 44, 45, 46, 47, 48, 49, 50, 51, 52, 146, 147, 148, 149, 150, 151, 152, 153, 154, 155, 156, 157, 158, 159, 160] (by decide +kernel) (by decide +kernel)
set_option maxRecDepth 20000 in
theorem gX9_day_X3_beginDay : GoodIn wsX9_day (wsV RX9 186 RX3 yX3_beginDay wsX3_beginDay) := goodIn_app (goodIn_of _ (by decide +kernel)) ggX9_day_X3_beginDay
set_option maxRecDepth 20000 in
theorem ggX9_day_X1_inForce : GoodIn wsX9_day wsX1_inForce := goodIn_r _ [57, 58, 59, 60, 61, 161, 162, 163, 130, 131, 132, 133, 134, 135, 136] (by decide +kernel) (by decide +kernel)
set_option maxRecDepth 20000 in
theorem gX9_day_X1_inForce : GoodIn wsX9_day (wsV RX9 157 RX1 yX1_inForce wsX1_inForce) := goodIn_app (goodIn_of _ (by decide +kernel)) ggX9_day_X1_inForce
set_option maxRecDepth 20000 in
theorem ggX9_day_X3_lineUp : GoodIn wsX9_day wsX3_lineUp := goodIn_r _ [65, 34, 66, 67, 68, 69, 32, 70, 71, 72, 35, 36, 37, 38, 39, 26, 27, 28, 146, 147, 148, 149, 150, 151, 152, 153, 154, 155, 156, 157, 158, 159, 160] (by decide +kernel) (by decide +kernel)
set_option maxRecDepth 20000 in
theorem gX9_day_X3_lineUp : GoodIn wsX9_day (wsV RX9 192 RX3 yX3_lineUp wsX3_lineUp) := goodIn_app (goodIn_of _ (by decide +kernel)) ggX9_day_X3_lineUp
set_option maxRecDepth 20000 in
theorem ggX9_day_X9_workLock : GoodIn wsX9_day wsX9_workLock := goodIn_r _ [76, 2, 3, 77, 78, 79, 1, 80, 81, 82, 10, 83, 84, 85, 86, 87, 88, 25, 26, 27, 28, 89, 90, 91, 32, 92, 66, 35, 36, 37, 38, 34, 39, 93, 94, 95, 96, 97, 98, 99, 100, 101, 102, 103, 104, 105, 106, 107, 20, 21, 22, 23, 24, 108, 109, 110, 111, 16, 17, 18, 19, 112, 113, 114, 43, 115, 46, 47, 52, 116, 117, 118, 119, 45, 120, 121, 122, 123, 124, 125, 126, 127, 128, 129, 146, 147, 148, 149, 150, 151, 152, 153, 154, 155, 156, 157, 158, 159, 160, 137, 138, 139, 140, 141, 142, 143, 144, 145] (by decide +kernel) (by decide +kernel)
set_option maxRecDepth 20000 in
theorem gX9_day_X9_workLock : GoodIn wsX9_day (wsV RX9 195 RX9 yX9_workLock wsX9_workLock) := goodIn_app (goodIn_of _ (by decide +kernel)) ggX9_day_X9_workLock
theorem dX9_day_0 : decode cX9_day 0 = .ok (.aload_n 0, 1) := by decide +kernel
theorem dX9_day_1 : decode cX9_day 1 = .ok (.getfield 71, 3) := by decide +kernel
theorem dX9_day_4 : decode cX9_day 4 = .ok (.sipush 400, 3) := by decide +kernel
theorem dX9_day_7 : decode cX9_day 7 = .ok (.if_icmp .lt 5, 3) := by decide +kernel
theorem dX9_day_10 : decode cX9_day 10 = .ok (.iconst (-1), 1) := by decide +kernel
theorem dX9_day_11 : decode cX9_day 11 = .ok (.ireturn, 1) := by decide +kernel
theorem dX9_day_12 : decode cX9_day 12 = .ok (.aload_n 0, 1) := by decide +kernel
theorem dX9_day_13 : decode cX9_day 13 = .ok (.getfield 23, 3) := by decide +kernel
theorem dX9_day_16 : decode cX9_day 16 = .ok (.invokevirtual 183, 3) := by decide +kernel
theorem dX9_day_19 : decode cX9_day 19 = .ok (.aload_n 0, 1) := by decide +kernel
theorem dX9_day_20 : decode cX9_day 20 = .ok (.getfield 30, 3) := by decide +kernel
theorem dX9_day_23 : decode cX9_day 23 = .ok (.invokevirtual 186, 3) := by decide +kernel
theorem dX9_day_26 : decode cX9_day 26 = .ok (.aload_n 0, 1) := by decide +kernel
theorem dX9_day_27 : decode cX9_day 27 = .ok (.getfield 30, 3) := by decide +kernel
theorem dX9_day_30 : decode cX9_day 30 = .ok (.aload_n 0, 1) := by decide +kernel
theorem dX9_day_31 : decode cX9_day 31 = .ok (.getfield 53, 3) := by decide +kernel
theorem dX9_day_34 : decode cX9_day 34 = .ok (.aload_n 0, 1) := by decide +kernel
theorem dX9_day_35 : decode cX9_day 35 = .ok (.getfield 71, 3) := by decide +kernel
theorem dX9_day_38 : decode cX9_day 38 = .ok (.invokevirtual 157, 3) := by decide +kernel
theorem dX9_day_41 : decode cX9_day 41 = .ok (.getfield 189, 3) := by decide +kernel
theorem dX9_day_44 : decode cX9_day 44 = .ok (.invokevirtual 192, 3) := by decide +kernel
theorem dX9_day_47 : decode cX9_day 47 = .ok (.aload_n 0, 1) := by decide +kernel
theorem dX9_day_48 : decode cX9_day 48 = .ok (.getfield 23, 3) := by decide +kernel
theorem dX9_day_51 : decode cX9_day 51 = .ok (.getfield 123, 3) := by decide +kernel
theorem dX9_day_54 : decode cX9_day 54 = .ok (.iconst 2, 1) := by decide +kernel
theorem dX9_day_55 : decode cX9_day 55 = .ok (.isub, 1) := by decide +kernel
theorem dX9_day_56 : decode cX9_day 56 = .ok (.istore_n 1, 1) := by decide +kernel
theorem dX9_day_57 : decode cX9_day 57 = .ok (.iload_n 1, 1) := by decide +kernel
theorem dX9_day_58 : decode cX9_day 58 = .ok (.ifCond .lt 14, 3) := by decide +kernel
theorem dX9_day_61 : decode cX9_day 61 = .ok (.aload_n 0, 1) := by decide +kernel
theorem dX9_day_62 : decode cX9_day 62 = .ok (.iload_n 1, 1) := by decide +kernel
theorem dX9_day_63 : decode cX9_day 63 = .ok (.invokevirtual 195, 3) := by decide +kernel
theorem dX9_day_66 : decode cX9_day 66 = .ok (.iinc 1 (-1), 3) := by decide +kernel
theorem dX9_day_69 : decode cX9_day 69 = .ok (.goto (-12), 3) := by decide +kernel
theorem dX9_day_72 : decode cX9_day 72 = .ok (.aload_n 0, 1) := by decide +kernel
theorem dX9_day_73 : decode cX9_day 73 = .ok (.dup, 1) := by decide +kernel
theorem dX9_day_74 : decode cX9_day 74 = .ok (.getfield 71, 3) := by decide +kernel
theorem dX9_day_77 : decode cX9_day 77 = .ok (.iconst 1, 1) := by decide +kernel
theorem dX9_day_78 : decode cX9_day 78 = .ok (.iadd, 1) := by decide +kernel
theorem dX9_day_79 : decode cX9_day 79 = .ok (.putfield 71, 3) := by decide +kernel
theorem dX9_day_82 : decode cX9_day 82 = .ok (.aload_n 0, 1) := by decide +kernel
theorem dX9_day_83 : decode cX9_day 83 = .ok (.getfield 71, 3) := by decide +kernel
theorem dX9_day_86 : decode cX9_day 86 = .ok (.ireturn, 1) := by decide +kernel
set_option maxRecDepth 20000 in
theorem ggX9_told_X3_find : GoodIn wsX9_told wsX3_find := goodIn_r _ [6, 7, 8, 9, 10, 11, 42, 43, 44] (by decide +kernel) (by decide +kernel)
set_option maxRecDepth 20000 in
theorem gX9_told_X3_find : GoodIn wsX9_told (wsV RX9 165 RX3 yX3_find wsX3_find) := goodIn_app (goodIn_of _ (by decide +kernel)) ggX9_told_X3_find
set_option maxRecDepth 20000 in
theorem ggX9_told_X6_tell : GoodIn wsX9_told wsX6_tell := goodIn_r _ [16, 17, 18, 19, 20, 21, 22, 23, 24, 15, 25, 26, 27, 9, 10, 11, 28, 29, 30, 31, 32, 45, 46, 47, 48, 49, 50, 51, 52, 53, 54, 55, 56] (by decide +kernel) (by decide +kernel)
set_option maxRecDepth 20000 in
theorem gX9_told_X6_tell : GoodIn wsX9_told (wsV RX9 198 RX6 yX6_tell wsX6_tell) := goodIn_app (goodIn_of _ (by decide +kernel)) ggX9_told_X6_tell
theorem dX9_told_0 : decode cX9_told 0 = .ok (.aload_n 0, 1) := by decide +kernel
theorem dX9_told_1 : decode cX9_told 1 = .ok (.getfield 30, 3) := by decide +kernel
theorem dX9_told_4 : decode cX9_told 4 = .ok (.iload_n 1, 1) := by decide +kernel
theorem dX9_told_5 : decode cX9_told 5 = .ok (.invokevirtual 165, 3) := by decide +kernel
theorem dX9_told_8 : decode cX9_told 8 = .ok (.astore_n 3, 1) := by decide +kernel
theorem dX9_told_9 : decode cX9_told 9 = .ok (.aload_n 3, 1) := by decide +kernel
theorem dX9_told_10 : decode cX9_told 10 = .ok (.ifnonnull 7, 3) := by decide +kernel
theorem dX9_told_13 : decode cX9_told 13 = .ok (.iconst (-1), 1) := by decide +kernel
theorem dX9_told_14 : decode cX9_told 14 = .ok (.goto 8, 3) := by decide +kernel
theorem dX9_told_17 : decode cX9_told 17 = .ok (.aload_n 3, 1) := by decide +kernel
theorem dX9_told_18 : decode cX9_told 18 = .ok (.iload_n 2, 1) := by decide +kernel
theorem dX9_told_19 : decode cX9_told 19 = .ok (.invokevirtual 198, 3) := by decide +kernel
theorem dX9_told_22 : decode cX9_told 22 = .ok (.ireturn, 1) := by decide +kernel
set_option maxRecDepth 20000 in
theorem ggX9_judge_X3_find : GoodIn wsX9_judge wsX3_find := goodIn_r _ [8, 9, 10, 11, 12, 13, 84, 85, 86] (by decide +kernel) (by decide +kernel)
set_option maxRecDepth 20000 in
theorem gX9_judge_X3_find : GoodIn wsX9_judge (wsV RX9 165 RX3 yX3_find wsX3_find) := goodIn_app (goodIn_of _ (by decide +kernel)) ggX9_judge_X3_find
set_option maxRecDepth 20000 in
theorem ggX9_judge_X6_hasCome : GoodIn wsX9_judge wsX6_hasCome := goodIn_r _ [18, 19, 72, 73, 74, 75, 76, 77, 78, 79, 80, 81, 82, 83] (by decide +kernel) (by decide +kernel)
set_option maxRecDepth 20000 in
theorem gX9_judge_X6_hasCome : GoodIn wsX9_judge (wsV RX9 173 RX6 yX6_hasCome wsX6_hasCome) := goodIn_app (goodIn_of _ (by decide +kernel)) ggX9_judge_X6_hasCome
set_option maxRecDepth 20000 in
theorem ggX9_judge_X1_inForce : GoodIn wsX9_judge wsX1_inForce := goodIn_r _ [24, 25, 26, 27, 28, 87, 88, 89, 90, 91, 92, 93, 94, 95, 96] (by decide +kernel) (by decide +kernel)
set_option maxRecDepth 20000 in
theorem gX9_judge_X1_inForce : GoodIn wsX9_judge (wsV RX9 157 RX1 yX1_inForce wsX1_inForce) := goodIn_app (goodIn_of _ (by decide +kernel)) ggX9_judge_X1_inForce
set_option maxRecDepth 20000 in
theorem ggX9_judge_X6_judgedBy : GoodIn wsX9_judge wsX6_judgedBy := goodIn_r _ [32, 33, 34, 35, 36, 17, 37, 38, 39, 40, 41, 42, 43, 44, 45, 46, 47, 48, 11, 12, 13, 49, 50, 51, 52, 53, 54, 55, 56, 57, 58, 59, 60, 61, 62, 90, 91, 92, 93, 94, 95, 96, 72, 73, 74, 75, 76, 77, 78, 79, 80, 81, 82, 83] (by decide +kernel) (by decide +kernel)
set_option maxRecDepth 20000 in
theorem gX9_judge_X6_judgedBy : GoodIn wsX9_judge (wsV RX9 202 RX6 yX6_judgedBy wsX6_judgedBy) := goodIn_app (goodIn_of _ (by decide +kernel)) ggX9_judge_X6_judgedBy
theorem dX9_judge_0 : decode cX9_judge 0 = .ok (.aload_n 0, 1) := by decide +kernel
theorem dX9_judge_1 : decode cX9_judge 1 = .ok (.getfield 30, 3) := by decide +kernel
theorem dX9_judge_4 : decode cX9_judge 4 = .ok (.iload_n 1, 1) := by decide +kernel
theorem dX9_judge_5 : decode cX9_judge 5 = .ok (.invokevirtual 165, 3) := by decide +kernel
theorem dX9_judge_8 : decode cX9_judge 8 = .ok (.astore_n 3, 1) := by decide +kernel
theorem dX9_judge_9 : decode cX9_judge 9 = .ok (.aload_n 3, 1) := by decide +kernel
theorem dX9_judge_10 : decode cX9_judge 10 = .ok (.ifnull 10, 3) := by decide +kernel
theorem dX9_judge_13 : decode cX9_judge 13 = .ok (.aload_n 3, 1) := by decide +kernel
theorem dX9_judge_14 : decode cX9_judge 14 = .ok (.invokevirtual 173, 3) := by decide +kernel
theorem dX9_judge_17 : decode cX9_judge 17 = .ok (.ifCond .ne 5, 3) := by decide +kernel
theorem dX9_judge_20 : decode cX9_judge 20 = .ok (.iconst (-1), 1) := by decide +kernel
theorem dX9_judge_21 : decode cX9_judge 21 = .ok (.ireturn, 1) := by decide +kernel
theorem dX9_judge_22 : decode cX9_judge 22 = .ok (.aload_n 3, 1) := by decide +kernel
theorem dX9_judge_23 : decode cX9_judge 23 = .ok (.aload_n 0, 1) := by decide +kernel
theorem dX9_judge_24 : decode cX9_judge 24 = .ok (.getfield 53, 3) := by decide +kernel
theorem dX9_judge_27 : decode cX9_judge 27 = .ok (.aload_n 3, 1) := by decide +kernel
theorem dX9_judge_28 : decode cX9_judge 28 = .ok (.getfield 199, 3) := by decide +kernel
theorem dX9_judge_31 : decode cX9_judge 31 = .ok (.invokevirtual 157, 3) := by decide +kernel
theorem dX9_judge_34 : decode cX9_judge 34 = .ok (.iload_n 2, 1) := by decide +kernel
theorem dX9_judge_35 : decode cX9_judge 35 = .ok (.invokevirtual 202, 3) := by decide +kernel
theorem dX9_judge_38 : decode cX9_judge 38 = .ok (.ireturn, 1) := by decide +kernel
set_option maxRecDepth 20000 in
theorem ggX9_reach_X0_hasReach : GoodIn wsX9_reach wsX0_hasReach := goodIn_r _ [10, 11, 12, 13, 14, 47, 48, 49, 50, 51, 52, 53, 54, 55] (by decide +kernel) (by decide +kernel)
set_option maxRecDepth 20000 in
theorem gX9_reach_X0_hasReach : GoodIn wsX9_reach (wsV RX9 78 RX0 yX0_hasReach wsX0_hasReach) := goodIn_app (goodIn_of _ (by decide +kernel)) ggX9_reach_X0_hasReach
set_option maxRecDepth 20000 in
theorem ggX9_reach_X3_boatsIn : GoodIn wsX9_reach wsX3_boatsIn := goodIn_r _ [19, 20, 21, 22, 23, 24, 25, 18, 26, 27, 12, 13, 14, 56, 57, 58, 59, 60, 61, 62, 63, 64, 65, 66, 67, 68, 69, 70] (by decide +kernel) (by decide +kernel)
set_option maxRecDepth 20000 in
theorem gX9_reach_X3_boatsIn : GoodIn wsX9_reach (wsV RX9 206 RX3 yX3_boatsIn wsX3_boatsIn) := goodIn_app (goodIn_of _ (by decide +kernel)) ggX9_reach_X3_boatsIn
set_option maxRecDepth 20000 in
theorem ggX9_reach_X0_isIcy : GoodIn wsX9_reach wsX0_isIcy := goodIn_r _ [31, 32, 33, 47, 48, 49, 50, 51, 52, 53, 54, 55] (by decide +kernel) (by decide +kernel)
set_option maxRecDepth 20000 in
theorem gX9_reach_X0_isIcy : GoodIn wsX9_reach (wsV RX9 209 RX0 yX0_isIcy wsX0_isIcy) := goodIn_app (goodIn_of _ (by decide +kernel)) ggX9_reach_X0_isIcy
set_option maxRecDepth 20000 in
theorem ggX9_reach_X0_hasLock : GoodIn wsX9_reach wsX0_hasLock := goodIn_r _ [37, 11, 12, 13, 14, 47, 48, 49, 50, 51, 52, 53, 54, 55] (by decide +kernel) (by decide +kernel)
set_option maxRecDepth 20000 in
theorem gX9_reach_X0_hasLock : GoodIn wsX9_reach (wsV RX9 90 RX0 yX0_hasLock wsX0_hasLock) := goodIn_app (goodIn_of _ (by decide +kernel)) ggX9_reach_X0_hasLock
theorem dX9_reach_0 : decode cX9_reach 0 = .ok (.aload_n 0, 1) := by decide +kernel
theorem dX9_reach_1 : decode cX9_reach 1 = .ok (.getfield 23, 3) := by decide +kernel
theorem dX9_reach_4 : decode cX9_reach 4 = .ok (.iload_n 1, 1) := by decide +kernel
theorem dX9_reach_5 : decode cX9_reach 5 = .ok (.invokevirtual 78, 3) := by decide +kernel
theorem dX9_reach_8 : decode cX9_reach 8 = .ok (.ifCond .ne 5, 3) := by decide +kernel
theorem dX9_reach_11 : decode cX9_reach 11 = .ok (.iconst (-1), 1) := by decide +kernel
theorem dX9_reach_12 : decode cX9_reach 12 = .ok (.ireturn, 1) := by decide +kernel
theorem dX9_reach_13 : decode cX9_reach 13 = .ok (.iload_n 2, 1) := by decide +kernel
theorem dX9_reach_14 : decode cX9_reach 14 = .ok (.tableswitch 95 0 3 #[30, 40, 49, 70], 30) := by decide +kernel
theorem dX9_reach_44 : decode cX9_reach 44 = .ok (.aload_n 0, 1) := by decide +kernel
theorem dX9_reach_45 : decode cX9_reach 45 = .ok (.getfield 23, 3) := by decide +kernel
theorem dX9_reach_48 : decode cX9_reach 48 = .ok (.getfield 86, 3) := by decide +kernel
theorem dX9_reach_51 : decode cX9_reach 51 = .ok (.iload_n 1, 1) := by decide +kernel
theorem dX9_reach_52 : decode cX9_reach 52 = .ok (.iaload, 1) := by decide +kernel
theorem dX9_reach_53 : decode cX9_reach 53 = .ok (.ireturn, 1) := by decide +kernel
theorem dX9_reach_54 : decode cX9_reach 54 = .ok (.aload_n 0, 1) := by decide +kernel
theorem dX9_reach_55 : decode cX9_reach 55 = .ok (.getfield 30, 3) := by decide +kernel
theorem dX9_reach_58 : decode cX9_reach 58 = .ok (.iload_n 1, 1) := by decide +kernel
theorem dX9_reach_59 : decode cX9_reach 59 = .ok (.invokevirtual 206, 3) := by decide +kernel
theorem dX9_reach_62 : decode cX9_reach 62 = .ok (.ireturn, 1) := by decide +kernel
theorem dX9_reach_63 : decode cX9_reach 63 = .ok (.aload_n 0, 1) := by decide +kernel
theorem dX9_reach_64 : decode cX9_reach 64 = .ok (.getfield 23, 3) := by decide +kernel
theorem dX9_reach_67 : decode cX9_reach 67 = .ok (.iload_n 1, 1) := by decide +kernel
theorem dX9_reach_68 : decode cX9_reach 68 = .ok (.aload_n 0, 1) := by decide +kernel
theorem dX9_reach_69 : decode cX9_reach 69 = .ok (.getfield 71, 3) := by decide +kernel
theorem dX9_reach_72 : decode cX9_reach 72 = .ok (.invokevirtual 209, 3) := by decide +kernel
theorem dX9_reach_75 : decode cX9_reach 75 = .ok (.ifCond .eq 7, 3) := by decide +kernel
theorem dX9_reach_78 : decode cX9_reach 78 = .ok (.iconst 1, 1) := by decide +kernel
theorem dX9_reach_79 : decode cX9_reach 79 = .ok (.goto 4, 3) := by decide +kernel
theorem dX9_reach_82 : decode cX9_reach 82 = .ok (.iconst 0, 1) := by decide +kernel
theorem dX9_reach_83 : decode cX9_reach 83 = .ok (.ireturn, 1) := by decide +kernel
theorem dX9_reach_84 : decode cX9_reach 84 = .ok (.aload_n 0, 1) := by decide +kernel
theorem dX9_reach_85 : decode cX9_reach 85 = .ok (.getfield 23, 3) := by decide +kernel
theorem dX9_reach_88 : decode cX9_reach 88 = .ok (.iload_n 1, 1) := by decide +kernel
theorem dX9_reach_89 : decode cX9_reach 89 = .ok (.invokevirtual 90, 3) := by decide +kernel
theorem dX9_reach_92 : decode cX9_reach 92 = .ok (.ifCond .eq 15, 3) := by decide +kernel
theorem dX9_reach_95 : decode cX9_reach 95 = .ok (.aload_n 0, 1) := by decide +kernel
theorem dX9_reach_96 : decode cX9_reach 96 = .ok (.getfield 23, 3) := by decide +kernel
theorem dX9_reach_99 : decode cX9_reach 99 = .ok (.getfield 93, 3) := by decide +kernel
theorem dX9_reach_102 : decode cX9_reach 102 = .ok (.iload_n 1, 1) := by decide +kernel
theorem dX9_reach_103 : decode cX9_reach 103 = .ok (.iaload, 1) := by decide +kernel
theorem dX9_reach_104 : decode cX9_reach 104 = .ok (.goto 4, 3) := by decide +kernel
theorem dX9_reach_107 : decode cX9_reach 107 = .ok (.iconst (-1), 1) := by decide +kernel
theorem dX9_reach_108 : decode cX9_reach 108 = .ok (.ireturn, 1) := by decide +kernel
theorem dX9_reach_109 : decode cX9_reach 109 = .ok (.iconst (-1), 1) := by decide +kernel
theorem dX9_reach_110 : decode cX9_reach 110 = .ok (.ireturn, 1) := by decide +kernel
set_option maxRecDepth 20000 in
theorem ggX9_store_X0_hasLake : GoodIn wsX9_store wsX0_hasLake := goodIn_r _ [7, 8, 9, 10, 11, 21, 22, 23, 24, 25, 26, 27, 28, 29] (by decide +kernel) (by decide +kernel)
set_option maxRecDepth 20000 in
theorem gX9_store_X0_hasLake : GoodIn wsX9_store (wsV RX9 99 RX0 yX0_hasLake wsX0_hasLake) := goodIn_app (goodIn_of _ (by decide +kernel)) ggX9_store_X0_hasLake
theorem dX9_store_0 : decode cX9_store 0 = .ok (.aload_n 0, 1) := by decide +kernel
theorem dX9_store_1 : decode cX9_store 1 = .ok (.getfield 23, 3) := by decide +kernel
theorem dX9_store_4 : decode cX9_store 4 = .ok (.iload_n 1, 1) := by decide +kernel
theorem dX9_store_5 : decode cX9_store 5 = .ok (.invokevirtual 99, 3) := by decide +kernel
theorem dX9_store_8 : decode cX9_store 8 = .ok (.ifCond .eq 15, 3) := by decide +kernel
theorem dX9_store_11 : decode cX9_store 11 = .ok (.aload_n 0, 1) := by decide +kernel
theorem dX9_store_12 : decode cX9_store 12 = .ok (.getfield 23, 3) := by decide +kernel
theorem dX9_store_15 : decode cX9_store 15 = .ok (.getfield 213, 3) := by decide +kernel
theorem dX9_store_18 : decode cX9_store 18 = .ok (.iload_n 1, 1) := by decide +kernel
theorem dX9_store_19 : decode cX9_store 19 = .ok (.iaload, 1) := by decide +kernel
theorem dX9_store_20 : decode cX9_store 20 = .ok (.goto 4, 3) := by decide +kernel
theorem dX9_store_23 : decode cX9_store 23 = .ok (.iconst (-1), 1) := by decide +kernel
theorem dX9_store_24 : decode cX9_store 24 = .ok (.ireturn, 1) := by decide +kernel
set_option maxRecDepth 20000 in
theorem ggX9_allot_X9_isCounty : GoodIn wsX9_allot wsX9_isCounty := goodIn_r _ [6, 7, 8, 5, 9] (by decide +kernel) (by decide +kernel)
set_option maxRecDepth 20000 in
theorem gX9_allot_X9_isCounty : GoodIn wsX9_allot (va_wsS RX9 114 yX9_isCounty wsX9_isCounty) := goodIn_app (goodIn_of _ (by decide +kernel)) ggX9_allot_X9_isCounty
set_option maxRecDepth 20000 in
theorem ggX9_allot_X9_isWithin : GoodIn wsX9_allot wsX9_isWithin := goodIn_r _ [9] (by decide +kernel) (by decide +kernel)
set_option maxRecDepth 20000 in
theorem gX9_allot_X9_isWithin : GoodIn wsX9_allot (va_wsS RX9 82 yX9_isWithin wsX9_isWithin) := goodIn_app (goodIn_of _ (by decide +kernel)) ggX9_allot_X9_isWithin
theorem dX9_allot_0 : decode cX9_allot 0 = .ok (.iload_n 1, 1) := by decide +kernel
theorem dX9_allot_1 : decode cX9_allot 1 = .ok (.invokestatic 114, 3) := by decide +kernel
theorem dX9_allot_4 : decode cX9_allot 4 = .ok (.ifCond .eq 14, 3) := by decide +kernel
theorem dX9_allot_7 : decode cX9_allot 7 = .ok (.iload_n 2, 1) := by decide +kernel
theorem dX9_allot_8 : decode cX9_allot 8 = .ok (.iconst 0, 1) := by decide +kernel
theorem dX9_allot_9 : decode cX9_allot 9 = .ok (.sipush 10000, 3) := by decide +kernel
theorem dX9_allot_12 : decode cX9_allot 12 = .ok (.invokestatic 82, 3) := by decide +kernel
theorem dX9_allot_15 : decode cX9_allot 15 = .ok (.ifCond .ne 5, 3) := by decide +kernel
theorem dX9_allot_18 : decode cX9_allot 18 = .ok (.iconst 0, 1) := by decide +kernel
theorem dX9_allot_19 : decode cX9_allot 19 = .ok (.ireturn, 1) := by decide +kernel
theorem dX9_allot_20 : decode cX9_allot 20 = .ok (.aload_n 0, 1) := by decide +kernel
theorem dX9_allot_21 : decode cX9_allot 21 = .ok (.getfield 60, 3) := by decide +kernel
theorem dX9_allot_24 : decode cX9_allot 24 = .ok (.getfield 216, 3) := by decide +kernel
theorem dX9_allot_27 : decode cX9_allot 27 = .ok (.iload_n 1, 1) := by decide +kernel
theorem dX9_allot_28 : decode cX9_allot 28 = .ok (.iload_n 2, 1) := by decide +kernel
theorem dX9_allot_29 : decode cX9_allot 29 = .ok (.iastore, 1) := by decide +kernel
theorem dX9_allot_30 : decode cX9_allot 30 = .ok (.iconst 1, 1) := by decide +kernel
theorem dX9_allot_31 : decode cX9_allot 31 = .ok (.ireturn, 1) := by decide +kernel
set_option maxRecDepth 20000 in
theorem ggX9_rate_X9_isWithin : GoodIn wsX9_rate wsX9_isWithin := goodIn_r _ [6] (by decide +kernel) (by decide +kernel)
set_option maxRecDepth 20000 in
theorem gX9_rate_X9_isWithin : GoodIn wsX9_rate (va_wsS RX9 82 yX9_isWithin wsX9_isWithin) := goodIn_app (goodIn_of _ (by decide +kernel)) ggX9_rate_X9_isWithin
theorem dX9_rate_0 : decode cX9_rate 0 = .ok (.iload_n 1, 1) := by decide +kernel
theorem dX9_rate_1 : decode cX9_rate 1 = .ok (.iconst 0, 1) := by decide +kernel
theorem dX9_rate_2 : decode cX9_rate 2 = .ok (.bipush 100, 2) := by decide +kernel
theorem dX9_rate_4 : decode cX9_rate 4 = .ok (.invokestatic 82, 3) := by decide +kernel
theorem dX9_rate_7 : decode cX9_rate 7 = .ok (.ifCond .ne 5, 3) := by decide +kernel
theorem dX9_rate_10 : decode cX9_rate 10 = .ok (.iconst 0, 1) := by decide +kernel
theorem dX9_rate_11 : decode cX9_rate 11 = .ok (.ireturn, 1) := by decide +kernel
theorem dX9_rate_12 : decode cX9_rate 12 = .ok (.aload_n 0, 1) := by decide +kernel
theorem dX9_rate_13 : decode cX9_rate 13 = .ok (.getfield 60, 3) := by decide +kernel
theorem dX9_rate_16 : decode cX9_rate 16 = .ok (.iload_n 1, 1) := by decide +kernel
theorem dX9_rate_17 : decode cX9_rate 17 = .ok (.putfield 219, 3) := by decide +kernel
theorem dX9_rate_20 : decode cX9_rate 20 = .ok (.iconst 1, 1) := by decide +kernel
theorem dX9_rate_21 : decode cX9_rate 21 = .ok (.ireturn, 1) := by decide +kernel
set_option maxRecDepth 20000 in
theorem ggX9_commute_X9_isCounty : GoodIn wsX9_commute wsX9_isCounty := goodIn_r _ [5, 6, 7, 4, 8] (by decide +kernel) (by decide +kernel)
set_option maxRecDepth 20000 in
theorem gX9_commute_X9_isCounty : GoodIn wsX9_commute (va_wsS RX9 114 yX9_isCounty wsX9_isCounty) := goodIn_app (goodIn_of _ (by decide +kernel)) ggX9_commute_X9_isCounty
set_option maxRecDepth 20000 in
theorem ggX9_commute_X2_leftToCommute : GoodIn wsX9_commute wsX2_leftToCommute := goodIn_r _ [13, 14, 15, 3, 4, 5, 6, 7, 8, 31, 32, 33, 34] (by decide +kernel) (by decide +kernel)
set_option maxRecDepth 20000 in
theorem gX9_commute_X2_leftToCommute : GoodIn wsX9_commute (wsV RX9 222 RX2 yX2_leftToCommute wsX2_leftToCommute) := goodIn_app (goodIn_of _ (by decide +kernel)) ggX9_commute_X2_leftToCommute
set_option maxRecDepth 20000 in
theorem ggX9_commute_X9_isWithin : GoodIn wsX9_commute wsX9_isWithin := goodIn_r _ [8] (by decide +kernel) (by decide +kernel)
set_option maxRecDepth 20000 in
theorem gX9_commute_X9_isWithin : GoodIn wsX9_commute (va_wsS RX9 82 yX9_isWithin wsX9_isWithin) := goodIn_app (goodIn_of _ (by decide +kernel)) ggX9_commute_X9_isWithin
set_option maxRecDepth 20000 in
theorem ggX9_commute_X2_payFor : GoodIn wsX9_commute wsX2_payFor := goodIn_r _ [19, 20, 15, 21, 3, 4, 5, 6, 7, 8, 31, 32, 33, 34] (by decide +kernel) (by decide +kernel)
set_option maxRecDepth 20000 in
theorem gX9_commute_X2_payFor : GoodIn wsX9_commute (wsV RX9 225 RX2 yX2_payFor wsX2_payFor) := goodIn_app (goodIn_of _ (by decide +kernel)) ggX9_commute_X2_payFor
theorem dX9_commute_0 : decode cX9_commute 0 = .ok (.iload_n 1, 1) := by decide +kernel
theorem dX9_commute_1 : decode cX9_commute 1 = .ok (.invokestatic 114, 3) := by decide +kernel
theorem dX9_commute_4 : decode cX9_commute 4 = .ok (.ifCond .eq 19, 3) := by decide +kernel
theorem dX9_commute_7 : decode cX9_commute 7 = .ok (.iload_n 2, 1) := by decide +kernel
theorem dX9_commute_8 : decode cX9_commute 8 = .ok (.iconst 1, 1) := by decide +kernel
theorem dX9_commute_9 : decode cX9_commute 9 = .ok (.aload_n 0, 1) := by decide +kernel
theorem dX9_commute_10 : decode cX9_commute 10 = .ok (.getfield 60, 3) := by decide +kernel
theorem dX9_commute_13 : decode cX9_commute 13 = .ok (.iload_n 1, 1) := by decide +kernel
theorem dX9_commute_14 : decode cX9_commute 14 = .ok (.invokevirtual 222, 3) := by decide +kernel
theorem dX9_commute_17 : decode cX9_commute 17 = .ok (.invokestatic 82, 3) := by decide +kernel
theorem dX9_commute_20 : decode cX9_commute 20 = .ok (.ifCond .ne 5, 3) := by decide +kernel
theorem dX9_commute_23 : decode cX9_commute 23 = .ok (.iconst (-1), 1) := by decide +kernel
theorem dX9_commute_24 : decode cX9_commute 24 = .ok (.ireturn, 1) := by decide +kernel
theorem dX9_commute_25 : decode cX9_commute 25 = .ok (.aload_n 0, 1) := by decide +kernel
theorem dX9_commute_26 : decode cX9_commute 26 = .ok (.getfield 60, 3) := by decide +kernel
theorem dX9_commute_29 : decode cX9_commute 29 = .ok (.iload_n 1, 1) := by decide +kernel
theorem dX9_commute_30 : decode cX9_commute 30 = .ok (.iload_n 2, 1) := by decide +kernel
theorem dX9_commute_31 : decode cX9_commute 31 = .ok (.invokevirtual 225, 3) := by decide +kernel
theorem dX9_commute_34 : decode cX9_commute 34 = .ok (.ireturn, 1) := by decide +kernel
set_option maxRecDepth 20000 in
theorem ggX9_county_X9_isCounty : GoodIn wsX9_county wsX9_isCounty := goodIn_r _ [10, 11, 12, 9, 13] (by decide +kernel) (by decide +kernel)
set_option maxRecDepth 20000 in
theorem gX9_county_X9_isCounty : GoodIn wsX9_county (va_wsS RX9 114 yX9_isCounty wsX9_isCounty) := goodIn_app (goodIn_of _ (by decide +kernel)) ggX9_county_X9_isCounty
set_option maxRecDepth 20000 in
theorem ggX9_county_X3_bagsComeOf : GoodIn wsX9_county wsX3_bagsComeOf := goodIn_r _ [18, 19, 20, 21, 22, 23, 17, 24, 25, 26, 9, 27, 28, 29, 30, 31, 32, 33, 34, 35, 36, 37, 38, 39, 60, 61, 62, 63, 64, 65, 66, 67, 68, 69, 70, 71, 72, 73, 74] (by decide +kernel) (by decide +kernel)
set_option maxRecDepth 20000 in
theorem gX9_county_X3_bagsComeOf : GoodIn wsX9_county (wsV RX9 235 RX3 yX3_bagsComeOf wsX3_bagsComeOf) := goodIn_app (goodIn_of _ (by decide +kernel)) ggX9_county_X3_bagsComeOf
set_option maxRecDepth 20000 in
theorem ggX9_county_X2_leftToCommute : GoodIn wsX9_county wsX2_leftToCommute := goodIn_r _ [44, 45, 46, 8, 9, 10, 11, 12, 13, 56, 57, 58, 59] (by decide +kernel) (by decide +kernel)
set_option maxRecDepth 20000 in
theorem gX9_county_X2_leftToCommute : GoodIn wsX9_county (wsV RX9 222 RX2 yX2_leftToCommute wsX2_leftToCommute) := goodIn_app (goodIn_of _ (by decide +kernel)) ggX9_county_X2_leftToCommute
theorem dX9_county_0 : decode cX9_county 0 = .ok (.iload_n 1, 1) := by decide +kernel
theorem dX9_county_1 : decode cX9_county 1 = .ok (.invokestatic 114, 3) := by decide +kernel
theorem dX9_county_4 : decode cX9_county 4 = .ok (.ifCond .ne 6, 3) := by decide +kernel
theorem dX9_county_7 : decode cX9_county 7 = .ok (.ldc 228, 2) := by decide +kernel
theorem dX9_county_9 : decode cX9_county 9 = .ok (.ireturn, 1) := by decide +kernel
theorem dX9_county_10 : decode cX9_county 10 = .ok (.iload_n 2, 1) := by decide +kernel
theorem dX9_county_11 : decode cX9_county 11 = .ok (.tableswitch 90 0 4 #[33, 43, 53, 63, 72], 33) := by decide +kernel
theorem dX9_county_44 : decode cX9_county 44 = .ok (.aload_n 0, 1) := by decide +kernel
theorem dX9_county_45 : decode cX9_county 45 = .ok (.getfield 60, 3) := by decide +kernel
theorem dX9_county_48 : decode cX9_county 48 = .ok (.getfield 216, 3) := by decide +kernel
theorem dX9_county_51 : decode cX9_county 51 = .ok (.iload_n 1, 1) := by decide +kernel
theorem dX9_county_52 : decode cX9_county 52 = .ok (.iaload, 1) := by decide +kernel
theorem dX9_county_53 : decode cX9_county 53 = .ok (.ireturn, 1) := by decide +kernel
theorem dX9_county_54 : decode cX9_county 54 = .ok (.aload_n 0, 1) := by decide +kernel
theorem dX9_county_55 : decode cX9_county 55 = .ok (.getfield 60, 3) := by decide +kernel
theorem dX9_county_58 : decode cX9_county 58 = .ok (.getfield 229, 3) := by decide +kernel
theorem dX9_county_61 : decode cX9_county 61 = .ok (.iload_n 1, 1) := by decide +kernel
theorem dX9_county_62 : decode cX9_county 62 = .ok (.iaload, 1) := by decide +kernel
theorem dX9_county_63 : decode cX9_county 63 = .ok (.ireturn, 1) := by decide +kernel
theorem dX9_county_64 : decode cX9_county 64 = .ok (.aload_n 0, 1) := by decide +kernel
theorem dX9_county_65 : decode cX9_county 65 = .ok (.getfield 60, 3) := by decide +kernel
theorem dX9_county_68 : decode cX9_county 68 = .ok (.getfield 232, 3) := by decide +kernel
theorem dX9_county_71 : decode cX9_county 71 = .ok (.iload_n 1, 1) := by decide +kernel
theorem dX9_county_72 : decode cX9_county 72 = .ok (.iaload, 1) := by decide +kernel
theorem dX9_county_73 : decode cX9_county 73 = .ok (.ireturn, 1) := by decide +kernel
theorem dX9_county_74 : decode cX9_county 74 = .ok (.aload_n 0, 1) := by decide +kernel
theorem dX9_county_75 : decode cX9_county 75 = .ok (.getfield 30, 3) := by decide +kernel
theorem dX9_county_78 : decode cX9_county 78 = .ok (.iload_n 1, 1) := by decide +kernel
theorem dX9_county_79 : decode cX9_county 79 = .ok (.invokevirtual 235, 3) := by decide +kernel
theorem dX9_county_82 : decode cX9_county 82 = .ok (.ireturn, 1) := by decide +kernel
theorem dX9_county_83 : decode cX9_county 83 = .ok (.aload_n 0, 1) := by decide +kernel
theorem dX9_county_84 : decode cX9_county 84 = .ok (.getfield 60, 3) := by decide +kernel
theorem dX9_county_87 : decode cX9_county 87 = .ok (.iload_n 1, 1) := by decide +kernel
theorem dX9_county_88 : decode cX9_county 88 = .ok (.invokevirtual 222, 3) := by decide +kernel
theorem dX9_county_91 : decode cX9_county 91 = .ok (.aload_n 0, 1) := by decide +kernel
theorem dX9_county_92 : decode cX9_county 92 = .ok (.getfield 30, 3) := by decide +kernel
theorem dX9_county_95 : decode cX9_county 95 = .ok (.iload_n 1, 1) := by decide +kernel
theorem dX9_county_96 : decode cX9_county 96 = .ok (.invokevirtual 235, 3) := by decide +kernel
theorem dX9_county_99 : decode cX9_county 99 = .ok (.isub, 1) := by decide +kernel
theorem dX9_county_100 : decode cX9_county 100 = .ok (.ireturn, 1) := by decide +kernel
theorem dX9_county_101 : decode cX9_county 101 = .ok (.ldc 228, 2) := by decide +kernel
theorem dX9_county_103 : decode cX9_county 103 = .ok (.ireturn, 1) := by decide +kernel
set_option maxRecDepth 20000 in
theorem ggX9_due_X3_find : GoodIn wsX9_due wsX3_find := goodIn_r _ [7, 8, 9, 10, 11, 12, 40, 41, 42] (by decide +kernel) (by decide +kernel)
set_option maxRecDepth 20000 in
theorem gX9_due_X3_find : GoodIn wsX9_due (wsV RX9 165 RX3 yX3_find wsX3_find) := goodIn_app (goodIn_of _ (by decide +kernel)) ggX9_due_X3_find
set_option maxRecDepth 20000 in
theorem ggX9_due_X9_isDay : GoodIn wsX9_due wsX9_isDay := goodIn_r _ [15, 16, 17, 11, 18] (by decide +kernel) (by decide +kernel)
set_option maxRecDepth 20000 in
theorem gX9_due_X9_isDay : GoodIn wsX9_due (va_wsS RX9 105 yX9_isDay wsX9_isDay) := goodIn_app (goodIn_of _ (by decide +kernel)) ggX9_due_X9_isDay
theorem dX9_due_0 : decode cX9_due 0 = .ok (.aload_n 0, 1) := by decide +kernel
theorem dX9_due_1 : decode cX9_due 1 = .ok (.getfield 30, 3) := by decide +kernel
theorem dX9_due_4 : decode cX9_due 4 = .ok (.iload_n 1, 1) := by decide +kernel
theorem dX9_due_5 : decode cX9_due 5 = .ok (.invokevirtual 165, 3) := by decide +kernel
theorem dX9_due_8 : decode cX9_due 8 = .ok (.astore_n 3, 1) := by decide +kernel
theorem dX9_due_9 : decode cX9_due 9 = .ok (.aload_n 3, 1) := by decide +kernel
theorem dX9_due_10 : decode cX9_due 10 = .ok (.ifnull 10, 3) := by decide +kernel
theorem dX9_due_13 : decode cX9_due 13 = .ok (.iload_n 2, 1) := by decide +kernel
theorem dX9_due_14 : decode cX9_due 14 = .ok (.invokestatic 105, 3) := by decide +kernel
theorem dX9_due_17 : decode cX9_due 17 = .ok (.ifCond .ne 5, 3) := by decide +kernel
theorem dX9_due_20 : decode cX9_due 20 = .ok (.iconst 0, 1) := by decide +kernel
theorem dX9_due_21 : decode cX9_due 21 = .ok (.ireturn, 1) := by decide +kernel
theorem dX9_due_22 : decode cX9_due 22 = .ok (.aload_n 3, 1) := by decide +kernel
theorem dX9_due_23 : decode cX9_due 23 = .ok (.iload_n 2, 1) := by decide +kernel
theorem dX9_due_24 : decode cX9_due 24 = .ok (.putfield 238, 3) := by decide +kernel
theorem dX9_due_27 : decode cX9_due 27 = .ok (.iconst 1, 1) := by decide +kernel
theorem dX9_due_28 : decode cX9_due 28 = .ok (.ireturn, 1) := by decide +kernel
set_option maxRecDepth 20000 in
theorem ggX9_least_X3_hasAll : GoodIn wsX9_least wsX3_hasAll := goodIn_r _ [13, 14, 91, 92, 93] (by decide +kernel) (by decide +kernel)
set_option maxRecDepth 20000 in
theorem gX9_least_X3_hasAll : GoodIn wsX9_least (wsV RX9 241 RX3 yX3_hasAll wsX3_hasAll) := goodIn_app (goodIn_of _ (by decide +kernel)) ggX9_least_X3_hasAll
set_option maxRecDepth 20000 in
theorem ggX9_least_J6_bitCount_0f7a4 : GoodIn wsX9_least wsJ6_bitCount_0f7a4 := goodIn_r _ [18, 19, 20, 21] (by decide +kernel) (by decide +kernel)
set_option maxRecDepth 20000 in
theorem gX9_least_J6_bitCount_0f7a4 : GoodIn wsX9_least (va_wsS RX9 244 yJ6_bitCount_0f7a4 wsJ6_bitCount_0f7a4) := goodIn_app (goodIn_of _ (by decide +kernel)) ggX9_least_J6_bitCount_0f7a4
set_option maxRecDepth 20000 in
theorem ggX9_least_X0_hasLock : GoodIn wsX9_least wsX0_hasLock := goodIn_r _ [26, 27, 28, 29, 30, 106, 107, 108, 109, 110, 111, 112, 113, 114] (by decide +kernel) (by decide +kernel)
set_option maxRecDepth 20000 in
theorem gX9_least_X0_hasLock : GoodIn wsX9_least (wsV RX9 90 RX0 yX0_hasLock wsX0_hasLock) := goodIn_app (goodIn_of _ (by decide +kernel)) ggX9_least_X0_hasLock
set_option maxRecDepth 20000 in
theorem ggX9_least_X5_clear : GoodIn wsX9_least wsX5_clear := goodIn_r _ [35, 36, 115, 116, 117, 118, 119, 120] (by decide +kernel) (by decide +kernel)
set_option maxRecDepth 20000 in
theorem gX9_least_X5_clear : GoodIn wsX9_least (wsV RX9 249 RX5 yX5_clear wsX5_clear) := goodIn_app (goodIn_of _ (by decide +kernel)) ggX9_least_X5_clear
set_option maxRecDepth 20000 in
theorem ggX9_least_X3_find : GoodIn wsX9_least wsX3_find := goodIn_r _ [40, 14, 41, 28, 29, 30, 91, 92, 93] (by decide +kernel) (by decide +kernel)
set_option maxRecDepth 20000 in
theorem gX9_least_X3_find : GoodIn wsX9_least (wsV RX9 165 RX3 yX3_find wsX3_find) := goodIn_app (goodIn_of _ (by decide +kernel)) ggX9_least_X3_find
set_option maxRecDepth 20000 in
theorem ggX9_least_X9_daysToPass : GoodIn wsX9_least wsX9_daysToPass := goodIn_r _ [44] (by decide +kernel) (by decide +kernel)
set_option maxRecDepth 20000 in
theorem gX9_least_X9_daysToPass : GoodIn wsX9_least (va_wsS RX9 256 yX9_daysToPass wsX9_daysToPass) := goodIn_app (goodIn_of _ (by decide +kernel)) ggX9_least_X9_daysToPass
set_option maxRecDepth 20000 in
theorem ggX9_least_X5_add : GoodIn wsX9_least wsX5_add := goodIn_r _ [48, 36, 49, 50, 51, 115, 116, 117, 118, 119, 120] (by decide +kernel) (by decide +kernel)
set_option maxRecDepth 20000 in
theorem gX9_least_X5_add : GoodIn wsX9_least (wsV RX9 259 RX5 yX5_add wsX5_add) := goodIn_app (goodIn_of _ (by decide +kernel)) ggX9_least_X5_add
set_option maxRecDepth 20000 in
theorem ggX9_least_X5_weigh : GoodIn wsX9_least wsX5_weigh := goodIn_r _ [55, 56, 36, 57, 58, 59, 60, 34, 61, 62, 63, 64, 65, 51, 66, 67, 68, 69, 28, 29, 30, 70, 71, 72, 73, 50, 115, 116, 117, 118, 119, 120] (by decide +kernel) (by decide +kernel)
set_option maxRecDepth 20000 in
theorem gX9_least_X5_weigh : GoodIn wsX9_least (wsV RX9 261 RX5 yX5_weigh wsX5_weigh) := goodIn_app (goodIn_of _ (by decide +kernel)) ggX9_least_X5_weigh
set_option maxRecDepth 20000 in
theorem ggX9_least_X5_leastSum : GoodIn wsX9_least wsX5_leastSum := goodIn_r _ [77, 57, 115, 116, 117, 118, 119, 120] (by decide +kernel) (by decide +kernel)
set_option maxRecDepth 20000 in
theorem gX9_least_X5_leastSum : GoodIn wsX9_least (wsV RX9 264 RX5 yX5_leastSum wsX5_leastSum) := goodIn_app (goodIn_of _ (by decide +kernel)) ggX9_least_X5_leastSum
set_option maxRecDepth 20000 in
theorem ggX9_least_X5_inPlace : GoodIn wsX9_least wsX5_inPlace := goodIn_r _ [81, 36, 49, 28, 29, 30, 58, 59, 60, 34, 61, 62, 63, 64, 65, 57, 51, 66, 67, 68, 69, 70, 71, 72, 73, 56, 50, 115, 116, 117, 118, 119, 120] (by decide +kernel) (by decide +kernel)
set_option maxRecDepth 20000 in
theorem gX9_least_X5_inPlace : GoodIn wsX9_least (wsV RX9 267 RX5 yX5_inPlace wsX5_inPlace) := goodIn_app (goodIn_of _ (by decide +kernel)) ggX9_least_X5_inPlace
theorem dX9_least_0 : decode cX9_least 0 = .ok (.aload_n 0, 1) := by decide +kernel
theorem dX9_least_1 : decode cX9_least 1 = .ok (.getfield 30, 3) := by decide +kernel
theorem dX9_least_4 : decode cX9_least 4 = .ok (.iload_n 1, 1) := by decide +kernel
theorem dX9_least_5 : decode cX9_least 5 = .ok (.invokevirtual 241, 3) := by decide +kernel
theorem dX9_least_8 : decode cX9_least 8 = .ok (.ifCond .eq 23, 3) := by decide +kernel
theorem dX9_least_11 : decode cX9_least 11 = .ok (.iload_n 1, 1) := by decide +kernel
theorem dX9_least_12 : decode cX9_least 12 = .ok (.invokestatic 244, 3) := by decide +kernel
theorem dX9_least_15 : decode cX9_least 15 = .ok (.bipush 6, 2) := by decide +kernel
theorem dX9_least_17 : decode cX9_least 17 = .ok (.if_icmp .gt 14, 3) := by decide +kernel
theorem dX9_least_20 : decode cX9_least 20 = .ok (.aload_n 0, 1) := by decide +kernel
theorem dX9_least_21 : decode cX9_least 21 = .ok (.getfield 23, 3) := by decide +kernel
theorem dX9_least_24 : decode cX9_least 24 = .ok (.iload_n 2, 1) := by decide +kernel
theorem dX9_least_25 : decode cX9_least 25 = .ok (.invokevirtual 90, 3) := by decide +kernel
theorem dX9_least_28 : decode cX9_least 28 = .ok (.ifCond .ne 5, 3) := by decide +kernel
theorem dX9_least_31 : decode cX9_least 31 = .ok (.iconst (-1), 1) := by decide +kernel
theorem dX9_least_32 : decode cX9_least 32 = .ok (.ireturn, 1) := by decide +kernel
theorem dX9_least_33 : decode cX9_least 33 = .ok (.aload_n 0, 1) := by decide +kernel
theorem dX9_least_34 : decode cX9_least 34 = .ok (.getfield 67, 3) := by decide +kernel
theorem dX9_least_37 : decode cX9_least 37 = .ok (.invokevirtual 249, 3) := by decide +kernel
theorem dX9_least_40 : decode cX9_least 40 = .ok (.iconst 0, 1) := by decide +kernel
theorem dX9_least_41 : decode cX9_least 41 = .ok (.istore 4, 2) := by decide +kernel
theorem dX9_least_43 : decode cX9_least 43 = .ok (.iload 4, 2) := by decide +kernel
theorem dX9_least_45 : decode cX9_least 45 = .ok (.aload_n 0, 1) := by decide +kernel
theorem dX9_least_46 : decode cX9_least 46 = .ok (.getfield 30, 3) := by decide +kernel
theorem dX9_least_49 : decode cX9_least 49 = .ok (.getfield 252, 3) := by decide +kernel
theorem dX9_least_52 : decode cX9_least 52 = .ok (.if_icmp .ge 66, 3) := by decide +kernel
theorem dX9_least_55 : decode cX9_least 55 = .ok (.aload_n 0, 1) := by decide +kernel
theorem dX9_least_56 : decode cX9_least 56 = .ok (.getfield 30, 3) := by decide +kernel
theorem dX9_least_59 : decode cX9_least 59 = .ok (.iload 4, 2) := by decide +kernel
theorem dX9_least_61 : decode cX9_least 61 = .ok (.invokevirtual 165, 3) := by decide +kernel
theorem dX9_least_64 : decode cX9_least 64 = .ok (.astore 5, 2) := by decide +kernel
theorem dX9_least_66 : decode cX9_least 66 = .ok (.aload 5, 2) := by decide +kernel
theorem dX9_least_68 : decode cX9_least 68 = .ok (.ifnull 44, 3) := by decide +kernel
theorem dX9_least_71 : decode cX9_least 71 = .ok (.iload_n 1, 1) := by decide +kernel
theorem dX9_least_72 : decode cX9_least 72 = .ok (.iload 4, 2) := by decide +kernel
theorem dX9_least_74 : decode cX9_least 74 = .ok (.ishr, 1) := by decide +kernel
theorem dX9_least_75 : decode cX9_least 75 = .ok (.iconst 1, 1) := by decide +kernel
theorem dX9_least_76 : decode cX9_least 76 = .ok (.iand, 1) := by decide +kernel
theorem dX9_least_77 : decode cX9_least 77 = .ok (.iconst 1, 1) := by decide +kernel
theorem dX9_least_78 : decode cX9_least 78 = .ok (.if_icmp .ne 34, 3) := by decide +kernel
theorem dX9_least_81 : decode cX9_least 81 = .ok (.aload_n 0, 1) := by decide +kernel
theorem dX9_least_82 : decode cX9_least 82 = .ok (.getfield 67, 3) := by decide +kernel
theorem dX9_least_85 : decode cX9_least 85 = .ok (.iload 4, 2) := by decide +kernel
theorem dX9_least_87 : decode cX9_least 87 = .ok (.aload 5, 2) := by decide +kernel
theorem dX9_least_89 : decode cX9_least 89 = .ok (.getfield 253, 3) := by decide +kernel
theorem dX9_least_92 : decode cX9_least 92 = .ok (.aload_n 0, 1) := by decide +kernel
theorem dX9_least_93 : decode cX9_least 93 = .ok (.getfield 23, 3) := by decide +kernel
theorem dX9_least_96 : decode cX9_least 96 = .ok (.getfield 93, 3) := by decide +kernel
theorem dX9_least_99 : decode cX9_least 99 = .ok (.iload_n 2, 1) := by decide +kernel
theorem dX9_least_100 : decode cX9_least 100 = .ok (.iaload, 1) := by decide +kernel
theorem dX9_least_101 : decode cX9_least 101 = .ok (.invokestatic 256, 3) := by decide +kernel
theorem dX9_least_104 : decode cX9_least 104 = .ok (.aload 5, 2) := by decide +kernel
theorem dX9_least_106 : decode cX9_least 106 = .ok (.getfield 238, 3) := by decide +kernel
theorem dX9_least_109 : decode cX9_least 109 = .ok (.invokevirtual 259, 3) := by decide +kernel
theorem dX9_least_112 : decode cX9_least 112 = .ok (.iinc 4 1, 3) := by decide +kernel
theorem dX9_least_115 : decode cX9_least 115 = .ok (.goto (-72), 3) := by decide +kernel
theorem dX9_least_118 : decode cX9_least 118 = .ok (.aload_n 0, 1) := by decide +kernel
theorem dX9_least_119 : decode cX9_least 119 = .ok (.getfield 67, 3) := by decide +kernel
theorem dX9_least_122 : decode cX9_least 122 = .ok (.aload_n 0, 1) := by decide +kernel
theorem dX9_least_123 : decode cX9_least 123 = .ok (.getfield 71, 3) := by decide +kernel
theorem dX9_least_126 : decode cX9_least 126 = .ok (.invokevirtual 261, 3) := by decide +kernel
theorem dX9_least_129 : decode cX9_least 129 = .ok (.iload_n 3, 1) := by decide +kernel
theorem dX9_least_130 : decode cX9_least 130 = .ok (.iconst (-1), 1) := by decide +kernel
theorem dX9_least_131 : decode cX9_least 131 = .ok (.if_icmp .ne 13, 3) := by decide +kernel
theorem dX9_least_134 : decode cX9_least 134 = .ok (.aload_n 0, 1) := by decide +kernel
theorem dX9_least_135 : decode cX9_least 135 = .ok (.getfield 67, 3) := by decide +kernel
theorem dX9_least_138 : decode cX9_least 138 = .ok (.invokevirtual 264, 3) := by decide +kernel
theorem dX9_least_141 : decode cX9_least 141 = .ok (.goto 11, 3) := by decide +kernel
theorem dX9_least_144 : decode cX9_least 144 = .ok (.aload_n 0, 1) := by decide +kernel
theorem dX9_least_145 : decode cX9_least 145 = .ok (.getfield 67, 3) := by decide +kernel
theorem dX9_least_148 : decode cX9_least 148 = .ok (.iload_n 3, 1) := by decide +kernel
theorem dX9_least_149 : decode cX9_least 149 = .ok (.invokevirtual 267, 3) := by decide +kernel
theorem dX9_least_152 : decode cX9_least 152 = .ok (.ireturn, 1) := by decide +kernel
set_option maxRecDepth 20000 in
theorem ggX9_count_X3_come : GoodIn wsX9_count wsX3_come := goodIn_r _ [15, 16, 17, 18, 19, 14, 20, 21, 22, 23, 24, 25, 26, 27, 28, 29, 30, 40, 41, 42, 57, 58, 59, 60, 61, 62, 63, 64, 65, 66, 67, 68] (by decide +kernel) (by decide +kernel)
set_option maxRecDepth 20000 in
theorem gX9_count_X3_come : GoodIn wsX9_count (wsV RX9 273 RX3 yX3_come wsX3_come) := goodIn_app (goodIn_of _ (by decide +kernel)) ggX9_count_X3_come
theorem dX9_count_0 : decode cX9_count 0 = .ok (.iload_n 1, 1) := by decide +kernel
theorem dX9_count_1 : decode cX9_count 1 = .ok (.tableswitch 96 0 6 #[43, 48, 56, 64, 72, 80, 88], 43) := by decide +kernel
theorem dX9_count_44 : decode cX9_count 44 = .ok (.aload_n 0, 1) := by decide +kernel
theorem dX9_count_45 : decode cX9_count 45 = .ok (.getfield 71, 3) := by decide +kernel
theorem dX9_count_48 : decode cX9_count 48 = .ok (.ireturn, 1) := by decide +kernel
theorem dX9_count_49 : decode cX9_count 49 = .ok (.aload_n 0, 1) := by decide +kernel
theorem dX9_count_50 : decode cX9_count 50 = .ok (.getfield 30, 3) := by decide +kernel
theorem dX9_count_53 : decode cX9_count 53 = .ok (.getfield 252, 3) := by decide +kernel
theorem dX9_count_56 : decode cX9_count 56 = .ok (.ireturn, 1) := by decide +kernel
theorem dX9_count_57 : decode cX9_count 57 = .ok (.aload_n 0, 1) := by decide +kernel
theorem dX9_count_58 : decode cX9_count 58 = .ok (.getfield 23, 3) := by decide +kernel
theorem dX9_count_61 : decode cX9_count 61 = .ok (.getfield 270, 3) := by decide +kernel
theorem dX9_count_64 : decode cX9_count 64 = .ok (.ireturn, 1) := by decide +kernel
theorem dX9_count_65 : decode cX9_count 65 = .ok (.aload_n 0, 1) := by decide +kernel
theorem dX9_count_66 : decode cX9_count 66 = .ok (.getfield 53, 3) := by decide +kernel
theorem dX9_count_69 : decode cX9_count 69 = .ok (.getfield 145, 3) := by decide +kernel
theorem dX9_count_72 : decode cX9_count 72 = .ok (.ireturn, 1) := by decide +kernel
theorem dX9_count_73 : decode cX9_count 73 = .ok (.aload_n 0, 1) := by decide +kernel
theorem dX9_count_74 : decode cX9_count 74 = .ok (.getfield 37, 3) := by decide +kernel
theorem dX9_count_77 : decode cX9_count 77 = .ok (.getfield 139, 3) := by decide +kernel
theorem dX9_count_80 : decode cX9_count 80 = .ok (.ireturn, 1) := by decide +kernel
theorem dX9_count_81 : decode cX9_count 81 = .ok (.aload_n 0, 1) := by decide +kernel
theorem dX9_count_82 : decode cX9_count 82 = .ok (.getfield 30, 3) := by decide +kernel
theorem dX9_count_85 : decode cX9_count 85 = .ok (.invokevirtual 273, 3) := by decide +kernel
theorem dX9_count_88 : decode cX9_count 88 = .ok (.ireturn, 1) := by decide +kernel
theorem dX9_count_89 : decode cX9_count 89 = .ok (.aload_n 0, 1) := by decide +kernel
theorem dX9_count_90 : decode cX9_count 90 = .ok (.getfield 23, 3) := by decide +kernel
theorem dX9_count_93 : decode cX9_count 93 = .ok (.getfield 123, 3) := by decide +kernel
theorem dX9_count_96 : decode cX9_count 96 = .ok (.ireturn, 1) := by decide +kernel
theorem dX9_count_97 : decode cX9_count 97 = .ok (.iconst (-1), 1) := by decide +kernel
theorem dX9_count_98 : decode cX9_count 98 = .ok (.ireturn, 1) := by decide +kernel
set_option maxRecDepth 20000 in
theorem ggX9_workLock_X0_boatsOf : GoodIn wsX9_workLock wsX0_boatsOf := goodIn_r _ [11, 12, 13, 14, 15, 10, 16, 17, 18, 19, 20, 99, 100, 101, 102, 103, 104, 105, 106, 107] (by decide +kernel) (by decide +kernel)
set_option maxRecDepth 20000 in
theorem gX9_workLock_X0_boatsOf : GoodIn wsX9_workLock (wsV RX9 276 RX0 yX0_boatsOf wsX0_boatsOf) := goodIn_app (goodIn_of _ (by decide +kernel)) ggX9_workLock_X0_boatsOf
set_option maxRecDepth 20000 in
theorem ggX9_workLock_X3_inLine : GoodIn wsX9_workLock wsX3_inLine := goodIn_r _ [25, 26, 18, 19, 20, 27, 28, 29, 24, 30, 31, 32, 84, 85, 86] (by decide +kernel) (by decide +kernel)
set_option maxRecDepth 20000 in
theorem gX9_workLock_X3_inLine : GoodIn wsX9_workLock (wsV RX9 279 RX3 yX3_inLine wsX3_inLine) := goodIn_app (goodIn_of _ (by decide +kernel)) ggX9_workLock_X3_inLine
set_option maxRecDepth 20000 in
theorem ggX9_workLock_X9_whatBars : GoodIn wsX9_workLock wsX9_whatBars := goodIn_r _ [36, 1, 4, 6, 5, 37, 38, 39, 40, 10, 41, 42, 43, 44, 45, 46, 47, 48, 49, 50, 51, 52, 17, 18, 19, 20, 75, 76, 77, 78, 79, 80, 81, 82, 83, 87, 88, 89, 90, 91, 92, 93, 94, 95, 96, 97, 98, 99, 100, 101, 102, 103, 104, 105, 106, 107] (by decide +kernel) (by decide +kernel)
set_option maxRecDepth 20000 in
theorem gX9_workLock_X9_whatBars : GoodIn wsX9_workLock (wsV RX9 285 RX9 yX9_whatBars wsX9_whatBars) := goodIn_app (goodIn_of _ (by decide +kernel)) ggX9_workLock_X9_whatBars
set_option maxRecDepth 20000 in
theorem ggX9_workLock_X0_letThrough : GoodIn wsX9_workLock wsX0_letThrough := goodIn_r _ [56, 48, 57, 58, 59, 60, 13, 14, 15, 10, 16, 17, 18, 19, 20, 99, 100, 101, 102, 103, 104, 105, 106, 107] (by decide +kernel) (by decide +kernel)
set_option maxRecDepth 20000 in
theorem gX9_workLock_X0_letThrough : GoodIn wsX9_workLock (wsV RX9 289 RX0 yX0_letThrough wsX0_letThrough) := goodIn_app (goodIn_of _ (by decide +kernel)) ggX9_workLock_X0_letThrough
set_option maxRecDepth 20000 in
theorem ggX9_workLock_X6_moveUp : GoodIn wsX9_workLock wsX6_moveUp := goodIn_r _ [65, 66, 67, 68, 87, 88, 89, 90, 91, 92, 93, 94, 95, 96, 97, 98] (by decide +kernel) (by decide +kernel)
set_option maxRecDepth 20000 in
theorem gX9_workLock_X6_moveUp : GoodIn wsX9_workLock (wsV RX9 293 RX6 yX6_moveUp wsX6_moveUp) := goodIn_app (goodIn_of _ (by decide +kernel)) ggX9_workLock_X6_moveUp
set_option maxRecDepth 20000 in
theorem ggX9_workLock_X6_stay : GoodIn wsX9_workLock wsX6_stay := goodIn_r _ [72, 73, 74, 18, 19, 20, 87, 88, 89, 90, 91, 92, 93, 94, 95, 96, 97, 98] (by decide +kernel) (by decide +kernel)
set_option maxRecDepth 20000 in
theorem gX9_workLock_X6_stay : GoodIn wsX9_workLock (wsV RX9 296 RX6 yX6_stay wsX6_stay) := goodIn_app (goodIn_of _ (by decide +kernel)) ggX9_workLock_X6_stay
theorem dX9_workLock_0 : decode cX9_workLock 0 = .ok (.aload_n 0, 1) := by decide +kernel
theorem dX9_workLock_1 : decode cX9_workLock 1 = .ok (.getfield 23, 3) := by decide +kernel
theorem dX9_workLock_4 : decode cX9_workLock 4 = .ok (.iload_n 1, 1) := by decide +kernel
theorem dX9_workLock_5 : decode cX9_workLock 5 = .ok (.invokevirtual 276, 3) := by decide +kernel
theorem dX9_workLock_8 : decode cX9_workLock 8 = .ok (.istore_n 2, 1) := by decide +kernel
theorem dX9_workLock_9 : decode cX9_workLock 9 = .ok (.iconst 0, 1) := by decide +kernel
theorem dX9_workLock_10 : decode cX9_workLock 10 = .ok (.istore_n 3, 1) := by decide +kernel
theorem dX9_workLock_11 : decode cX9_workLock 11 = .ok (.iconst 0, 1) := by decide +kernel
theorem dX9_workLock_12 : decode cX9_workLock 12 = .ok (.istore 4, 2) := by decide +kernel
theorem dX9_workLock_14 : decode cX9_workLock 14 = .ok (.iload 4, 2) := by decide +kernel
theorem dX9_workLock_16 : decode cX9_workLock 16 = .ok (.aload_n 0, 1) := by decide +kernel
theorem dX9_workLock_17 : decode cX9_workLock 17 = .ok (.getfield 30, 3) := by decide +kernel
theorem dX9_workLock_20 : decode cX9_workLock 20 = .ok (.getfield 252, 3) := by decide +kernel
theorem dX9_workLock_23 : decode cX9_workLock 23 = .ok (.if_icmp .ge 94, 3) := by decide +kernel
theorem dX9_workLock_26 : decode cX9_workLock 26 = .ok (.aload_n 0, 1) := by decide +kernel
theorem dX9_workLock_27 : decode cX9_workLock 27 = .ok (.getfield 30, 3) := by decide +kernel
theorem dX9_workLock_30 : decode cX9_workLock 30 = .ok (.iload 4, 2) := by decide +kernel
theorem dX9_workLock_32 : decode cX9_workLock 32 = .ok (.invokevirtual 279, 3) := by decide +kernel
theorem dX9_workLock_35 : decode cX9_workLock 35 = .ok (.astore 5, 2) := by decide +kernel
theorem dX9_workLock_37 : decode cX9_workLock 37 = .ok (.aload 5, 2) := by decide +kernel
theorem dX9_workLock_39 : decode cX9_workLock 39 = .ok (.ifnull 72, 3) := by decide +kernel
theorem dX9_workLock_42 : decode cX9_workLock 42 = .ok (.aload 5, 2) := by decide +kernel
theorem dX9_workLock_44 : decode cX9_workLock 44 = .ok (.getfield 282, 3) := by decide +kernel
theorem dX9_workLock_47 : decode cX9_workLock 47 = .ok (.iload_n 1, 1) := by decide +kernel
theorem dX9_workLock_48 : decode cX9_workLock 48 = .ok (.if_icmp .eq 6, 3) := by decide +kernel
theorem dX9_workLock_51 : decode cX9_workLock 51 = .ok (.goto 60, 3) := by decide +kernel
theorem dX9_workLock_54 : decode cX9_workLock 54 = .ok (.aload_n 0, 1) := by decide +kernel
theorem dX9_workLock_55 : decode cX9_workLock 55 = .ok (.aload 5, 2) := by decide +kernel
theorem dX9_workLock_57 : decode cX9_workLock 57 = .ok (.iload_n 2, 1) := by decide +kernel
theorem dX9_workLock_58 : decode cX9_workLock 58 = .ok (.iload_n 3, 1) := by decide +kernel
theorem dX9_workLock_59 : decode cX9_workLock 59 = .ok (.invokevirtual 285, 3) := by decide +kernel
theorem dX9_workLock_62 : decode cX9_workLock 62 = .ok (.istore 6, 2) := by decide +kernel
theorem dX9_workLock_64 : decode cX9_workLock 64 = .ok (.iload 6, 2) := by decide +kernel
theorem dX9_workLock_66 : decode cX9_workLock 66 = .ok (.ifCond .ne 36, 3) := by decide +kernel
theorem dX9_workLock_69 : decode cX9_workLock 69 = .ok (.iload_n 2, 1) := by decide +kernel
theorem dX9_workLock_70 : decode cX9_workLock 70 = .ok (.aload 5, 2) := by decide +kernel
theorem dX9_workLock_72 : decode cX9_workLock 72 = .ok (.getfield 253, 3) := by decide +kernel
theorem dX9_workLock_75 : decode cX9_workLock 75 = .ok (.isub, 1) := by decide +kernel
theorem dX9_workLock_76 : decode cX9_workLock 76 = .ok (.istore_n 2, 1) := by decide +kernel
theorem dX9_workLock_77 : decode cX9_workLock 77 = .ok (.aload_n 0, 1) := by decide +kernel
theorem dX9_workLock_78 : decode cX9_workLock 78 = .ok (.getfield 23, 3) := by decide +kernel
theorem dX9_workLock_81 : decode cX9_workLock 81 = .ok (.iload_n 1, 1) := by decide +kernel
theorem dX9_workLock_82 : decode cX9_workLock 82 = .ok (.aload 5, 2) := by decide +kernel
theorem dX9_workLock_84 : decode cX9_workLock 84 = .ok (.getfield 253, 3) := by decide +kernel
theorem dX9_workLock_87 : decode cX9_workLock 87 = .ok (.invokevirtual 289, 3) := by decide +kernel
theorem dX9_workLock_90 : decode cX9_workLock 90 = .ok (.aload 5, 2) := by decide +kernel
theorem dX9_workLock_92 : decode cX9_workLock 92 = .ok (.aload_n 0, 1) := by decide +kernel
theorem dX9_workLock_93 : decode cX9_workLock 93 = .ok (.getfield 71, 3) := by decide +kernel
theorem dX9_workLock_96 : decode cX9_workLock 96 = .ok (.invokevirtual 293, 3) := by decide +kernel
theorem dX9_workLock_99 : decode cX9_workLock 99 = .ok (.goto 12, 3) := by decide +kernel
theorem dX9_workLock_102 : decode cX9_workLock 102 = .ok (.iconst 1, 1) := by decide +kernel
theorem dX9_workLock_103 : decode cX9_workLock 103 = .ok (.istore_n 3, 1) := by decide +kernel
theorem dX9_workLock_104 : decode cX9_workLock 104 = .ok (.aload 5, 2) := by decide +kernel
theorem dX9_workLock_106 : decode cX9_workLock 106 = .ok (.iload 6, 2) := by decide +kernel
theorem dX9_workLock_108 : decode cX9_workLock 108 = .ok (.invokevirtual 296, 3) := by decide +kernel
theorem dX9_workLock_111 : decode cX9_workLock 111 = .ok (.iinc 4 1, 3) := by decide +kernel
theorem dX9_workLock_114 : decode cX9_workLock 114 = .ok (.goto (-100), 3) := by decide +kernel
theorem dX9_workLock_117 : decode cX9_workLock 117 = .ok (.return_, 1) := by decide +kernel
set_option maxRecDepth 20000 in
theorem ggX9_whatBars_X0_isIcy : GoodIn wsX9_whatBars wsX0_isIcy := goodIn_r _ [10, 11, 12, 47, 48, 49, 50, 51, 52, 53, 54, 55] (by decide +kernel) (by decide +kernel)
set_option maxRecDepth 20000 in
theorem gX9_whatBars_X0_isIcy : GoodIn wsX9_whatBars (wsV RX9 209 RX0 yX0_isIcy wsX0_isIcy) := goodIn_app (goodIn_of _ (by decide +kernel)) ggX9_whatBars_X0_isIcy
set_option maxRecDepth 20000 in
theorem ggX9_whatBars_X0_isTooLow : GoodIn wsX9_whatBars wsX0_isTooLow := goodIn_r _ [16, 17, 18, 19, 20, 9, 21, 22, 23, 24, 25, 47, 48, 49, 50, 51, 52, 53, 54, 55] (by decide +kernel) (by decide +kernel)
set_option maxRecDepth 20000 in
theorem gX9_whatBars_X0_isTooLow : GoodIn wsX9_whatBars (wsV RX9 299 RX0 yX0_isTooLow wsX0_isTooLow) := goodIn_app (goodIn_of _ (by decide +kernel)) ggX9_whatBars_X0_isTooLow
theorem dX9_whatBars_0 : decode cX9_whatBars 0 = .ok (.aload_n 0, 1) := by decide +kernel
theorem dX9_whatBars_1 : decode cX9_whatBars 1 = .ok (.getfield 23, 3) := by decide +kernel
theorem dX9_whatBars_4 : decode cX9_whatBars 4 = .ok (.aload_n 1, 1) := by decide +kernel
theorem dX9_whatBars_5 : decode cX9_whatBars 5 = .ok (.getfield 282, 3) := by decide +kernel
theorem dX9_whatBars_8 : decode cX9_whatBars 8 = .ok (.aload_n 0, 1) := by decide +kernel
theorem dX9_whatBars_9 : decode cX9_whatBars 9 = .ok (.getfield 71, 3) := by decide +kernel
theorem dX9_whatBars_12 : decode cX9_whatBars 12 = .ok (.invokevirtual 209, 3) := by decide +kernel
theorem dX9_whatBars_15 : decode cX9_whatBars 15 = .ok (.ifCond .ne 23, 3) := by decide +kernel
theorem dX9_whatBars_18 : decode cX9_whatBars 18 = .ok (.aload_n 0, 1) := by decide +kernel
theorem dX9_whatBars_19 : decode cX9_whatBars 19 = .ok (.getfield 23, 3) := by decide +kernel
theorem dX9_whatBars_22 : decode cX9_whatBars 22 = .ok (.aload_n 1, 1) := by decide +kernel
theorem dX9_whatBars_23 : decode cX9_whatBars 23 = .ok (.getfield 282, 3) := by decide +kernel
theorem dX9_whatBars_26 : decode cX9_whatBars 26 = .ok (.iconst 1, 1) := by decide +kernel
theorem dX9_whatBars_27 : decode cX9_whatBars 27 = .ok (.iadd, 1) := by decide +kernel
theorem dX9_whatBars_28 : decode cX9_whatBars 28 = .ok (.aload_n 0, 1) := by decide +kernel
theorem dX9_whatBars_29 : decode cX9_whatBars 29 = .ok (.getfield 71, 3) := by decide +kernel
theorem dX9_whatBars_32 : decode cX9_whatBars 32 = .ok (.invokevirtual 209, 3) := by decide +kernel
theorem dX9_whatBars_35 : decode cX9_whatBars 35 = .ok (.ifCond .eq 5, 3) := by decide +kernel
theorem dX9_whatBars_38 : decode cX9_whatBars 38 = .ok (.iconst 1, 1) := by decide +kernel
theorem dX9_whatBars_39 : decode cX9_whatBars 39 = .ok (.ireturn, 1) := by decide +kernel
theorem dX9_whatBars_40 : decode cX9_whatBars 40 = .ok (.aload_n 0, 1) := by decide +kernel
theorem dX9_whatBars_41 : decode cX9_whatBars 41 = .ok (.getfield 23, 3) := by decide +kernel
theorem dX9_whatBars_44 : decode cX9_whatBars 44 = .ok (.aload_n 1, 1) := by decide +kernel
theorem dX9_whatBars_45 : decode cX9_whatBars 45 = .ok (.getfield 282, 3) := by decide +kernel
theorem dX9_whatBars_48 : decode cX9_whatBars 48 = .ok (.iconst 1, 1) := by decide +kernel
theorem dX9_whatBars_49 : decode cX9_whatBars 49 = .ok (.iadd, 1) := by decide +kernel
theorem dX9_whatBars_50 : decode cX9_whatBars 50 = .ok (.aload_n 1, 1) := by decide +kernel
theorem dX9_whatBars_51 : decode cX9_whatBars 51 = .ok (.getfield 253, 3) := by decide +kernel
theorem dX9_whatBars_54 : decode cX9_whatBars 54 = .ok (.invokevirtual 299, 3) := by decide +kernel
theorem dX9_whatBars_57 : decode cX9_whatBars 57 = .ok (.ifCond .eq 5, 3) := by decide +kernel
theorem dX9_whatBars_60 : decode cX9_whatBars 60 = .ok (.iconst 2, 1) := by decide +kernel
theorem dX9_whatBars_61 : decode cX9_whatBars 61 = .ok (.ireturn, 1) := by decide +kernel
theorem dX9_whatBars_62 : decode cX9_whatBars 62 = .ok (.iload_n 2, 1) := by decide +kernel
theorem dX9_whatBars_63 : decode cX9_whatBars 63 = .ok (.aload_n 1, 1) := by decide +kernel
theorem dX9_whatBars_64 : decode cX9_whatBars 64 = .ok (.getfield 253, 3) := by decide +kernel
theorem dX9_whatBars_67 : decode cX9_whatBars 67 = .ok (.if_icmp .ge 5, 3) := by decide +kernel
theorem dX9_whatBars_70 : decode cX9_whatBars 70 = .ok (.iconst 3, 1) := by decide +kernel
theorem dX9_whatBars_71 : decode cX9_whatBars 71 = .ok (.ireturn, 1) := by decide +kernel
theorem dX9_whatBars_72 : decode cX9_whatBars 72 = .ok (.iload_n 3, 1) := by decide +kernel
theorem dX9_whatBars_73 : decode cX9_whatBars 73 = .ok (.ifCond .eq 14, 3) := by decide +kernel
theorem dX9_whatBars_76 : decode cX9_whatBars 76 = .ok (.aload_n 1, 1) := by decide +kernel
theorem dX9_whatBars_77 : decode cX9_whatBars 77 = .ok (.getfield 169, 3) := by decide +kernel
theorem dX9_whatBars_80 : decode cX9_whatBars 80 = .ok (.ifCond .ne 7, 3) := by decide +kernel
theorem dX9_whatBars_83 : decode cX9_whatBars 83 = .ok (.iconst 4, 1) := by decide +kernel
theorem dX9_whatBars_84 : decode cX9_whatBars 84 = .ok (.goto 4, 3) := by decide +kernel
theorem dX9_whatBars_87 : decode cX9_whatBars 87 = .ok (.iconst 0, 1) := by decide +kernel
theorem dX9_whatBars_88 : decode cX9_whatBars 88 = .ok (.ireturn, 1) := by decide +kernel
theorem dX9_isWithin_0 : decode cX9_isWithin 0 = .ok (.iload_n 0, 1) := by decide +kernel
theorem dX9_isWithin_1 : decode cX9_isWithin 1 = .ok (.iload_n 1, 1) := by decide +kernel
theorem dX9_isWithin_2 : decode cX9_isWithin 2 = .ok (.if_icmp .lt 12, 3) := by decide +kernel
theorem dX9_isWithin_5 : decode cX9_isWithin 5 = .ok (.iload_n 0, 1) := by decide +kernel
theorem dX9_isWithin_6 : decode cX9_isWithin 6 = .ok (.iload_n 2, 1) := by decide +kernel
theorem dX9_isWithin_7 : decode cX9_isWithin 7 = .ok (.if_icmp .gt 7, 3) := by decide +kernel
theorem dX9_isWithin_10 : decode cX9_isWithin 10 = .ok (.iconst 1, 1) := by decide +kernel
theorem dX9_isWithin_11 : decode cX9_isWithin 11 = .ok (.goto 4, 3) := by decide +kernel
theorem dX9_isWithin_14 : decode cX9_isWithin 14 = .ok (.iconst 0, 1) := by decide +kernel
theorem dX9_isWithin_15 : decode cX9_isWithin 15 = .ok (.ireturn, 1) := by decide +kernel
set_option maxRecDepth 20000 in
theorem ggX9_isDay_X9_isWithin : GoodIn wsX9_isDay wsX9_isWithin := goodIn_r _ [4] (by decide +kernel) (by decide +kernel)
set_option maxRecDepth 20000 in
theorem gX9_isDay_X9_isWithin : GoodIn wsX9_isDay (va_wsS RX9 82 yX9_isWithin wsX9_isWithin) := goodIn_app (goodIn_of _ (by decide +kernel)) ggX9_isDay_X9_isWithin
theorem dX9_isDay_0 : decode cX9_isDay 0 = .ok (.iload_n 0, 1) := by decide +kernel
theorem dX9_isDay_1 : decode cX9_isDay 1 = .ok (.iconst 0, 1) := by decide +kernel
theorem dX9_isDay_2 : decode cX9_isDay 2 = .ok (.sipush 400, 3) := by decide +kernel
theorem dX9_isDay_5 : decode cX9_isDay 5 = .ok (.invokestatic 82, 3) := by decide +kernel
theorem dX9_isDay_8 : decode cX9_isDay 8 = .ok (.ireturn, 1) := by decide +kernel
set_option maxRecDepth 20000 in
theorem ggX9_isCounty_X9_isWithin : GoodIn wsX9_isCounty wsX9_isWithin := goodIn_r _ [4] (by decide +kernel) (by decide +kernel)
set_option maxRecDepth 20000 in
theorem gX9_isCounty_X9_isWithin : GoodIn wsX9_isCounty (va_wsS RX9 82 yX9_isWithin wsX9_isWithin) := goodIn_app (goodIn_of _ (by decide +kernel)) ggX9_isCounty_X9_isWithin
theorem dX9_isCounty_0 : decode cX9_isCounty 0 = .ok (.iload_n 0, 1) := by decide +kernel
theorem dX9_isCounty_1 : decode cX9_isCounty 1 = .ok (.iconst 0, 1) := by decide +kernel
theorem dX9_isCounty_2 : decode cX9_isCounty 2 = .ok (.iconst 5, 1) := by decide +kernel
theorem dX9_isCounty_3 : decode cX9_isCounty 3 = .ok (.invokestatic 82, 3) := by decide +kernel
theorem dX9_isCounty_6 : decode cX9_isCounty 6 = .ok (.ireturn, 1) := by decide +kernel
theorem dX9_isPlace_0 : decode cX9_isPlace 0 = .ok (.iload_n 0, 1) := by decide +kernel
theorem dX9_isPlace_1 : decode cX9_isPlace 1 = .ok (.ifCond .lt 12, 3) := by decide +kernel
theorem dX9_isPlace_4 : decode cX9_isPlace 4 = .ok (.iload_n 0, 1) := by decide +kernel
theorem dX9_isPlace_5 : decode cX9_isPlace 5 = .ok (.iload_n 1, 1) := by decide +kernel
theorem dX9_isPlace_6 : decode cX9_isPlace 6 = .ok (.if_icmp .ge 7, 3) := by decide +kernel
theorem dX9_isPlace_9 : decode cX9_isPlace 9 = .ok (.iconst 1, 1) := by decide +kernel
theorem dX9_isPlace_10 : decode cX9_isPlace 10 = .ok (.goto 4, 3) := by decide +kernel
theorem dX9_isPlace_13 : decode cX9_isPlace 13 = .ok (.iconst 0, 1) := by decide +kernel
theorem dX9_isPlace_14 : decode cX9_isPlace 14 = .ok (.ireturn, 1) := by decide +kernel
theorem dX9_daysToPass_0 : decode cX9_daysToPass 0 = .ok (.iload_n 1, 1) := by decide +kernel
theorem dX9_daysToPass_1 : decode cX9_daysToPass 1 = .ok (.iconst 1, 1) := by decide +kernel
theorem dX9_daysToPass_2 : decode cX9_daysToPass 2 = .ok (.if_icmp .ge 7, 3) := by decide +kernel
theorem dX9_daysToPass_5 : decode cX9_daysToPass 5 = .ok (.iconst 0, 1) := by decide +kernel
theorem dX9_daysToPass_6 : decode cX9_daysToPass 6 = .ok (.goto 10, 3) := by decide +kernel
theorem dX9_daysToPass_9 : decode cX9_daysToPass 9 = .ok (.iload_n 0, 1) := by decide +kernel
theorem dX9_daysToPass_10 : decode cX9_daysToPass 10 = .ok (.iload_n 1, 1) := by decide +kernel
theorem dX9_daysToPass_11 : decode cX9_daysToPass 11 = .ok (.iadd, 1) := by decide +kernel
theorem dX9_daysToPass_12 : decode cX9_daysToPass 12 = .ok (.iconst 1, 1) := by decide +kernel
theorem dX9_daysToPass_13 : decode cX9_daysToPass 13 = .ok (.isub, 1) := by decide +kernel
theorem dX9_daysToPass_14 : decode cX9_daysToPass 14 = .ok (.iload_n 1, 1) := by decide +kernel
theorem dX9_daysToPass_15 : decode cX9_daysToPass 15 = .ok (.idiv, 1) := by decide +kernel
theorem dX9_daysToPass_16 : decode cX9_daysToPass 16 = .ok (.ireturn, 1) := by decide +kernel
end
section
theorem dX10_init_0 : decode cX10_init 0 = .ok (.aload_n 0, 1) := by decide +kernel
theorem dX10_init_1 : decode cX10_init 1 = .ok (.invokespecial 1, 3) := by decide +kernel
theorem dX10_init_4 : decode cX10_init 4 = .ok (.aload_n 0, 1) := by decide +kernel
theorem dX10_init_5 : decode cX10_init 5 = .ok (.bipush 12, 2) := by decide +kernel
theorem dX10_init_7 : decode cX10_init 7 = .ok (.newarray .int, 2) := by decide +kernel
theorem dX10_init_9 : decode cX10_init 9 = .ok (.putfield 7, 3) := by decide +kernel
theorem dX10_init_12 : decode cX10_init 12 = .ok (.aload_n 0, 1) := by decide +kernel
theorem dX10_init_13 : decode cX10_init 13 = .ok (.bipush 11, 2) := by decide +kernel
theorem dX10_init_15 : decode cX10_init 15 = .ok (.newarray .int, 2) := by decide +kernel
theorem dX10_init_17 : decode cX10_init 17 = .ok (.putfield 13, 3) := by decide +kernel
theorem dX10_init_20 : decode cX10_init 20 = .ok (.aload_n 0, 1) := by decide +kernel
theorem dX10_init_21 : decode cX10_init 21 = .ok (.sipush 1000, 3) := by decide +kernel
theorem dX10_init_24 : decode cX10_init 24 = .ok (.putfield 16, 3) := by decide +kernel
theorem dX10_init_27 : decode cX10_init 27 = .ok (.aload_n 0, 1) := by decide +kernel
theorem dX10_init_28 : decode cX10_init 28 = .ok (.iconst 4, 1) := by decide +kernel
theorem dX10_init_29 : decode cX10_init 29 = .ok (.newarray .int, 2) := by decide +kernel
theorem dX10_init_31 : decode cX10_init 31 = .ok (.putfield 20, 3) := by decide +kernel
theorem dX10_init_34 : decode cX10_init 34 = .ok (.aload_n 0, 1) := by decide +kernel
theorem dX10_init_35 : decode cX10_init 35 = .ok (.iconst 4, 1) := by decide +kernel
theorem dX10_init_36 : decode cX10_init 36 = .ok (.newarray .int, 2) := by decide +kernel
theorem dX10_init_38 : decode cX10_init 38 = .ok (.putfield 23, 3) := by decide +kernel
theorem dX10_init_41 : decode cX10_init 41 = .ok (.aload_n 0, 1) := by decide +kernel
theorem dX10_init_42 : decode cX10_init 42 = .ok (.iconst 4, 1) := by decide +kernel
theorem dX10_init_43 : decode cX10_init 43 = .ok (.newarray .int, 2) := by decide +kernel
theorem dX10_init_45 : decode cX10_init 45 = .ok (.putfield 26, 3) := by decide +kernel
theorem dX10_init_48 : decode cX10_init 48 = .ok (.aload_n 0, 1) := by decide +kernel
theorem dX10_init_49 : decode cX10_init 49 = .ok (.bipush 12, 2) := by decide +kernel
theorem dX10_init_51 : decode cX10_init 51 = .ok (.newarray .int, 2) := by decide +kernel
theorem dX10_init_53 : decode cX10_init 53 = .ok (.putfield 29, 3) := by decide +kernel
theorem dX10_init_56 : decode cX10_init 56 = .ok (.aload_n 0, 1) := by decide +kernel
theorem dX10_init_57 : decode cX10_init 57 = .ok (.bipush 12, 2) := by decide +kernel
theorem dX10_init_59 : decode cX10_init 59 = .ok (.newarray .int, 2) := by decide +kernel
theorem dX10_init_61 : decode cX10_init 61 = .ok (.putfield 32, 3) := by decide +kernel
theorem dX10_init_64 : decode cX10_init 64 = .ok (.aload_n 0, 1) := by decide +kernel
theorem dX10_init_65 : decode cX10_init 65 = .ok (.bipush 12, 2) := by decide +kernel
theorem dX10_init_67 : decode cX10_init 67 = .ok (.newarray .int, 2) := by decide +kernel
theorem dX10_init_69 : decode cX10_init 69 = .ok (.putfield 35, 3) := by decide +kernel
theorem dX10_init_72 : decode cX10_init 72 = .ok (.aload_n 0, 1) := by decide +kernel
theorem dX10_init_73 : decode cX10_init 73 = .ok (.bipush 12, 2) := by decide +kernel
theorem dX10_init_75 : decode cX10_init 75 = .ok (.newarray .int, 2) := by decide +kernel
theorem dX10_init_77 : decode cX10_init 77 = .ok (.putfield 38, 3) := by decide +kernel
theorem dX10_init_80 : decode cX10_init 80 = .ok (.aload_n 0, 1) := by decide +kernel
theorem dX10_init_81 : decode cX10_init 81 = .ok (.bipush 12, 2) := by decide +kernel
theorem dX10_init_83 : decode cX10_init 83 = .ok (.newarray .int, 2) := by decide +kernel
theorem dX10_init_85 : decode cX10_init 85 = .ok (.putfield 41, 3) := by decide +kernel
theorem dX10_init_88 : decode cX10_init 88 = .ok (.aload_n 0, 1) := by decide +kernel
theorem dX10_init_89 : decode cX10_init 89 = .ok (.bipush 12, 2) := by decide +kernel
theorem dX10_init_91 : decode cX10_init 91 = .ok (.newarray .int, 2) := by decide +kernel
theorem dX10_init_93 : decode cX10_init 93 = .ok (.putfield 44, 3) := by decide +kernel
theorem dX10_init_96 : decode cX10_init 96 = .ok (.aload_n 0, 1) := by decide +kernel
theorem dX10_init_97 : decode cX10_init 97 = .ok (.bipush 12, 2) := by decide +kernel
theorem dX10_init_99 : decode cX10_init 99 = .ok (.newarray .int, 2) := by decide +kernel
theorem dX10_init_101 : decode cX10_init 101 = .ok (.putfield 47, 3) := by decide +kernel
theorem dX10_init_104 : decode cX10_init 104 = .ok (.aload_n 0, 1) := by decide +kernel
theorem dX10_init_105 : decode cX10_init 105 = .ok (.bipush 12, 2) := by decide +kernel
theorem dX10_init_107 : decode cX10_init 107 = .ok (.newarray .int, 2) := by decide +kernel
theorem dX10_init_109 : decode cX10_init 109 = .ok (.putfield 50, 3) := by decide +kernel
theorem dX10_init_112 : decode cX10_init 112 = .ok (.aload_n 0, 1) := by decide +kernel
theorem dX10_init_113 : decode cX10_init 113 = .ok (.bipush 12, 2) := by decide +kernel
theorem dX10_init_115 : decode cX10_init 115 = .ok (.newarray .int, 2) := by decide +kernel
theorem dX10_init_117 : decode cX10_init 117 = .ok (.putfield 53, 3) := by decide +kernel
theorem dX10_init_120 : decode cX10_init 120 = .ok (.aload_n 0, 1) := by decide +kernel
theorem dX10_init_121 : decode cX10_init 121 = .ok (.bipush 12, 2) := by decide +kernel
theorem dX10_init_123 : decode cX10_init 123 = .ok (.newarray .boolean, 2) := by decide +kernel
theorem dX10_init_125 : decode cX10_init 125 = .ok (.putfield 56, 3) := by decide +kernel
theorem dX10_init_128 : decode cX10_init 128 = .ok (.aload_n 0, 1) := by decide +kernel
theorem dX10_init_129 : decode cX10_init 129 = .ok (.sipush 144, 3) := by decide +kernel
theorem dX10_init_132 : decode cX10_init 132 = .ok (.newarray .int, 2) := by decide +kernel
theorem dX10_init_134 : decode cX10_init 134 = .ok (.putfield 60, 3) := by decide +kernel
theorem dX10_init_137 : decode cX10_init 137 = .ok (.aload_n 0, 1) := by decide +kernel
theorem dX10_init_138 : decode cX10_init 138 = .ok (.bipush 60, 2) := by decide +kernel
theorem dX10_init_140 : decode cX10_init 140 = .ok (.newarray .int, 2) := by decide +kernel
theorem dX10_init_142 : decode cX10_init 142 = .ok (.putfield 63, 3) := by decide +kernel
theorem dX10_init_145 : decode cX10_init 145 = .ok (.aload_n 0, 1) := by decide +kernel
theorem dX10_init_146 : decode cX10_init 146 = .ok (.bipush 6, 2) := by decide +kernel
theorem dX10_init_148 : decode cX10_init 148 = .ok (.newarray .int, 2) := by decide +kernel
theorem dX10_init_150 : decode cX10_init 150 = .ok (.putfield 66, 3) := by decide +kernel
theorem dX10_init_153 : decode cX10_init 153 = .ok (.aload_n 0, 1) := by decide +kernel
theorem dX10_init_154 : decode cX10_init 154 = .ok (.bipush 6, 2) := by decide +kernel
theorem dX10_init_156 : decode cX10_init 156 = .ok (.newarray .int, 2) := by decide +kernel
theorem dX10_init_158 : decode cX10_init 158 = .ok (.putfield 69, 3) := by decide +kernel
theorem dX10_init_161 : decode cX10_init 161 = .ok (.aload_n 0, 1) := by decide +kernel
theorem dX10_init_162 : decode cX10_init 162 = .ok (.bipush 6, 2) := by decide +kernel
theorem dX10_init_164 : decode cX10_init 164 = .ok (.newarray .int, 2) := by decide +kernel
theorem dX10_init_166 : decode cX10_init 166 = .ok (.putfield 72, 3) := by decide +kernel
theorem dX10_init_169 : decode cX10_init 169 = .ok (.aload_n 0, 1) := by decide +kernel
theorem dX10_init_170 : decode cX10_init 170 = .ok (.sipush 400, 3) := by decide +kernel
theorem dX10_init_173 : decode cX10_init 173 = .ok (.newarray .byte, 2) := by decide +kernel
theorem dX10_init_175 : decode cX10_init 175 = .ok (.putfield 75, 3) := by decide +kernel
theorem dX10_init_178 : decode cX10_init 178 = .ok (.aload_n 0, 1) := by decide +kernel
theorem dX10_init_179 : decode cX10_init 179 = .ok (.sipush 400, 3) := by decide +kernel
theorem dX10_init_182 : decode cX10_init 182 = .ok (.newarray .byte, 2) := by decide +kernel
theorem dX10_init_184 : decode cX10_init 184 = .ok (.putfield 79, 3) := by decide +kernel
theorem dX10_init_187 : decode cX10_init 187 = .ok (.aload_n 0, 1) := by decide +kernel
theorem dX10_init_188 : decode cX10_init 188 = .ok (.iconst (-1), 1) := by decide +kernel
theorem dX10_init_189 : decode cX10_init 189 = .ok (.putfield 82, 3) := by decide +kernel
theorem dX10_init_192 : decode cX10_init 192 = .ok (.aload_n 0, 1) := by decide +kernel
theorem dX10_init_193 : decode cX10_init 193 = .ok (.bipush 11, 2) := by decide +kernel
theorem dX10_init_195 : decode cX10_init 195 = .ok (.newarray .int, 2) := by decide +kernel
theorem dX10_init_197 : decode cX10_init 197 = .ok (.putfield 85, 3) := by decide +kernel
theorem dX10_init_200 : decode cX10_init 200 = .ok (.aload_n 0, 1) := by decide +kernel
theorem dX10_init_201 : decode cX10_init 201 = .ok (.bipush 11, 2) := by decide +kernel
theorem dX10_init_203 : decode cX10_init 203 = .ok (.newarray .int, 2) := by decide +kernel
theorem dX10_init_205 : decode cX10_init 205 = .ok (.putfield 88, 3) := by decide +kernel
theorem dX10_init_208 : decode cX10_init 208 = .ok (.aload_n 0, 1) := by decide +kernel
theorem dX10_init_209 : decode cX10_init 209 = .ok (.sipush 176, 3) := by decide +kernel
theorem dX10_init_212 : decode cX10_init 212 = .ok (.newarray .int, 2) := by decide +kernel
theorem dX10_init_214 : decode cX10_init 214 = .ok (.putfield 91, 3) := by decide +kernel
theorem dX10_init_217 : decode cX10_init 217 = .ok (.aload_n 0, 1) := by decide +kernel
theorem dX10_init_218 : decode cX10_init 218 = .ok (.sipush 176, 3) := by decide +kernel
theorem dX10_init_221 : decode cX10_init 221 = .ok (.newarray .int, 2) := by decide +kernel
theorem dX10_init_223 : decode cX10_init 223 = .ok (.putfield 94, 3) := by decide +kernel
theorem dX10_init_226 : decode cX10_init 226 = .ok (.aload_n 0, 1) := by decide +kernel
theorem dX10_init_227 : decode cX10_init 227 = .ok (.sipush 176, 3) := by decide +kernel
theorem dX10_init_230 : decode cX10_init 230 = .ok (.newarray .int, 2) := by decide +kernel
theorem dX10_init_232 : decode cX10_init 232 = .ok (.putfield 97, 3) := by decide +kernel
theorem dX10_init_235 : decode cX10_init 235 = .ok (.aload_n 0, 1) := by decide +kernel
theorem dX10_init_236 : decode cX10_init 236 = .ok (.bipush 12, 2) := by decide +kernel
theorem dX10_init_238 : decode cX10_init 238 = .ok (.newarray .boolean, 2) := by decide +kernel
theorem dX10_init_240 : decode cX10_init 240 = .ok (.putfield 100, 3) := by decide +kernel
theorem dX10_init_243 : decode cX10_init 243 = .ok (.aload_n 0, 1) := by decide +kernel
theorem dX10_init_244 : decode cX10_init 244 = .ok (.bipush 6, 2) := by decide +kernel
theorem dX10_init_246 : decode cX10_init 246 = .ok (.newarray .int, 2) := by decide +kernel
theorem dX10_init_248 : decode cX10_init 248 = .ok (.putfield 103, 3) := by decide +kernel
theorem dX10_init_251 : decode cX10_init 251 = .ok (.aload_n 0, 1) := by decide +kernel
theorem dX10_init_252 : decode cX10_init 252 = .ok (.bipush 6, 2) := by decide +kernel
theorem dX10_init_254 : decode cX10_init 254 = .ok (.newarray .int, 2) := by decide +kernel
theorem dX10_init_256 : decode cX10_init 256 = .ok (.putfield 106, 3) := by decide +kernel
theorem dX10_init_259 : decode cX10_init 259 = .ok (.aload_n 0, 1) := by decide +kernel
theorem dX10_init_260 : decode cX10_init 260 = .ok (.bipush 6, 2) := by decide +kernel
theorem dX10_init_262 : decode cX10_init 262 = .ok (.newarray .int, 2) := by decide +kernel
theorem dX10_init_264 : decode cX10_init 264 = .ok (.putfield 109, 3) := by decide +kernel
theorem dX10_init_267 : decode cX10_init 267 = .ok (.aload_n 0, 1) := by decide +kernel
theorem dX10_init_268 : decode cX10_init 268 = .ok (.iconst 3, 1) := by decide +kernel
theorem dX10_init_269 : decode cX10_init 269 = .ok (.bipush 12, 2) := by decide +kernel
theorem dX10_init_271 : decode cX10_init 271 = .ok (.iload_n 1, 1) := by decide +kernel
theorem dX10_init_272 : decode cX10_init 272 = .ok (.invokestatic 112, 3) := by decide +kernel
theorem dX10_init_275 : decode cX10_init 275 = .ok (.invokestatic 118, 3) := by decide +kernel
theorem dX10_init_278 : decode cX10_init 278 = .ok (.putfield 121, 3) := by decide +kernel
theorem dX10_init_281 : decode cX10_init 281 = .ok (.iconst 0, 1) := by decide +kernel
theorem dX10_init_282 : decode cX10_init 282 = .ok (.istore_n 2, 1) := by decide +kernel
theorem dX10_init_283 : decode cX10_init 283 = .ok (.iload_n 2, 1) := by decide +kernel
theorem dX10_init_284 : decode cX10_init 284 = .ok (.bipush 12, 2) := by decide +kernel
theorem dX10_init_286 : decode cX10_init 286 = .ok (.if_icmp .ge 17, 3) := by decide +kernel
theorem dX10_init_289 : decode cX10_init 289 = .ok (.aload_n 0, 1) := by decide +kernel
theorem dX10_init_290 : decode cX10_init 290 = .ok (.getfield 7, 3) := by decide +kernel
theorem dX10_init_293 : decode cX10_init 293 = .ok (.iload_n 2, 1) := by decide +kernel
theorem dX10_init_294 : decode cX10_init 294 = .ok (.bipush 100, 2) := by decide +kernel
theorem dX10_init_296 : decode cX10_init 296 = .ok (.iastore, 1) := by decide +kernel
theorem dX10_init_297 : decode cX10_init 297 = .ok (.iinc 2 1, 3) := by decide +kernel
theorem dX10_init_300 : decode cX10_init 300 = .ok (.goto (-17), 3) := by decide +kernel
theorem dX10_init_303 : decode cX10_init 303 = .ok (.iconst 0, 1) := by decide +kernel
theorem dX10_init_304 : decode cX10_init 304 = .ok (.istore_n 2, 1) := by decide +kernel
theorem dX10_init_305 : decode cX10_init 305 = .ok (.iload_n 2, 1) := by decide +kernel
theorem dX10_init_306 : decode cX10_init 306 = .ok (.bipush 11, 2) := by decide +kernel
theorem dX10_init_308 : decode cX10_init 308 = .ok (.if_icmp .ge 17, 3) := by decide +kernel
theorem dX10_init_311 : decode cX10_init 311 = .ok (.aload_n 0, 1) := by decide +kernel
theorem dX10_init_312 : decode cX10_init 312 = .ok (.getfield 13, 3) := by decide +kernel
theorem dX10_init_315 : decode cX10_init 315 = .ok (.iload_n 2, 1) := by decide +kernel
theorem dX10_init_316 : decode cX10_init 316 = .ok (.bipush 20, 2) := by decide +kernel
theorem dX10_init_318 : decode cX10_init 318 = .ok (.iastore, 1) := by decide +kernel
theorem dX10_init_319 : decode cX10_init 319 = .ok (.iinc 2 1, 3) := by decide +kernel
theorem dX10_init_322 : decode cX10_init 322 = .ok (.goto (-17), 3) := by decide +kernel
theorem dX10_init_325 : decode cX10_init 325 = .ok (.return_, 1) := by decide +kernel
theorem dX10_isIn_0 : decode cX10_isIn 0 = .ok (.iload_n 0, 1) := by decide +kernel
theorem dX10_isIn_1 : decode cX10_isIn 1 = .ok (.iload_n 1, 1) := by decide +kernel
theorem dX10_isIn_2 : decode cX10_isIn 2 = .ok (.if_icmp .lt 12, 3) := by decide +kernel
theorem dX10_isIn_5 : decode cX10_isIn 5 = .ok (.iload_n 0, 1) := by decide +kernel
theorem dX10_isIn_6 : decode cX10_isIn 6 = .ok (.iload_n 2, 1) := by decide +kernel
theorem dX10_isIn_7 : decode cX10_isIn 7 = .ok (.if_icmp .gt 7, 3) := by decide +kernel
theorem dX10_isIn_10 : decode cX10_isIn 10 = .ok (.iconst 1, 1) := by decide +kernel
theorem dX10_isIn_11 : decode cX10_isIn 11 = .ok (.goto 4, 3) := by decide +kernel
theorem dX10_isIn_14 : decode cX10_isIn 14 = .ok (.iconst 0, 1) := by decide +kernel
theorem dX10_isIn_15 : decode cX10_isIn 15 = .ok (.ireturn, 1) := by decide +kernel
theorem dX10_one_0 : decode cX10_one 0 = .ok (.iload_n 0, 1) := by decide +kernel
theorem dX10_one_1 : decode cX10_one 1 = .ok (.ifCond .eq 7, 3) := by decide +kernel
theorem dX10_one_4 : decode cX10_one 4 = .ok (.iconst 1, 1) := by decide +kernel
theorem dX10_one_5 : decode cX10_one 5 = .ok (.goto 4, 3) := by decide +kernel
theorem dX10_one_8 : decode cX10_one 8 = .ok (.iconst 0, 1) := by decide +kernel
theorem dX10_one_9 : decode cX10_one 9 = .ok (.ireturn, 1) := by decide +kernel
set_option maxRecDepth 20000 in
theorem ggX10_isReach_X10_isIn : GoodIn wsX10_isReach wsX10_isIn := goodIn_r _ [5] (by decide +kernel) (by decide +kernel)
set_option maxRecDepth 20000 in
theorem gX10_isReach_X10_isIn : GoodIn wsX10_isReach (va_wsS RX10 124 yX10_isIn wsX10_isIn) := goodIn_app (goodIn_of _ (by decide +kernel)) ggX10_isReach_X10_isIn
theorem dX10_isReach_0 : decode cX10_isReach 0 = .ok (.iload_n 1, 1) := by decide +kernel
theorem dX10_isReach_1 : decode cX10_isReach 1 = .ok (.iconst 0, 1) := by decide +kernel
theorem dX10_isReach_2 : decode cX10_isReach 2 = .ok (.aload_n 0, 1) := by decide +kernel
theorem dX10_isReach_3 : decode cX10_isReach 3 = .ok (.getfield 121, 3) := by decide +kernel
theorem dX10_isReach_6 : decode cX10_isReach 6 = .ok (.iconst 1, 1) := by decide +kernel
theorem dX10_isReach_7 : decode cX10_isReach 7 = .ok (.isub, 1) := by decide +kernel
theorem dX10_isReach_8 : decode cX10_isReach 8 = .ok (.invokestatic 124, 3) := by decide +kernel
theorem dX10_isReach_11 : decode cX10_isReach 11 = .ok (.ireturn, 1) := by decide +kernel
set_option maxRecDepth 20000 in
theorem ggX10_isLock_X10_isIn : GoodIn wsX10_isLock wsX10_isIn := goodIn_r _ [5] (by decide +kernel) (by decide +kernel)
set_option maxRecDepth 20000 in
theorem gX10_isLock_X10_isIn : GoodIn wsX10_isLock (va_wsS RX10 124 yX10_isIn wsX10_isIn) := goodIn_app (goodIn_of _ (by decide +kernel)) ggX10_isLock_X10_isIn
theorem dX10_isLock_0 : decode cX10_isLock 0 = .ok (.iload_n 1, 1) := by decide +kernel
theorem dX10_isLock_1 : decode cX10_isLock 1 = .ok (.iconst 0, 1) := by decide +kernel
theorem dX10_isLock_2 : decode cX10_isLock 2 = .ok (.aload_n 0, 1) := by decide +kernel
theorem dX10_isLock_3 : decode cX10_isLock 3 = .ok (.getfield 121, 3) := by decide +kernel
theorem dX10_isLock_6 : decode cX10_isLock 6 = .ok (.iconst 2, 1) := by decide +kernel
theorem dX10_isLock_7 : decode cX10_isLock 7 = .ok (.isub, 1) := by decide +kernel
theorem dX10_isLock_8 : decode cX10_isLock 8 = .ok (.invokestatic 124, 3) := by decide +kernel
theorem dX10_isLock_11 : decode cX10_isLock 11 = .ok (.ireturn, 1) := by decide +kernel
set_option maxRecDepth 20000 in
theorem ggX10_isSquadron_X10_isIn : GoodIn wsX10_isSquadron wsX10_isIn := goodIn_r _ [5] (by decide +kernel) (by decide +kernel)
set_option maxRecDepth 20000 in
theorem gX10_isSquadron_X10_isIn : GoodIn wsX10_isSquadron (va_wsS RX10 124 yX10_isIn wsX10_isIn) := goodIn_app (goodIn_of _ (by decide +kernel)) ggX10_isSquadron_X10_isIn
theorem dX10_isSquadron_0 : decode cX10_isSquadron 0 = .ok (.iload_n 1, 1) := by decide +kernel
theorem dX10_isSquadron_1 : decode cX10_isSquadron 1 = .ok (.iconst 0, 1) := by decide +kernel
theorem dX10_isSquadron_2 : decode cX10_isSquadron 2 = .ok (.aload_n 0, 1) := by decide +kernel
theorem dX10_isSquadron_3 : decode cX10_isSquadron 3 = .ok (.getfield 128, 3) := by decide +kernel
theorem dX10_isSquadron_6 : decode cX10_isSquadron 6 = .ok (.iconst 1, 1) := by decide +kernel
theorem dX10_isSquadron_7 : decode cX10_isSquadron 7 = .ok (.isub, 1) := by decide +kernel
theorem dX10_isSquadron_8 : decode cX10_isSquadron 8 = .ok (.invokestatic 124, 3) := by decide +kernel
theorem dX10_isSquadron_11 : decode cX10_isSquadron 11 = .ok (.ireturn, 1) := by decide +kernel
set_option maxRecDepth 20000 in
theorem ggX10_isCounty_X10_isIn : GoodIn wsX10_isCounty wsX10_isIn := goodIn_r _ [4] (by decide +kernel) (by decide +kernel)
set_option maxRecDepth 20000 in
theorem gX10_isCounty_X10_isIn : GoodIn wsX10_isCounty (va_wsS RX10 124 yX10_isIn wsX10_isIn) := goodIn_app (goodIn_of _ (by decide +kernel)) ggX10_isCounty_X10_isIn
theorem dX10_isCounty_0 : decode cX10_isCounty 0 = .ok (.iload_n 0, 1) := by decide +kernel
theorem dX10_isCounty_1 : decode cX10_isCounty 1 = .ok (.iconst 0, 1) := by decide +kernel
theorem dX10_isCounty_2 : decode cX10_isCounty 2 = .ok (.iconst 5, 1) := by decide +kernel
theorem dX10_isCounty_3 : decode cX10_isCounty 3 = .ok (.invokestatic 124, 3) := by decide +kernel
theorem dX10_isCounty_6 : decode cX10_isCounty 6 = .ok (.ireturn, 1) := by decide +kernel
set_option maxRecDepth 20000 in
theorem ggX10_water_X10_isReach : GoodIn wsX10_water wsX10_isReach := goodIn_r _ [6, 7, 8, 9, 5, 10, 11, 12, 13, 14, 15, 16, 17, 18, 19, 20, 21, 22, 23, 24, 25, 26, 27, 28, 29, 30, 31, 32, 33, 34, 35, 36, 37, 38, 39, 40, 41, 42, 43, 44, 45, 46, 47, 48, 49, 50, 51, 52, 53, 54, 55] (by decide +kernel) (by decide +kernel)
set_option maxRecDepth 20000 in
theorem gX10_water_X10_isReach : GoodIn wsX10_water (wsV RX10 131 RX10 yX10_isReach wsX10_isReach) := goodIn_app (goodIn_of _ (by decide +kernel)) ggX10_water_X10_isReach
set_option maxRecDepth 20000 in
theorem ggX10_water_X10_isIn : GoodIn wsX10_water wsX10_isIn := goodIn_r _ [10] (by decide +kernel) (by decide +kernel)
set_option maxRecDepth 20000 in
theorem gX10_water_X10_isIn : GoodIn wsX10_water (va_wsS RX10 124 yX10_isIn wsX10_isIn) := goodIn_app (goodIn_of _ (by decide +kernel)) ggX10_water_X10_isIn
theorem dX10_water_0 : decode cX10_water 0 = .ok (.aload_n 0, 1) := by decide +kernel
theorem dX10_water_1 : decode cX10_water 1 = .ok (.iload_n 1, 1) := by decide +kernel
theorem dX10_water_2 : decode cX10_water 2 = .ok (.invokevirtual 131, 3) := by decide +kernel
theorem dX10_water_5 : decode cX10_water 5 = .ok (.ifCond .eq 14, 3) := by decide +kernel
theorem dX10_water_8 : decode cX10_water 8 = .ok (.iload_n 2, 1) := by decide +kernel
theorem dX10_water_9 : decode cX10_water 9 = .ok (.iconst 0, 1) := by decide +kernel
theorem dX10_water_10 : decode cX10_water 10 = .ok (.sipush 1000, 3) := by decide +kernel
theorem dX10_water_13 : decode cX10_water 13 = .ok (.invokestatic 124, 3) := by decide +kernel
theorem dX10_water_16 : decode cX10_water 16 = .ok (.ifCond .ne 5, 3) := by decide +kernel
theorem dX10_water_19 : decode cX10_water 19 = .ok (.iconst 0, 1) := by decide +kernel
theorem dX10_water_20 : decode cX10_water 20 = .ok (.ireturn, 1) := by decide +kernel
theorem dX10_water_21 : decode cX10_water 21 = .ok (.aload_n 0, 1) := by decide +kernel
theorem dX10_water_22 : decode cX10_water 22 = .ok (.getfield 7, 3) := by decide +kernel
theorem dX10_water_25 : decode cX10_water 25 = .ok (.iload_n 1, 1) := by decide +kernel
theorem dX10_water_26 : decode cX10_water 26 = .ok (.iload_n 2, 1) := by decide +kernel
theorem dX10_water_27 : decode cX10_water 27 = .ok (.iastore, 1) := by decide +kernel
theorem dX10_water_28 : decode cX10_water 28 = .ok (.iconst 1, 1) := by decide +kernel
theorem dX10_water_29 : decode cX10_water 29 = .ok (.ireturn, 1) := by decide +kernel
set_option maxRecDepth 20000 in
theorem ggX10_lock_X10_isLock : GoodIn wsX10_lock wsX10_isLock := goodIn_r _ [6, 7, 8, 9, 5, 10, 11, 12, 13, 14, 15, 16, 17, 18, 19, 20, 21, 22, 23, 24, 25, 26, 27, 28, 29, 30, 31, 32, 33, 34, 35, 36, 37, 38, 39, 40, 41, 42, 43, 44, 45, 46, 47, 48, 49, 50, 51, 52, 53, 54, 55] (by decide +kernel) (by decide +kernel)
set_option maxRecDepth 20000 in
theorem gX10_lock_X10_isLock : GoodIn wsX10_lock (wsV RX10 135 RX10 yX10_isLock wsX10_isLock) := goodIn_app (goodIn_of _ (by decide +kernel)) ggX10_lock_X10_isLock
set_option maxRecDepth 20000 in
theorem ggX10_lock_X10_isIn : GoodIn wsX10_lock wsX10_isIn := goodIn_r _ [10] (by decide +kernel) (by decide +kernel)
set_option maxRecDepth 20000 in
theorem gX10_lock_X10_isIn : GoodIn wsX10_lock (va_wsS RX10 124 yX10_isIn wsX10_isIn) := goodIn_app (goodIn_of _ (by decide +kernel)) ggX10_lock_X10_isIn
theorem dX10_lock_0 : decode cX10_lock 0 = .ok (.aload_n 0, 1) := by decide +kernel
theorem dX10_lock_1 : decode cX10_lock 1 = .ok (.iload_n 1, 1) := by decide +kernel
theorem dX10_lock_2 : decode cX10_lock 2 = .ok (.invokevirtual 135, 3) := by decide +kernel
theorem dX10_lock_5 : decode cX10_lock 5 = .ok (.ifCond .eq 13, 3) := by decide +kernel
theorem dX10_lock_8 : decode cX10_lock 8 = .ok (.iload_n 2, 1) := by decide +kernel
theorem dX10_lock_9 : decode cX10_lock 9 = .ok (.iconst 1, 1) := by decide +kernel
theorem dX10_lock_10 : decode cX10_lock 10 = .ok (.bipush 60, 2) := by decide +kernel
theorem dX10_lock_12 : decode cX10_lock 12 = .ok (.invokestatic 124, 3) := by decide +kernel
theorem dX10_lock_15 : decode cX10_lock 15 = .ok (.ifCond .ne 5, 3) := by decide +kernel
theorem dX10_lock_18 : decode cX10_lock 18 = .ok (.iconst 0, 1) := by decide +kernel
theorem dX10_lock_19 : decode cX10_lock 19 = .ok (.ireturn, 1) := by decide +kernel
theorem dX10_lock_20 : decode cX10_lock 20 = .ok (.aload_n 0, 1) := by decide +kernel
theorem dX10_lock_21 : decode cX10_lock 21 = .ok (.getfield 13, 3) := by decide +kernel
theorem dX10_lock_24 : decode cX10_lock 24 = .ok (.iload_n 1, 1) := by decide +kernel
theorem dX10_lock_25 : decode cX10_lock 25 = .ok (.iload_n 2, 1) := by decide +kernel
theorem dX10_lock_26 : decode cX10_lock 26 = .ok (.iastore, 1) := by decide +kernel
theorem dX10_lock_27 : decode cX10_lock 27 = .ok (.iconst 1, 1) := by decide +kernel
theorem dX10_lock_28 : decode cX10_lock 28 = .ok (.ireturn, 1) := by decide +kernel
set_option maxRecDepth 20000 in
theorem ggX10_lake_X10_isReach : GoodIn wsX10_lake wsX10_isReach := goodIn_r _ [8, 9, 10, 11, 7, 12, 13, 14, 15, 16, 17, 18, 19, 20, 21, 22, 23, 24, 25, 26, 27, 28, 29, 30, 31, 32, 33, 34, 35, 36, 37, 38, 39, 40, 41, 42, 43, 44, 45, 46, 47, 48, 49, 50, 51, 52, 53, 54, 55, 56, 57] (by decide +kernel) (by decide +kernel)
set_option maxRecDepth 20000 in
theorem gX10_lake_X10_isReach : GoodIn wsX10_lake (wsV RX10 131 RX10 yX10_isReach wsX10_isReach) := goodIn_app (goodIn_of _ (by decide +kernel)) ggX10_lake_X10_isReach
set_option maxRecDepth 20000 in
theorem ggX10_lake_X10_isIn : GoodIn wsX10_lake wsX10_isIn := goodIn_r _ [12] (by decide +kernel) (by decide +kernel)
set_option maxRecDepth 20000 in
theorem gX10_lake_X10_isIn : GoodIn wsX10_lake (va_wsS RX10 124 yX10_isIn wsX10_isIn) := goodIn_app (goodIn_of _ (by decide +kernel)) ggX10_lake_X10_isIn
theorem dX10_lake_0 : decode cX10_lake 0 = .ok (.aload_n 0, 1) := by decide +kernel
theorem dX10_lake_1 : decode cX10_lake 1 = .ok (.iload_n 1, 1) := by decide +kernel
theorem dX10_lake_2 : decode cX10_lake 2 = .ok (.invokevirtual 131, 3) := by decide +kernel
theorem dX10_lake_5 : decode cX10_lake 5 = .ok (.ifCond .eq 22, 3) := by decide +kernel
theorem dX10_lake_8 : decode cX10_lake 8 = .ok (.iload_n 2, 1) := by decide +kernel
theorem dX10_lake_9 : decode cX10_lake 9 = .ok (.iconst 0, 1) := by decide +kernel
theorem dX10_lake_10 : decode cX10_lake 10 = .ok (.sipush 5000, 3) := by decide +kernel
theorem dX10_lake_13 : decode cX10_lake 13 = .ok (.invokestatic 124, 3) := by decide +kernel
theorem dX10_lake_16 : decode cX10_lake 16 = .ok (.ifCond .eq 11, 3) := by decide +kernel
theorem dX10_lake_19 : decode cX10_lake 19 = .ok (.aload_n 0, 1) := by decide +kernel
theorem dX10_lake_20 : decode cX10_lake 20 = .ok (.getfield 138, 3) := by decide +kernel
theorem dX10_lake_23 : decode cX10_lake 23 = .ok (.iconst 4, 1) := by decide +kernel
theorem dX10_lake_24 : decode cX10_lake 24 = .ok (.if_icmp .ne 5, 3) := by decide +kernel
theorem dX10_lake_27 : decode cX10_lake 27 = .ok (.iconst (-1), 1) := by decide +kernel
theorem dX10_lake_28 : decode cX10_lake 28 = .ok (.ireturn, 1) := by decide +kernel
theorem dX10_lake_29 : decode cX10_lake 29 = .ok (.aload_n 0, 1) := by decide +kernel
theorem dX10_lake_30 : decode cX10_lake 30 = .ok (.getfield 20, 3) := by decide +kernel
theorem dX10_lake_33 : decode cX10_lake 33 = .ok (.aload_n 0, 1) := by decide +kernel
theorem dX10_lake_34 : decode cX10_lake 34 = .ok (.getfield 138, 3) := by decide +kernel
theorem dX10_lake_37 : decode cX10_lake 37 = .ok (.iload_n 1, 1) := by decide +kernel
theorem dX10_lake_38 : decode cX10_lake 38 = .ok (.iastore, 1) := by decide +kernel
theorem dX10_lake_39 : decode cX10_lake 39 = .ok (.aload_n 0, 1) := by decide +kernel
theorem dX10_lake_40 : decode cX10_lake 40 = .ok (.getfield 23, 3) := by decide +kernel
theorem dX10_lake_43 : decode cX10_lake 43 = .ok (.aload_n 0, 1) := by decide +kernel
theorem dX10_lake_44 : decode cX10_lake 44 = .ok (.getfield 138, 3) := by decide +kernel
theorem dX10_lake_47 : decode cX10_lake 47 = .ok (.iload_n 2, 1) := by decide +kernel
theorem dX10_lake_48 : decode cX10_lake 48 = .ok (.iastore, 1) := by decide +kernel
theorem dX10_lake_49 : decode cX10_lake 49 = .ok (.aload_n 0, 1) := by decide +kernel
theorem dX10_lake_50 : decode cX10_lake 50 = .ok (.dup, 1) := by decide +kernel
theorem dX10_lake_51 : decode cX10_lake 51 = .ok (.getfield 138, 3) := by decide +kernel
theorem dX10_lake_54 : decode cX10_lake 54 = .ok (.iconst 1, 1) := by decide +kernel
theorem dX10_lake_55 : decode cX10_lake 55 = .ok (.iadd, 1) := by decide +kernel
theorem dX10_lake_56 : decode cX10_lake 56 = .ok (.putfield 138, 3) := by decide +kernel
theorem dX10_lake_59 : decode cX10_lake 59 = .ok (.aload_n 0, 1) := by decide +kernel
theorem dX10_lake_60 : decode cX10_lake 60 = .ok (.getfield 138, 3) := by decide +kernel
theorem dX10_lake_63 : decode cX10_lake 63 = .ok (.iconst 1, 1) := by decide +kernel
theorem dX10_lake_64 : decode cX10_lake 64 = .ok (.isub, 1) := by decide +kernel
theorem dX10_lake_65 : decode cX10_lake 65 = .ok (.ireturn, 1) := by decide +kernel
set_option maxRecDepth 20000 in
theorem ggX10_give_X10_isIn : GoodIn wsX10_give wsX10_isIn := goodIn_r _ [6] (by decide +kernel) (by decide +kernel)
set_option maxRecDepth 20000 in
theorem gX10_give_X10_isIn : GoodIn wsX10_give (va_wsS RX10 124 yX10_isIn wsX10_isIn) := goodIn_app (goodIn_of _ (by decide +kernel)) ggX10_give_X10_isIn
theorem dX10_give_0 : decode cX10_give 0 = .ok (.iload_n 1, 1) := by decide +kernel
theorem dX10_give_1 : decode cX10_give 1 = .ok (.iconst 0, 1) := by decide +kernel
theorem dX10_give_2 : decode cX10_give 2 = .ok (.aload_n 0, 1) := by decide +kernel
theorem dX10_give_3 : decode cX10_give 3 = .ok (.getfield 138, 3) := by decide +kernel
theorem dX10_give_6 : decode cX10_give 6 = .ok (.iconst 1, 1) := by decide +kernel
theorem dX10_give_7 : decode cX10_give 7 = .ok (.isub, 1) := by decide +kernel
theorem dX10_give_8 : decode cX10_give 8 = .ok (.invokestatic 124, 3) := by decide +kernel
theorem dX10_give_11 : decode cX10_give 11 = .ok (.ifCond .eq 13, 3) := by decide +kernel
theorem dX10_give_14 : decode cX10_give 14 = .ok (.iload_n 2, 1) := by decide +kernel
theorem dX10_give_15 : decode cX10_give 15 = .ok (.iconst 0, 1) := by decide +kernel
theorem dX10_give_16 : decode cX10_give 16 = .ok (.bipush 100, 2) := by decide +kernel
theorem dX10_give_18 : decode cX10_give 18 = .ok (.invokestatic 124, 3) := by decide +kernel
theorem dX10_give_21 : decode cX10_give 21 = .ok (.ifCond .ne 5, 3) := by decide +kernel
theorem dX10_give_24 : decode cX10_give 24 = .ok (.iconst 0, 1) := by decide +kernel
theorem dX10_give_25 : decode cX10_give 25 = .ok (.ireturn, 1) := by decide +kernel
theorem dX10_give_26 : decode cX10_give 26 = .ok (.aload_n 0, 1) := by decide +kernel
theorem dX10_give_27 : decode cX10_give 27 = .ok (.getfield 26, 3) := by decide +kernel
theorem dX10_give_30 : decode cX10_give 30 = .ok (.iload_n 1, 1) := by decide +kernel
theorem dX10_give_31 : decode cX10_give 31 = .ok (.iload_n 2, 1) := by decide +kernel
theorem dX10_give_32 : decode cX10_give 32 = .ok (.iastore, 1) := by decide +kernel
theorem dX10_give_33 : decode cX10_give 33 = .ok (.iconst 1, 1) := by decide +kernel
theorem dX10_give_34 : decode cX10_give 34 = .ok (.ireturn, 1) := by decide +kernel
set_option maxRecDepth 20000 in
theorem ggX10_ice_X10_isIn : GoodIn wsX10_ice wsX10_isIn := goodIn_r _ [6] (by decide +kernel) (by decide +kernel)
set_option maxRecDepth 20000 in
theorem gX10_ice_X10_isIn : GoodIn wsX10_ice (va_wsS RX10 124 yX10_isIn wsX10_isIn) := goodIn_app (goodIn_of _ (by decide +kernel)) ggX10_ice_X10_isIn
set_option maxRecDepth 20000 in
theorem ggX10_ice_X10_isReach : GoodIn wsX10_ice wsX10_isReach := goodIn_r _ [10, 11, 3, 4, 5, 6, 12, 13, 14, 15, 16, 17, 18, 19, 20, 21, 22, 23, 24, 25, 26, 27, 28, 29, 30, 31, 32, 33, 34, 35, 36, 37, 38, 39, 40, 41, 42, 43, 44, 45, 46, 47, 48, 49, 50, 51, 52, 53, 54, 55, 56] (by decide +kernel) (by decide +kernel)
set_option maxRecDepth 20000 in
theorem gX10_ice_X10_isReach : GoodIn wsX10_ice (wsV RX10 131 RX10 yX10_isReach wsX10_isReach) := goodIn_app (goodIn_of _ (by decide +kernel)) ggX10_ice_X10_isReach
theorem dX10_ice_0 : decode cX10_ice 0 = .ok (.iload_n 1, 1) := by decide +kernel
theorem dX10_ice_1 : decode cX10_ice 1 = .ok (.iconst 0, 1) := by decide +kernel
theorem dX10_ice_2 : decode cX10_ice 2 = .ok (.sipush 400, 3) := by decide +kernel
theorem dX10_ice_5 : decode cX10_ice 5 = .ok (.invokestatic 124, 3) := by decide +kernel
theorem dX10_ice_8 : decode cX10_ice 8 = .ok (.ifCond .eq 11, 3) := by decide +kernel
theorem dX10_ice_11 : decode cX10_ice 11 = .ok (.aload_n 0, 1) := by decide +kernel
theorem dX10_ice_12 : decode cX10_ice 12 = .ok (.iload_n 2, 1) := by decide +kernel
theorem dX10_ice_13 : decode cX10_ice 13 = .ok (.invokevirtual 131, 3) := by decide +kernel
theorem dX10_ice_16 : decode cX10_ice 16 = .ok (.ifCond .ne 5, 3) := by decide +kernel
theorem dX10_ice_19 : decode cX10_ice 19 = .ok (.iconst 0, 1) := by decide +kernel
theorem dX10_ice_20 : decode cX10_ice 20 = .ok (.ireturn, 1) := by decide +kernel
theorem dX10_ice_21 : decode cX10_ice 21 = .ok (.aload_n 0, 1) := by decide +kernel
theorem dX10_ice_22 : decode cX10_ice 22 = .ok (.iload_n 1, 1) := by decide +kernel
theorem dX10_ice_23 : decode cX10_ice 23 = .ok (.putfield 16, 3) := by decide +kernel
theorem dX10_ice_26 : decode cX10_ice 26 = .ok (.aload_n 0, 1) := by decide +kernel
theorem dX10_ice_27 : decode cX10_ice 27 = .ok (.iload_n 2, 1) := by decide +kernel
theorem dX10_ice_28 : decode cX10_ice 28 = .ok (.putfield 141, 3) := by decide +kernel
theorem dX10_ice_31 : decode cX10_ice 31 = .ok (.iconst 1, 1) := by decide +kernel
theorem dX10_ice_32 : decode cX10_ice 32 = .ok (.ireturn, 1) := by decide +kernel
theorem dX10_hasIce_0 : decode cX10_hasIce 0 = .ok (.aload_n 0, 1) := by decide +kernel
theorem dX10_hasIce_1 : decode cX10_hasIce 1 = .ok (.getfield 144, 3) := by decide +kernel
theorem dX10_hasIce_4 : decode cX10_hasIce 4 = .ok (.aload_n 0, 1) := by decide +kernel
theorem dX10_hasIce_5 : decode cX10_hasIce 5 = .ok (.getfield 16, 3) := by decide +kernel
theorem dX10_hasIce_8 : decode cX10_hasIce 8 = .ok (.if_icmp .lt 15, 3) := by decide +kernel
theorem dX10_hasIce_11 : decode cX10_hasIce 11 = .ok (.iload_n 1, 1) := by decide +kernel
theorem dX10_hasIce_12 : decode cX10_hasIce 12 = .ok (.aload_n 0, 1) := by decide +kernel
theorem dX10_hasIce_13 : decode cX10_hasIce 13 = .ok (.getfield 141, 3) := by decide +kernel
theorem dX10_hasIce_16 : decode cX10_hasIce 16 = .ok (.if_icmp .lt 7, 3) := by decide +kernel
theorem dX10_hasIce_19 : decode cX10_hasIce 19 = .ok (.iconst 1, 1) := by decide +kernel
theorem dX10_hasIce_20 : decode cX10_hasIce 20 = .ok (.goto 4, 3) := by decide +kernel
theorem dX10_hasIce_23 : decode cX10_hasIce 23 = .ok (.iconst 0, 1) := by decide +kernel
theorem dX10_hasIce_24 : decode cX10_hasIce 24 = .ok (.ireturn, 1) := by decide +kernel
set_option maxRecDepth 20000 in
theorem ggX10_squadron_X10_isCounty : GoodIn wsX10_squadron wsX10_isCounty := goodIn_r _ [11, 12, 13, 10, 14] (by decide +kernel) (by decide +kernel)
set_option maxRecDepth 20000 in
theorem gX10_squadron_X10_isCounty : GoodIn wsX10_squadron (va_wsS RX10 147 yX10_isCounty wsX10_isCounty) := goodIn_app (goodIn_of _ (by decide +kernel)) ggX10_squadron_X10_isCounty
set_option maxRecDepth 20000 in
theorem ggX10_squadron_X10_isIn : GoodIn wsX10_squadron wsX10_isIn := goodIn_r _ [14] (by decide +kernel) (by decide +kernel)
set_option maxRecDepth 20000 in
theorem gX10_squadron_X10_isIn : GoodIn wsX10_squadron (va_wsS RX10 124 yX10_isIn wsX10_isIn) := goodIn_app (goodIn_of _ (by decide +kernel)) ggX10_squadron_X10_isIn
theorem dX10_squadron_0 : decode cX10_squadron 0 = .ok (.iload_n 1, 1) := by decide +kernel
theorem dX10_squadron_1 : decode cX10_squadron 1 = .ok (.invokestatic 147, 3) := by decide +kernel
theorem dX10_squadron_4 : decode cX10_squadron 4 = .ok (.ifCond .eq 45, 3) := by decide +kernel
theorem dX10_squadron_7 : decode cX10_squadron 7 = .ok (.iload_n 2, 1) := by decide +kernel
theorem dX10_squadron_8 : decode cX10_squadron 8 = .ok (.iconst 1, 1) := by decide +kernel
theorem dX10_squadron_9 : decode cX10_squadron 9 = .ok (.bipush 50, 2) := by decide +kernel
theorem dX10_squadron_11 : decode cX10_squadron 11 = .ok (.invokestatic 124, 3) := by decide +kernel
theorem dX10_squadron_14 : decode cX10_squadron 14 = .ok (.ifCond .eq 35, 3) := by decide +kernel
theorem dX10_squadron_17 : decode cX10_squadron 17 = .ok (.iload_n 3, 1) := by decide +kernel
theorem dX10_squadron_18 : decode cX10_squadron 18 = .ok (.iconst 0, 1) := by decide +kernel
theorem dX10_squadron_19 : decode cX10_squadron 19 = .ok (.sipush 5000, 3) := by decide +kernel
theorem dX10_squadron_22 : decode cX10_squadron 22 = .ok (.invokestatic 124, 3) := by decide +kernel
theorem dX10_squadron_25 : decode cX10_squadron 25 = .ok (.ifCond .eq 24, 3) := by decide +kernel
theorem dX10_squadron_28 : decode cX10_squadron 28 = .ok (.iload 4, 2) := by decide +kernel
theorem dX10_squadron_30 : decode cX10_squadron 30 = .ok (.iconst 0, 1) := by decide +kernel
theorem dX10_squadron_31 : decode cX10_squadron 31 = .ok (.sipush 2000, 3) := by decide +kernel
theorem dX10_squadron_34 : decode cX10_squadron 34 = .ok (.invokestatic 124, 3) := by decide +kernel
theorem dX10_squadron_37 : decode cX10_squadron 37 = .ok (.ifCond .eq 12, 3) := by decide +kernel
theorem dX10_squadron_40 : decode cX10_squadron 40 = .ok (.aload_n 0, 1) := by decide +kernel
theorem dX10_squadron_41 : decode cX10_squadron 41 = .ok (.getfield 128, 3) := by decide +kernel
theorem dX10_squadron_44 : decode cX10_squadron 44 = .ok (.bipush 12, 2) := by decide +kernel
theorem dX10_squadron_46 : decode cX10_squadron 46 = .ok (.if_icmp .ne 5, 3) := by decide +kernel
theorem dX10_squadron_49 : decode cX10_squadron 49 = .ok (.iconst (-1), 1) := by decide +kernel
theorem dX10_squadron_50 : decode cX10_squadron 50 = .ok (.ireturn, 1) := by decide +kernel
theorem dX10_squadron_51 : decode cX10_squadron 51 = .ok (.aload_n 0, 1) := by decide +kernel
theorem dX10_squadron_52 : decode cX10_squadron 52 = .ok (.getfield 128, 3) := by decide +kernel
theorem dX10_squadron_55 : decode cX10_squadron 55 = .ok (.istore 5, 2) := by decide +kernel
theorem dX10_squadron_57 : decode cX10_squadron 57 = .ok (.aload_n 0, 1) := by decide +kernel
theorem dX10_squadron_58 : decode cX10_squadron 58 = .ok (.dup, 1) := by decide +kernel
theorem dX10_squadron_59 : decode cX10_squadron 59 = .ok (.getfield 128, 3) := by decide +kernel
theorem dX10_squadron_62 : decode cX10_squadron 62 = .ok (.iconst 1, 1) := by decide +kernel
theorem dX10_squadron_63 : decode cX10_squadron 63 = .ok (.iadd, 1) := by decide +kernel
theorem dX10_squadron_64 : decode cX10_squadron 64 = .ok (.putfield 128, 3) := by decide +kernel
theorem dX10_squadron_67 : decode cX10_squadron 67 = .ok (.aload_n 0, 1) := by decide +kernel
theorem dX10_squadron_68 : decode cX10_squadron 68 = .ok (.getfield 29, 3) := by decide +kernel
theorem dX10_squadron_71 : decode cX10_squadron 71 = .ok (.iload 5, 2) := by decide +kernel
theorem dX10_squadron_73 : decode cX10_squadron 73 = .ok (.iload_n 1, 1) := by decide +kernel
theorem dX10_squadron_74 : decode cX10_squadron 74 = .ok (.iastore, 1) := by decide +kernel
theorem dX10_squadron_75 : decode cX10_squadron 75 = .ok (.aload_n 0, 1) := by decide +kernel
theorem dX10_squadron_76 : decode cX10_squadron 76 = .ok (.getfield 32, 3) := by decide +kernel
theorem dX10_squadron_79 : decode cX10_squadron 79 = .ok (.iload 5, 2) := by decide +kernel
theorem dX10_squadron_81 : decode cX10_squadron 81 = .ok (.iload_n 2, 1) := by decide +kernel
theorem dX10_squadron_82 : decode cX10_squadron 82 = .ok (.iastore, 1) := by decide +kernel
theorem dX10_squadron_83 : decode cX10_squadron 83 = .ok (.aload_n 0, 1) := by decide +kernel
theorem dX10_squadron_84 : decode cX10_squadron 84 = .ok (.getfield 35, 3) := by decide +kernel
theorem dX10_squadron_87 : decode cX10_squadron 87 = .ok (.iload 5, 2) := by decide +kernel
theorem dX10_squadron_89 : decode cX10_squadron 89 = .ok (.iload_n 3, 1) := by decide +kernel
theorem dX10_squadron_90 : decode cX10_squadron 90 = .ok (.iastore, 1) := by decide +kernel
theorem dX10_squadron_91 : decode cX10_squadron 91 = .ok (.aload_n 0, 1) := by decide +kernel
theorem dX10_squadron_92 : decode cX10_squadron 92 = .ok (.getfield 41, 3) := by decide +kernel
theorem dX10_squadron_95 : decode cX10_squadron 95 = .ok (.iload 5, 2) := by decide +kernel
theorem dX10_squadron_97 : decode cX10_squadron 97 = .ok (.iload 4, 2) := by decide +kernel
theorem dX10_squadron_99 : decode cX10_squadron 99 = .ok (.iastore, 1) := by decide +kernel
theorem dX10_squadron_100 : decode cX10_squadron 100 = .ok (.aload_n 0, 1) := by decide +kernel
theorem dX10_squadron_101 : decode cX10_squadron 101 = .ok (.getfield 47, 3) := by decide +kernel
theorem dX10_squadron_104 : decode cX10_squadron 104 = .ok (.iload 5, 2) := by decide +kernel
theorem dX10_squadron_106 : decode cX10_squadron 106 = .ok (.iconst (-1), 1) := by decide +kernel
theorem dX10_squadron_107 : decode cX10_squadron 107 = .ok (.iastore, 1) := by decide +kernel
theorem dX10_squadron_108 : decode cX10_squadron 108 = .ok (.aload_n 0, 1) := by decide +kernel
theorem dX10_squadron_109 : decode cX10_squadron 109 = .ok (.getfield 53, 3) := by decide +kernel
theorem dX10_squadron_112 : decode cX10_squadron 112 = .ok (.iload 5, 2) := by decide +kernel
theorem dX10_squadron_114 : decode cX10_squadron 114 = .ok (.sipush 400, 3) := by decide +kernel
theorem dX10_squadron_117 : decode cX10_squadron 117 = .ok (.iastore, 1) := by decide +kernel
theorem dX10_squadron_118 : decode cX10_squadron 118 = .ok (.iload 5, 2) := by decide +kernel
theorem dX10_squadron_120 : decode cX10_squadron 120 = .ok (.ireturn, 1) := by decide +kernel
set_option maxRecDepth 20000 in
theorem ggX10_feed_X10_four : GoodIn wsX10_feed wsX10_four := goodIn_r _ [6, 7, 1, 8, 9, 10, 11, 12, 13, 14, 15, 16, 17, 18, 19, 20, 21, 22, 23, 24, 25, 26, 27, 28, 29, 30, 31, 32, 33, 34, 35, 36, 37, 38, 39, 40, 41, 42, 43, 44, 45, 46, 47, 48, 49, 50, 51, 52] (by decide +kernel) (by decide +kernel)
set_option maxRecDepth 20000 in
theorem gX10_feed_X10_four : GoodIn wsX10_feed (wsV RX10 153 RX10 yX10_four wsX10_four) := goodIn_app (goodIn_of _ (by decide +kernel)) ggX10_feed_X10_four
theorem dX10_feed_0 : decode cX10_feed 0 = .ok (.aload_n 0, 1) := by decide +kernel
theorem dX10_feed_1 : decode cX10_feed 1 = .ok (.getfield 150, 3) := by decide +kernel
theorem dX10_feed_4 : decode cX10_feed 4 = .ok (.bipush 20, 2) := by decide +kernel
theorem dX10_feed_6 : decode cX10_feed 6 = .ok (.iadd, 1) := by decide +kernel
theorem dX10_feed_7 : decode cX10_feed 7 = .ok (.sipush 400, 3) := by decide +kernel
theorem dX10_feed_10 : decode cX10_feed 10 = .ok (.if_icmp .le 5, 3) := by decide +kernel
theorem dX10_feed_13 : decode cX10_feed 13 = .ok (.iconst (-1), 1) := by decide +kernel
theorem dX10_feed_14 : decode cX10_feed 14 = .ok (.ireturn, 1) := by decide +kernel
theorem dX10_feed_15 : decode cX10_feed 15 = .ok (.aload_n 0, 1) := by decide +kernel
theorem dX10_feed_16 : decode cX10_feed 16 = .ok (.iload_n 1, 1) := by decide +kernel
theorem dX10_feed_17 : decode cX10_feed 17 = .ok (.invokevirtual 153, 3) := by decide +kernel
theorem dX10_feed_20 : decode cX10_feed 20 = .ok (.aload_n 0, 1) := by decide +kernel
theorem dX10_feed_21 : decode cX10_feed 21 = .ok (.iload_n 2, 1) := by decide +kernel
theorem dX10_feed_22 : decode cX10_feed 22 = .ok (.invokevirtual 153, 3) := by decide +kernel
theorem dX10_feed_25 : decode cX10_feed 25 = .ok (.aload_n 0, 1) := by decide +kernel
theorem dX10_feed_26 : decode cX10_feed 26 = .ok (.iload_n 3, 1) := by decide +kernel
theorem dX10_feed_27 : decode cX10_feed 27 = .ok (.invokevirtual 153, 3) := by decide +kernel
theorem dX10_feed_30 : decode cX10_feed 30 = .ok (.aload_n 0, 1) := by decide +kernel
theorem dX10_feed_31 : decode cX10_feed 31 = .ok (.iload 4, 2) := by decide +kernel
theorem dX10_feed_33 : decode cX10_feed 33 = .ok (.invokevirtual 153, 3) := by decide +kernel
theorem dX10_feed_36 : decode cX10_feed 36 = .ok (.aload_n 0, 1) := by decide +kernel
theorem dX10_feed_37 : decode cX10_feed 37 = .ok (.iload 5, 2) := by decide +kernel
theorem dX10_feed_39 : decode cX10_feed 39 = .ok (.invokevirtual 153, 3) := by decide +kernel
theorem dX10_feed_42 : decode cX10_feed 42 = .ok (.aload_n 0, 1) := by decide +kernel
theorem dX10_feed_43 : decode cX10_feed 43 = .ok (.getfield 150, 3) := by decide +kernel
theorem dX10_feed_46 : decode cX10_feed 46 = .ok (.ireturn, 1) := by decide +kernel
theorem dX10_four_0 : decode cX10_four 0 = .ok (.bipush 24, 2) := by decide +kernel
theorem dX10_four_2 : decode cX10_four 2 = .ok (.istore_n 2, 1) := by decide +kernel
theorem dX10_four_3 : decode cX10_four 3 = .ok (.iload_n 2, 1) := by decide +kernel
theorem dX10_four_4 : decode cX10_four 4 = .ok (.ifCond .lt 32, 3) := by decide +kernel
theorem dX10_four_7 : decode cX10_four 7 = .ok (.aload_n 0, 1) := by decide +kernel
theorem dX10_four_8 : decode cX10_four 8 = .ok (.getfield 75, 3) := by decide +kernel
theorem dX10_four_11 : decode cX10_four 11 = .ok (.aload_n 0, 1) := by decide +kernel
theorem dX10_four_12 : decode cX10_four 12 = .ok (.getfield 150, 3) := by decide +kernel
theorem dX10_four_15 : decode cX10_four 15 = .ok (.iload_n 1, 1) := by decide +kernel
theorem dX10_four_16 : decode cX10_four 16 = .ok (.iload_n 2, 1) := by decide +kernel
theorem dX10_four_17 : decode cX10_four 17 = .ok (.ishr, 1) := by decide +kernel
theorem dX10_four_18 : decode cX10_four 18 = .ok (.i2b, 1) := by decide +kernel
theorem dX10_four_19 : decode cX10_four 19 = .ok (.bastore, 1) := by decide +kernel
theorem dX10_four_20 : decode cX10_four 20 = .ok (.aload_n 0, 1) := by decide +kernel
theorem dX10_four_21 : decode cX10_four 21 = .ok (.dup, 1) := by decide +kernel
theorem dX10_four_22 : decode cX10_four 22 = .ok (.getfield 150, 3) := by decide +kernel
theorem dX10_four_25 : decode cX10_four 25 = .ok (.iconst 1, 1) := by decide +kernel
theorem dX10_four_26 : decode cX10_four 26 = .ok (.iadd, 1) := by decide +kernel
theorem dX10_four_27 : decode cX10_four 27 = .ok (.putfield 150, 3) := by decide +kernel
theorem dX10_four_30 : decode cX10_four 30 = .ok (.iinc 2 (-8), 3) := by decide +kernel
theorem dX10_four_33 : decode cX10_four 33 = .ok (.goto (-30), 3) := by decide +kernel
theorem dX10_four_36 : decode cX10_four 36 = .ok (.return_, 1) := by decide +kernel
theorem dX10_blanks_0 : decode cX10_blanks 0 = .ok (.aload_n 0, 1) := by decide +kernel
theorem dX10_blanks_1 : decode cX10_blanks 1 = .ok (.getfield 157, 3) := by decide +kernel
theorem dX10_blanks_4 : decode cX10_blanks 4 = .ok (.aload_n 0, 1) := by decide +kernel
theorem dX10_blanks_5 : decode cX10_blanks 5 = .ok (.getfield 160, 3) := by decide +kernel
theorem dX10_blanks_8 : decode cX10_blanks 8 = .ok (.if_icmp .ge 44, 3) := by decide +kernel
theorem dX10_blanks_11 : decode cX10_blanks 11 = .ok (.aload_n 0, 1) := by decide +kernel
theorem dX10_blanks_12 : decode cX10_blanks 12 = .ok (.getfield 79, 3) := by decide +kernel
theorem dX10_blanks_15 : decode cX10_blanks 15 = .ok (.aload_n 0, 1) := by decide +kernel
theorem dX10_blanks_16 : decode cX10_blanks 16 = .ok (.getfield 157, 3) := by decide +kernel
theorem dX10_blanks_19 : decode cX10_blanks 19 = .ok (.baload, 1) := by decide +kernel
theorem dX10_blanks_20 : decode cX10_blanks 20 = .ok (.bipush 32, 2) := by decide +kernel
theorem dX10_blanks_22 : decode cX10_blanks 22 = .ok (.if_icmp .eq 17, 3) := by decide +kernel
theorem dX10_blanks_25 : decode cX10_blanks 25 = .ok (.aload_n 0, 1) := by decide +kernel
theorem dX10_blanks_26 : decode cX10_blanks 26 = .ok (.getfield 79, 3) := by decide +kernel
theorem dX10_blanks_29 : decode cX10_blanks 29 = .ok (.aload_n 0, 1) := by decide +kernel
theorem dX10_blanks_30 : decode cX10_blanks 30 = .ok (.getfield 157, 3) := by decide +kernel
theorem dX10_blanks_33 : decode cX10_blanks 33 = .ok (.baload, 1) := by decide +kernel
theorem dX10_blanks_34 : decode cX10_blanks 34 = .ok (.bipush 10, 2) := by decide +kernel
theorem dX10_blanks_36 : decode cX10_blanks 36 = .ok (.if_icmp .ne 16, 3) := by decide +kernel
theorem dX10_blanks_39 : decode cX10_blanks 39 = .ok (.aload_n 0, 1) := by decide +kernel
theorem dX10_blanks_40 : decode cX10_blanks 40 = .ok (.dup, 1) := by decide +kernel
theorem dX10_blanks_41 : decode cX10_blanks 41 = .ok (.getfield 157, 3) := by decide +kernel
theorem dX10_blanks_44 : decode cX10_blanks 44 = .ok (.iconst 1, 1) := by decide +kernel
theorem dX10_blanks_45 : decode cX10_blanks 45 = .ok (.iadd, 1) := by decide +kernel
theorem dX10_blanks_46 : decode cX10_blanks 46 = .ok (.putfield 157, 3) := by decide +kernel
theorem dX10_blanks_49 : decode cX10_blanks 49 = .ok (.goto (-49), 3) := by decide +kernel
theorem dX10_blanks_52 : decode cX10_blanks 52 = .ok (.return_, 1) := by decide +kernel
set_option maxRecDepth 20000 in
theorem ggX10_word_X10_blanks : GoodIn wsX10_word wsX10_blanks := goodIn_r _ [9, 1, 3, 4, 10, 11, 12, 13, 14, 15, 16, 17, 18, 19, 20, 21, 22, 23, 24, 25, 26, 27, 28, 29, 30, 31, 32, 33, 34, 35, 36, 37, 38, 39, 40, 41, 42, 43, 44, 45, 46, 47, 48, 49, 50, 51, 52, 53, 54] (by decide +kernel) (by decide +kernel)
set_option maxRecDepth 20000 in
theorem gX10_word_X10_blanks : GoodIn wsX10_word (wsV RX10 163 RX10 yX10_blanks wsX10_blanks) := goodIn_app (goodIn_of _ (by decide +kernel)) ggX10_word_X10_blanks
theorem dX10_word_0 : decode cX10_word 0 = .ok (.aload_n 0, 1) := by decide +kernel
theorem dX10_word_1 : decode cX10_word 1 = .ok (.invokevirtual 163, 3) := by decide +kernel
theorem dX10_word_4 : decode cX10_word 4 = .ok (.aload_n 0, 1) := by decide +kernel
theorem dX10_word_5 : decode cX10_word 5 = .ok (.aload_n 0, 1) := by decide +kernel
theorem dX10_word_6 : decode cX10_word 6 = .ok (.getfield 157, 3) := by decide +kernel
theorem dX10_word_9 : decode cX10_word 9 = .ok (.putfield 166, 3) := by decide +kernel
theorem dX10_word_12 : decode cX10_word 12 = .ok (.lconst 0, 1) := by decide +kernel
theorem dX10_word_13 : decode cX10_word 13 = .ok (.lstore_n 1, 1) := by decide +kernel
theorem dX10_word_14 : decode cX10_word 14 = .ok (.aload_n 0, 1) := by decide +kernel
theorem dX10_word_15 : decode cX10_word 15 = .ok (.getfield 166, 3) := by decide +kernel
theorem dX10_word_18 : decode cX10_word 18 = .ok (.aload_n 0, 1) := by decide +kernel
theorem dX10_word_19 : decode cX10_word 19 = .ok (.getfield 160, 3) := by decide +kernel
theorem dX10_word_22 : decode cX10_word 22 = .ok (.if_icmp .ge 78, 3) := by decide +kernel
theorem dX10_word_25 : decode cX10_word 25 = .ok (.aload_n 0, 1) := by decide +kernel
theorem dX10_word_26 : decode cX10_word 26 = .ok (.getfield 79, 3) := by decide +kernel
theorem dX10_word_29 : decode cX10_word 29 = .ok (.aload_n 0, 1) := by decide +kernel
theorem dX10_word_30 : decode cX10_word 30 = .ok (.getfield 166, 3) := by decide +kernel
theorem dX10_word_33 : decode cX10_word 33 = .ok (.baload, 1) := by decide +kernel
theorem dX10_word_34 : decode cX10_word 34 = .ok (.bipush 97, 2) := by decide +kernel
theorem dX10_word_36 : decode cX10_word 36 = .ok (.if_icmp .lt 64, 3) := by decide +kernel
theorem dX10_word_39 : decode cX10_word 39 = .ok (.aload_n 0, 1) := by decide +kernel
theorem dX10_word_40 : decode cX10_word 40 = .ok (.getfield 79, 3) := by decide +kernel
theorem dX10_word_43 : decode cX10_word 43 = .ok (.aload_n 0, 1) := by decide +kernel
theorem dX10_word_44 : decode cX10_word 44 = .ok (.getfield 166, 3) := by decide +kernel
theorem dX10_word_47 : decode cX10_word 47 = .ok (.baload, 1) := by decide +kernel
theorem dX10_word_48 : decode cX10_word 48 = .ok (.bipush 122, 2) := by decide +kernel
theorem dX10_word_50 : decode cX10_word 50 = .ok (.if_icmp .gt 50, 3) := by decide +kernel
theorem dX10_word_53 : decode cX10_word 53 = .ok (.aload_n 0, 1) := by decide +kernel
theorem dX10_word_54 : decode cX10_word 54 = .ok (.getfield 166, 3) := by decide +kernel
theorem dX10_word_57 : decode cX10_word 57 = .ok (.aload_n 0, 1) := by decide +kernel
theorem dX10_word_58 : decode cX10_word 58 = .ok (.getfield 157, 3) := by decide +kernel
theorem dX10_word_61 : decode cX10_word 61 = .ok (.isub, 1) := by decide +kernel
theorem dX10_word_62 : decode cX10_word 62 = .ok (.bipush 7, 2) := by decide +kernel
theorem dX10_word_64 : decode cX10_word 64 = .ok (.if_icmp .ge 21, 3) := by decide +kernel
theorem dX10_word_67 : decode cX10_word 67 = .ok (.lload_n 1, 1) := by decide +kernel
theorem dX10_word_68 : decode cX10_word 68 = .ok (.bipush 8, 2) := by decide +kernel
theorem dX10_word_70 : decode cX10_word 70 = .ok (.lshl, 1) := by decide +kernel
theorem dX10_word_71 : decode cX10_word 71 = .ok (.aload_n 0, 1) := by decide +kernel
theorem dX10_word_72 : decode cX10_word 72 = .ok (.getfield 79, 3) := by decide +kernel
theorem dX10_word_75 : decode cX10_word 75 = .ok (.aload_n 0, 1) := by decide +kernel
theorem dX10_word_76 : decode cX10_word 76 = .ok (.getfield 166, 3) := by decide +kernel
theorem dX10_word_79 : decode cX10_word 79 = .ok (.baload, 1) := by decide +kernel
theorem dX10_word_80 : decode cX10_word 80 = .ok (.i2l, 1) := by decide +kernel
theorem dX10_word_81 : decode cX10_word 81 = .ok (.lor, 1) := by decide +kernel
theorem dX10_word_82 : decode cX10_word 82 = .ok (.goto 4, 3) := by decide +kernel
theorem dX10_word_85 : decode cX10_word 85 = .ok (.lconst 0, 1) := by decide +kernel
theorem dX10_word_86 : decode cX10_word 86 = .ok (.lstore_n 1, 1) := by decide +kernel
theorem dX10_word_87 : decode cX10_word 87 = .ok (.aload_n 0, 1) := by decide +kernel
theorem dX10_word_88 : decode cX10_word 88 = .ok (.dup, 1) := by decide +kernel
theorem dX10_word_89 : decode cX10_word 89 = .ok (.getfield 166, 3) := by decide +kernel
theorem dX10_word_92 : decode cX10_word 92 = .ok (.iconst 1, 1) := by decide +kernel
theorem dX10_word_93 : decode cX10_word 93 = .ok (.iadd, 1) := by decide +kernel
theorem dX10_word_94 : decode cX10_word 94 = .ok (.putfield 166, 3) := by decide +kernel
theorem dX10_word_97 : decode cX10_word 97 = .ok (.goto (-83), 3) := by decide +kernel
theorem dX10_word_100 : decode cX10_word 100 = .ok (.aload_n 0, 1) := by decide +kernel
theorem dX10_word_101 : decode cX10_word 101 = .ok (.getfield 166, 3) := by decide +kernel
theorem dX10_word_104 : decode cX10_word 104 = .ok (.aload_n 0, 1) := by decide +kernel
theorem dX10_word_105 : decode cX10_word 105 = .ok (.getfield 157, 3) := by decide +kernel
theorem dX10_word_108 : decode cX10_word 108 = .ok (.isub, 1) := by decide +kernel
theorem dX10_word_109 : decode cX10_word 109 = .ok (.bipush 7, 2) := by decide +kernel
theorem dX10_word_111 : decode cX10_word 111 = .ok (.if_icmp .le 7, 3) := by decide +kernel
theorem dX10_word_114 : decode cX10_word 114 = .ok (.lconst 0, 1) := by decide +kernel
theorem dX10_word_115 : decode cX10_word 115 = .ok (.goto 4, 3) := by decide +kernel
theorem dX10_word_118 : decode cX10_word 118 = .ok (.lload_n 1, 1) := by decide +kernel
theorem dX10_word_119 : decode cX10_word 119 = .ok (.lreturn, 1) := by decide +kernel
set_option maxRecDepth 20000 in
theorem ggX10_takes_X10_word : GoodIn wsX10_takes wsX10_word := goodIn_r _ [7, 2, 1, 8, 9, 10, 11, 12, 6, 13, 14, 15, 16, 17, 18, 19, 20, 21, 22, 23, 24, 25, 26, 27, 28, 29, 30, 31, 32, 33, 34, 35, 36, 37, 38, 39, 40, 41, 42, 43, 44, 45, 46, 47, 48, 49, 50, 51, 52, 53, 54, 55, 56, 57, 58] (by decide +kernel) (by decide +kernel)
set_option maxRecDepth 20000 in
theorem gX10_takes_X10_word : GoodIn wsX10_takes (wsV RX10 169 RX10 yX10_word wsX10_word) := goodIn_app (goodIn_of _ (by decide +kernel)) ggX10_takes_X10_word
theorem dX10_takes_0 : decode cX10_takes 0 = .ok (.aload_n 0, 1) := by decide +kernel
theorem dX10_takes_1 : decode cX10_takes 1 = .ok (.invokevirtual 169, 3) := by decide +kernel
theorem dX10_takes_4 : decode cX10_takes 4 = .ok (.lload_n 1, 1) := by decide +kernel
theorem dX10_takes_5 : decode cX10_takes 5 = .ok (.lcmp, 1) := by decide +kernel
theorem dX10_takes_6 : decode cX10_takes 6 = .ok (.ifCond .eq 5, 3) := by decide +kernel
theorem dX10_takes_9 : decode cX10_takes 9 = .ok (.iconst 0, 1) := by decide +kernel
theorem dX10_takes_10 : decode cX10_takes 10 = .ok (.ireturn, 1) := by decide +kernel
theorem dX10_takes_11 : decode cX10_takes 11 = .ok (.aload_n 0, 1) := by decide +kernel
theorem dX10_takes_12 : decode cX10_takes 12 = .ok (.aload_n 0, 1) := by decide +kernel
theorem dX10_takes_13 : decode cX10_takes 13 = .ok (.getfield 166, 3) := by decide +kernel
theorem dX10_takes_16 : decode cX10_takes 16 = .ok (.putfield 157, 3) := by decide +kernel
theorem dX10_takes_19 : decode cX10_takes 19 = .ok (.iconst 1, 1) := by decide +kernel
theorem dX10_takes_20 : decode cX10_takes 20 = .ok (.ireturn, 1) := by decide +kernel
set_option maxRecDepth 20000 in
theorem ggX10_takesNumber_X10_blanks : GoodIn wsX10_takesNumber wsX10_blanks := goodIn_r _ [9, 1, 3, 4, 10, 11, 12, 13, 14, 15, 16, 17, 18, 19, 20, 21, 22, 23, 24, 25, 26, 27, 28, 29, 30, 31, 32, 33, 34, 35, 36, 37, 38, 39, 40, 41, 42, 43, 44, 45, 46, 47, 48, 49, 50, 51, 52, 53, 54] (by decide +kernel) (by decide +kernel)
set_option maxRecDepth 20000 in
theorem gX10_takesNumber_X10_blanks : GoodIn wsX10_takesNumber (wsV RX10 163 RX10 yX10_blanks wsX10_blanks) := goodIn_app (goodIn_of _ (by decide +kernel)) ggX10_takesNumber_X10_blanks
theorem dX10_takesNumber_0 : decode cX10_takesNumber 0 = .ok (.aload_n 0, 1) := by decide +kernel
theorem dX10_takesNumber_1 : decode cX10_takesNumber 1 = .ok (.invokevirtual 163, 3) := by decide +kernel
theorem dX10_takesNumber_4 : decode cX10_takesNumber 4 = .ok (.aload_n 0, 1) := by decide +kernel
theorem dX10_takesNumber_5 : decode cX10_takesNumber 5 = .ok (.getfield 157, 3) := by decide +kernel
theorem dX10_takesNumber_8 : decode cX10_takesNumber 8 = .ok (.istore_n 1, 1) := by decide +kernel
theorem dX10_takesNumber_9 : decode cX10_takesNumber 9 = .ok (.aload_n 0, 1) := by decide +kernel
theorem dX10_takesNumber_10 : decode cX10_takesNumber 10 = .ok (.iconst 0, 1) := by decide +kernel
theorem dX10_takesNumber_11 : decode cX10_takesNumber 11 = .ok (.putfield 173, 3) := by decide +kernel
theorem dX10_takesNumber_14 : decode cX10_takesNumber 14 = .ok (.iload_n 1, 1) := by decide +kernel
theorem dX10_takesNumber_15 : decode cX10_takesNumber 15 = .ok (.aload_n 0, 1) := by decide +kernel
theorem dX10_takesNumber_16 : decode cX10_takesNumber 16 = .ok (.getfield 160, 3) := by decide +kernel
theorem dX10_takesNumber_19 : decode cX10_takesNumber 19 = .ok (.if_icmp .ge 62, 3) := by decide +kernel
theorem dX10_takesNumber_22 : decode cX10_takesNumber 22 = .ok (.aload_n 0, 1) := by decide +kernel
theorem dX10_takesNumber_23 : decode cX10_takesNumber 23 = .ok (.getfield 79, 3) := by decide +kernel
theorem dX10_takesNumber_26 : decode cX10_takesNumber 26 = .ok (.iload_n 1, 1) := by decide +kernel
theorem dX10_takesNumber_27 : decode cX10_takesNumber 27 = .ok (.baload, 1) := by decide +kernel
theorem dX10_takesNumber_28 : decode cX10_takesNumber 28 = .ok (.bipush 48, 2) := by decide +kernel
theorem dX10_takesNumber_30 : decode cX10_takesNumber 30 = .ok (.if_icmp .lt 51, 3) := by decide +kernel
theorem dX10_takesNumber_33 : decode cX10_takesNumber 33 = .ok (.aload_n 0, 1) := by decide +kernel
theorem dX10_takesNumber_34 : decode cX10_takesNumber 34 = .ok (.getfield 79, 3) := by decide +kernel
theorem dX10_takesNumber_37 : decode cX10_takesNumber 37 = .ok (.iload_n 1, 1) := by decide +kernel
theorem dX10_takesNumber_38 : decode cX10_takesNumber 38 = .ok (.baload, 1) := by decide +kernel
theorem dX10_takesNumber_39 : decode cX10_takesNumber 39 = .ok (.bipush 57, 2) := by decide +kernel
theorem dX10_takesNumber_41 : decode cX10_takesNumber 41 = .ok (.if_icmp .gt 40, 3) := by decide +kernel
theorem dX10_takesNumber_44 : decode cX10_takesNumber 44 = .ok (.iload_n 1, 1) := by decide +kernel
theorem dX10_takesNumber_45 : decode cX10_takesNumber 45 = .ok (.aload_n 0, 1) := by decide +kernel
theorem dX10_takesNumber_46 : decode cX10_takesNumber 46 = .ok (.getfield 157, 3) := by decide +kernel
theorem dX10_takesNumber_49 : decode cX10_takesNumber 49 = .ok (.isub, 1) := by decide +kernel
theorem dX10_takesNumber_50 : decode cX10_takesNumber 50 = .ok (.iconst 3, 1) := by decide +kernel
theorem dX10_takesNumber_51 : decode cX10_takesNumber 51 = .ok (.if_icmp .ge 24, 3) := by decide +kernel
theorem dX10_takesNumber_54 : decode cX10_takesNumber 54 = .ok (.aload_n 0, 1) := by decide +kernel
theorem dX10_takesNumber_55 : decode cX10_takesNumber 55 = .ok (.bipush 10, 2) := by decide +kernel
theorem dX10_takesNumber_57 : decode cX10_takesNumber 57 = .ok (.aload_n 0, 1) := by decide +kernel
theorem dX10_takesNumber_58 : decode cX10_takesNumber 58 = .ok (.getfield 173, 3) := by decide +kernel
theorem dX10_takesNumber_61 : decode cX10_takesNumber 61 = .ok (.imul, 1) := by decide +kernel
theorem dX10_takesNumber_62 : decode cX10_takesNumber 62 = .ok (.aload_n 0, 1) := by decide +kernel
theorem dX10_takesNumber_63 : decode cX10_takesNumber 63 = .ok (.getfield 79, 3) := by decide +kernel
theorem dX10_takesNumber_66 : decode cX10_takesNumber 66 = .ok (.iload_n 1, 1) := by decide +kernel
theorem dX10_takesNumber_67 : decode cX10_takesNumber 67 = .ok (.baload, 1) := by decide +kernel
theorem dX10_takesNumber_68 : decode cX10_takesNumber 68 = .ok (.iadd, 1) := by decide +kernel
theorem dX10_takesNumber_69 : decode cX10_takesNumber 69 = .ok (.bipush 48, 2) := by decide +kernel
theorem dX10_takesNumber_71 : decode cX10_takesNumber 71 = .ok (.isub, 1) := by decide +kernel
theorem dX10_takesNumber_72 : decode cX10_takesNumber 72 = .ok (.putfield 173, 3) := by decide +kernel
theorem dX10_takesNumber_75 : decode cX10_takesNumber 75 = .ok (.iinc 1 1, 3) := by decide +kernel
theorem dX10_takesNumber_78 : decode cX10_takesNumber 78 = .ok (.goto (-64), 3) := by decide +kernel
theorem dX10_takesNumber_81 : decode cX10_takesNumber 81 = .ok (.iload_n 1, 1) := by decide +kernel
theorem dX10_takesNumber_82 : decode cX10_takesNumber 82 = .ok (.aload_n 0, 1) := by decide +kernel
theorem dX10_takesNumber_83 : decode cX10_takesNumber 83 = .ok (.getfield 157, 3) := by decide +kernel
theorem dX10_takesNumber_86 : decode cX10_takesNumber 86 = .ok (.if_icmp .eq 13, 3) := by decide +kernel
theorem dX10_takesNumber_89 : decode cX10_takesNumber 89 = .ok (.iload_n 1, 1) := by decide +kernel
theorem dX10_takesNumber_90 : decode cX10_takesNumber 90 = .ok (.aload_n 0, 1) := by decide +kernel
theorem dX10_takesNumber_91 : decode cX10_takesNumber 91 = .ok (.getfield 157, 3) := by decide +kernel
theorem dX10_takesNumber_94 : decode cX10_takesNumber 94 = .ok (.isub, 1) := by decide +kernel
theorem dX10_takesNumber_95 : decode cX10_takesNumber 95 = .ok (.iconst 3, 1) := by decide +kernel
theorem dX10_takesNumber_96 : decode cX10_takesNumber 96 = .ok (.if_icmp .le 5, 3) := by decide +kernel
theorem dX10_takesNumber_99 : decode cX10_takesNumber 99 = .ok (.iconst 0, 1) := by decide +kernel
theorem dX10_takesNumber_100 : decode cX10_takesNumber 100 = .ok (.ireturn, 1) := by decide +kernel
theorem dX10_takesNumber_101 : decode cX10_takesNumber 101 = .ok (.aload_n 0, 1) := by decide +kernel
theorem dX10_takesNumber_102 : decode cX10_takesNumber 102 = .ok (.iload_n 1, 1) := by decide +kernel
theorem dX10_takesNumber_103 : decode cX10_takesNumber 103 = .ok (.putfield 157, 3) := by decide +kernel
theorem dX10_takesNumber_106 : decode cX10_takesNumber 106 = .ok (.iconst 1, 1) := by decide +kernel
theorem dX10_takesNumber_107 : decode cX10_takesNumber 107 = .ok (.ireturn, 1) := by decide +kernel
set_option maxRecDepth 20000 in
theorem ggX10_statement_X10_takes : GoodIn wsX10_statement wsX10_takes := goodIn_r _ [21, 22, 14, 23, 24, 25, 20, 26, 15, 16, 27, 28, 29, 30, 35, 36, 37, 38, 39, 40, 41, 42, 43, 44, 45, 46, 47, 48, 49, 50, 51, 52, 53, 54, 55, 56, 57, 58, 59, 60, 61, 62, 63, 64, 65, 66, 67, 68, 69, 70, 71, 72, 73, 74, 75, 76, 77, 78, 79] (by decide +kernel) (by decide +kernel)
set_option maxRecDepth 20000 in
theorem gX10_statement_X10_takes : GoodIn wsX10_statement (wsV RX10 178 RX10 yX10_takes wsX10_takes) := goodIn_app (goodIn_of _ (by decide +kernel)) ggX10_statement_X10_takes
set_option maxRecDepth 20000 in
theorem ggX10_statement_X10_takesNumber : GoodIn wsX10_statement wsX10_takesNumber := goodIn_r _ [34, 14, 12, 15, 16, 27, 28, 29, 20, 30, 35, 36, 37, 38, 39, 40, 41, 42, 43, 44, 45, 46, 47, 48, 49, 50, 51, 52, 53, 54, 55, 56, 57, 58, 59, 60, 61, 62, 63, 64, 65, 66, 67, 68, 69, 70, 71, 72, 73, 74, 75, 76, 77, 78, 79] (by decide +kernel) (by decide +kernel)
set_option maxRecDepth 20000 in
theorem gX10_statement_X10_takesNumber : GoodIn wsX10_statement (wsV RX10 196 RX10 yX10_takesNumber wsX10_takesNumber) := goodIn_app (goodIn_of _ (by decide +kernel)) ggX10_statement_X10_takesNumber
set_option maxRecDepth 20000 in
theorem ggX10_statement_X10_blanks : GoodIn wsX10_statement wsX10_blanks := goodIn_r _ [30, 14, 15, 16, 35, 36, 37, 38, 39, 40, 41, 42, 43, 44, 45, 46, 47, 48, 49, 50, 51, 52, 53, 54, 55, 56, 57, 58, 59, 60, 61, 62, 63, 64, 65, 66, 67, 68, 69, 70, 71, 72, 73, 74, 75, 76, 77, 78, 79] (by decide +kernel) (by decide +kernel)
set_option maxRecDepth 20000 in
theorem gX10_statement_X10_blanks : GoodIn wsX10_statement (wsV RX10 163 RX10 yX10_blanks wsX10_blanks) := goodIn_app (goodIn_of _ (by decide +kernel)) ggX10_statement_X10_blanks
theorem dX10_statement_0 : decode cX10_statement 0 = .ok (.aload_n 0, 1) := by decide +kernel
theorem dX10_statement_1 : decode cX10_statement 1 = .ok (.getfield 94, 3) := by decide +kernel
theorem dX10_statement_4 : decode cX10_statement 4 = .ok (.iload_n 1, 1) := by decide +kernel
theorem dX10_statement_5 : decode cX10_statement 5 = .ok (.iconst 0, 1) := by decide +kernel
theorem dX10_statement_6 : decode cX10_statement 6 = .ok (.iastore, 1) := by decide +kernel
theorem dX10_statement_7 : decode cX10_statement 7 = .ok (.aload_n 0, 1) := by decide +kernel
theorem dX10_statement_8 : decode cX10_statement 8 = .ok (.ldc2_w 176, 3) := by decide +kernel
theorem dX10_statement_11 : decode cX10_statement 11 = .ok (.invokevirtual 178, 3) := by decide +kernel
theorem dX10_statement_14 : decode cX10_statement 14 = .ok (.ifCond .eq 71, 3) := by decide +kernel
theorem dX10_statement_17 : decode cX10_statement 17 = .ok (.aload_n 0, 1) := by decide +kernel
theorem dX10_statement_18 : decode cX10_statement 18 = .ok (.getfield 91, 3) := by decide +kernel
theorem dX10_statement_21 : decode cX10_statement 21 = .ok (.iload_n 1, 1) := by decide +kernel
theorem dX10_statement_22 : decode cX10_statement 22 = .ok (.iconst 0, 1) := by decide +kernel
theorem dX10_statement_23 : decode cX10_statement 23 = .ok (.iastore, 1) := by decide +kernel
theorem dX10_statement_24 : decode cX10_statement 24 = .ok (.aload_n 0, 1) := by decide +kernel
theorem dX10_statement_25 : decode cX10_statement 25 = .ok (.getfield 97, 3) := by decide +kernel
theorem dX10_statement_28 : decode cX10_statement 28 = .ok (.iload_n 1, 1) := by decide +kernel
theorem dX10_statement_29 : decode cX10_statement 29 = .ok (.aload_n 0, 1) := by decide +kernel
theorem dX10_statement_30 : decode cX10_statement 30 = .ok (.ldc2_w 182, 3) := by decide +kernel
theorem dX10_statement_33 : decode cX10_statement 33 = .ok (.invokevirtual 178, 3) := by decide +kernel
theorem dX10_statement_36 : decode cX10_statement 36 = .ok (.ifCond .eq 7, 3) := by decide +kernel
theorem dX10_statement_39 : decode cX10_statement 39 = .ok (.iconst 0, 1) := by decide +kernel
theorem dX10_statement_40 : decode cX10_statement 40 = .ok (.goto 32, 3) := by decide +kernel
theorem dX10_statement_43 : decode cX10_statement 43 = .ok (.aload_n 0, 1) := by decide +kernel
theorem dX10_statement_44 : decode cX10_statement 44 = .ok (.ldc2_w 184, 3) := by decide +kernel
theorem dX10_statement_47 : decode cX10_statement 47 = .ok (.invokevirtual 178, 3) := by decide +kernel
theorem dX10_statement_50 : decode cX10_statement 50 = .ok (.ifCond .eq 7, 3) := by decide +kernel
theorem dX10_statement_53 : decode cX10_statement 53 = .ok (.iconst 1, 1) := by decide +kernel
theorem dX10_statement_54 : decode cX10_statement 54 = .ok (.goto 18, 3) := by decide +kernel
theorem dX10_statement_57 : decode cX10_statement 57 = .ok (.aload_n 0, 1) := by decide +kernel
theorem dX10_statement_58 : decode cX10_statement 58 = .ok (.ldc2_w 186, 3) := by decide +kernel
theorem dX10_statement_61 : decode cX10_statement 61 = .ok (.invokevirtual 178, 3) := by decide +kernel
theorem dX10_statement_64 : decode cX10_statement 64 = .ok (.ifCond .eq 7, 3) := by decide +kernel
theorem dX10_statement_67 : decode cX10_statement 67 = .ok (.iconst 2, 1) := by decide +kernel
theorem dX10_statement_68 : decode cX10_statement 68 = .ok (.goto 4, 3) := by decide +kernel
theorem dX10_statement_71 : decode cX10_statement 71 = .ok (.iconst (-1), 1) := by decide +kernel
theorem dX10_statement_72 : decode cX10_statement 72 = .ok (.iastore, 1) := by decide +kernel
theorem dX10_statement_73 : decode cX10_statement 73 = .ok (.aload_n 0, 1) := by decide +kernel
theorem dX10_statement_74 : decode cX10_statement 74 = .ok (.getfield 97, 3) := by decide +kernel
theorem dX10_statement_77 : decode cX10_statement 77 = .ok (.iload_n 1, 1) := by decide +kernel
theorem dX10_statement_78 : decode cX10_statement 78 = .ok (.iaload, 1) := by decide +kernel
theorem dX10_statement_79 : decode cX10_statement 79 = .ok (.iconst (-1), 1) := by decide +kernel
theorem dX10_statement_80 : decode cX10_statement 80 = .ok (.if_icmp .ne 150, 3) := by decide +kernel
theorem dX10_statement_83 : decode cX10_statement 83 = .ok (.iconst 0, 1) := by decide +kernel
theorem dX10_statement_84 : decode cX10_statement 84 = .ok (.ireturn, 1) := by decide +kernel
theorem dX10_statement_85 : decode cX10_statement 85 = .ok (.aload_n 0, 1) := by decide +kernel
theorem dX10_statement_86 : decode cX10_statement 86 = .ok (.getfield 91, 3) := by decide +kernel
theorem dX10_statement_89 : decode cX10_statement 89 = .ok (.iload_n 1, 1) := by decide +kernel
theorem dX10_statement_90 : decode cX10_statement 90 = .ok (.aload_n 0, 1) := by decide +kernel
theorem dX10_statement_91 : decode cX10_statement 91 = .ok (.ldc2_w 188, 3) := by decide +kernel
theorem dX10_statement_94 : decode cX10_statement 94 = .ok (.invokevirtual 178, 3) := by decide +kernel
theorem dX10_statement_97 : decode cX10_statement 97 = .ok (.ifCond .eq 7, 3) := by decide +kernel
theorem dX10_statement_100 : decode cX10_statement 100 = .ok (.iconst 1, 1) := by decide +kernel
theorem dX10_statement_101 : decode cX10_statement 101 = .ok (.goto 46, 3) := by decide +kernel
theorem dX10_statement_104 : decode cX10_statement 104 = .ok (.aload_n 0, 1) := by decide +kernel
theorem dX10_statement_105 : decode cX10_statement 105 = .ok (.ldc2_w 190, 3) := by decide +kernel
theorem dX10_statement_108 : decode cX10_statement 108 = .ok (.invokevirtual 178, 3) := by decide +kernel
theorem dX10_statement_111 : decode cX10_statement 111 = .ok (.ifCond .eq 7, 3) := by decide +kernel
theorem dX10_statement_114 : decode cX10_statement 114 = .ok (.iconst 2, 1) := by decide +kernel
theorem dX10_statement_115 : decode cX10_statement 115 = .ok (.goto 32, 3) := by decide +kernel
theorem dX10_statement_118 : decode cX10_statement 118 = .ok (.aload_n 0, 1) := by decide +kernel
theorem dX10_statement_119 : decode cX10_statement 119 = .ok (.ldc2_w 192, 3) := by decide +kernel
theorem dX10_statement_122 : decode cX10_statement 122 = .ok (.invokevirtual 178, 3) := by decide +kernel
theorem dX10_statement_125 : decode cX10_statement 125 = .ok (.ifCond .eq 7, 3) := by decide +kernel
theorem dX10_statement_128 : decode cX10_statement 128 = .ok (.iconst 3, 1) := by decide +kernel
theorem dX10_statement_129 : decode cX10_statement 129 = .ok (.goto 18, 3) := by decide +kernel
theorem dX10_statement_132 : decode cX10_statement 132 = .ok (.aload_n 0, 1) := by decide +kernel
theorem dX10_statement_133 : decode cX10_statement 133 = .ok (.ldc2_w 194, 3) := by decide +kernel
theorem dX10_statement_136 : decode cX10_statement 136 = .ok (.invokevirtual 178, 3) := by decide +kernel
theorem dX10_statement_139 : decode cX10_statement 139 = .ok (.ifCond .eq 7, 3) := by decide +kernel
theorem dX10_statement_142 : decode cX10_statement 142 = .ok (.iconst 4, 1) := by decide +kernel
theorem dX10_statement_143 : decode cX10_statement 143 = .ok (.goto 4, 3) := by decide +kernel
theorem dX10_statement_146 : decode cX10_statement 146 = .ok (.iconst (-1), 1) := by decide +kernel
theorem dX10_statement_147 : decode cX10_statement 147 = .ok (.iastore, 1) := by decide +kernel
theorem dX10_statement_148 : decode cX10_statement 148 = .ok (.aload_n 0, 1) := by decide +kernel
theorem dX10_statement_149 : decode cX10_statement 149 = .ok (.getfield 91, 3) := by decide +kernel
theorem dX10_statement_152 : decode cX10_statement 152 = .ok (.iload_n 1, 1) := by decide +kernel
theorem dX10_statement_153 : decode cX10_statement 153 = .ok (.iaload, 1) := by decide +kernel
theorem dX10_statement_154 : decode cX10_statement 154 = .ok (.iconst (-1), 1) := by decide +kernel
theorem dX10_statement_155 : decode cX10_statement 155 = .ok (.if_icmp .eq 10, 3) := by decide +kernel
theorem dX10_statement_158 : decode cX10_statement 158 = .ok (.aload_n 0, 1) := by decide +kernel
theorem dX10_statement_159 : decode cX10_statement 159 = .ok (.invokevirtual 196, 3) := by decide +kernel
theorem dX10_statement_162 : decode cX10_statement 162 = .ok (.ifCond .ne 5, 3) := by decide +kernel
theorem dX10_statement_165 : decode cX10_statement 165 = .ok (.iconst 0, 1) := by decide +kernel
theorem dX10_statement_166 : decode cX10_statement 166 = .ok (.ireturn, 1) := by decide +kernel
theorem dX10_statement_167 : decode cX10_statement 167 = .ok (.aload_n 0, 1) := by decide +kernel
theorem dX10_statement_168 : decode cX10_statement 168 = .ok (.getfield 94, 3) := by decide +kernel
theorem dX10_statement_171 : decode cX10_statement 171 = .ok (.iload_n 1, 1) := by decide +kernel
theorem dX10_statement_172 : decode cX10_statement 172 = .ok (.aload_n 0, 1) := by decide +kernel
theorem dX10_statement_173 : decode cX10_statement 173 = .ok (.getfield 91, 3) := by decide +kernel
theorem dX10_statement_176 : decode cX10_statement 176 = .ok (.iload_n 1, 1) := by decide +kernel
theorem dX10_statement_177 : decode cX10_statement 177 = .ok (.iaload, 1) := by decide +kernel
theorem dX10_statement_178 : decode cX10_statement 178 = .ok (.iconst 1, 1) := by decide +kernel
theorem dX10_statement_179 : decode cX10_statement 179 = .ok (.if_icmp .ne 10, 3) := by decide +kernel
theorem dX10_statement_182 : decode cX10_statement 182 = .ok (.aload_n 0, 1) := by decide +kernel
theorem dX10_statement_183 : decode cX10_statement 183 = .ok (.getfield 173, 3) := by decide +kernel
theorem dX10_statement_186 : decode cX10_statement 186 = .ok (.goto 4, 3) := by decide +kernel
theorem dX10_statement_189 : decode cX10_statement 189 = .ok (.iconst 0, 1) := by decide +kernel
theorem dX10_statement_190 : decode cX10_statement 190 = .ok (.iastore, 1) := by decide +kernel
theorem dX10_statement_191 : decode cX10_statement 191 = .ok (.aload_n 0, 1) := by decide +kernel
theorem dX10_statement_192 : decode cX10_statement 192 = .ok (.getfield 91, 3) := by decide +kernel
theorem dX10_statement_195 : decode cX10_statement 195 = .ok (.iload_n 1, 1) := by decide +kernel
theorem dX10_statement_196 : decode cX10_statement 196 = .ok (.iaload, 1) := by decide +kernel
theorem dX10_statement_197 : decode cX10_statement 197 = .ok (.iconst 1, 1) := by decide +kernel
theorem dX10_statement_198 : decode cX10_statement 198 = .ok (.if_icmp .ne 22, 3) := by decide +kernel
theorem dX10_statement_201 : decode cX10_statement 201 = .ok (.aload_n 0, 1) := by decide +kernel
theorem dX10_statement_202 : decode cX10_statement 202 = .ok (.ldc2_w 200, 3) := by decide +kernel
theorem dX10_statement_205 : decode cX10_statement 205 = .ok (.invokevirtual 178, 3) := by decide +kernel
theorem dX10_statement_208 : decode cX10_statement 208 = .ok (.ifCond .eq 10, 3) := by decide +kernel
theorem dX10_statement_211 : decode cX10_statement 211 = .ok (.aload_n 0, 1) := by decide +kernel
theorem dX10_statement_212 : decode cX10_statement 212 = .ok (.invokevirtual 196, 3) := by decide +kernel
theorem dX10_statement_215 : decode cX10_statement 215 = .ok (.ifCond .ne 5, 3) := by decide +kernel
theorem dX10_statement_218 : decode cX10_statement 218 = .ok (.iconst 0, 1) := by decide +kernel
theorem dX10_statement_219 : decode cX10_statement 219 = .ok (.ireturn, 1) := by decide +kernel
theorem dX10_statement_220 : decode cX10_statement 220 = .ok (.aload_n 0, 1) := by decide +kernel
theorem dX10_statement_221 : decode cX10_statement 221 = .ok (.getfield 97, 3) := by decide +kernel
theorem dX10_statement_224 : decode cX10_statement 224 = .ok (.iload_n 1, 1) := by decide +kernel
theorem dX10_statement_225 : decode cX10_statement 225 = .ok (.aload_n 0, 1) := by decide +kernel
theorem dX10_statement_226 : decode cX10_statement 226 = .ok (.getfield 173, 3) := by decide +kernel
theorem dX10_statement_229 : decode cX10_statement 229 = .ok (.iastore, 1) := by decide +kernel
theorem dX10_statement_230 : decode cX10_statement 230 = .ok (.aload_n 0, 1) := by decide +kernel
theorem dX10_statement_231 : decode cX10_statement 231 = .ok (.invokevirtual 163, 3) := by decide +kernel
theorem dX10_statement_234 : decode cX10_statement 234 = .ok (.aload_n 0, 1) := by decide +kernel
theorem dX10_statement_235 : decode cX10_statement 235 = .ok (.getfield 157, 3) := by decide +kernel
theorem dX10_statement_238 : decode cX10_statement 238 = .ok (.aload_n 0, 1) := by decide +kernel
theorem dX10_statement_239 : decode cX10_statement 239 = .ok (.getfield 160, 3) := by decide +kernel
theorem dX10_statement_242 : decode cX10_statement 242 = .ok (.if_icmp .eq 17, 3) := by decide +kernel
theorem dX10_statement_245 : decode cX10_statement 245 = .ok (.aload_n 0, 1) := by decide +kernel
theorem dX10_statement_246 : decode cX10_statement 246 = .ok (.getfield 79, 3) := by decide +kernel
theorem dX10_statement_249 : decode cX10_statement 249 = .ok (.aload_n 0, 1) := by decide +kernel
theorem dX10_statement_250 : decode cX10_statement 250 = .ok (.getfield 157, 3) := by decide +kernel
theorem dX10_statement_253 : decode cX10_statement 253 = .ok (.baload, 1) := by decide +kernel
theorem dX10_statement_254 : decode cX10_statement 254 = .ok (.bipush 59, 2) := by decide +kernel
theorem dX10_statement_256 : decode cX10_statement 256 = .ok (.if_icmp .eq 5, 3) := by decide +kernel
theorem dX10_statement_259 : decode cX10_statement 259 = .ok (.iconst 0, 1) := by decide +kernel
theorem dX10_statement_260 : decode cX10_statement 260 = .ok (.ireturn, 1) := by decide +kernel
theorem dX10_statement_261 : decode cX10_statement 261 = .ok (.aload_n 0, 1) := by decide +kernel
theorem dX10_statement_262 : decode cX10_statement 262 = .ok (.dup, 1) := by decide +kernel
theorem dX10_statement_263 : decode cX10_statement 263 = .ok (.getfield 157, 3) := by decide +kernel
theorem dX10_statement_266 : decode cX10_statement 266 = .ok (.iconst 1, 1) := by decide +kernel
theorem dX10_statement_267 : decode cX10_statement 267 = .ok (.iadd, 1) := by decide +kernel
theorem dX10_statement_268 : decode cX10_statement 268 = .ok (.putfield 157, 3) := by decide +kernel
theorem dX10_statement_271 : decode cX10_statement 271 = .ok (.iconst 1, 1) := by decide +kernel
theorem dX10_statement_272 : decode cX10_statement 272 = .ok (.ireturn, 1) := by decide +kernel
set_option maxRecDepth 20000 in
theorem ggX10_statute_X10_isIn : GoodIn wsX10_statute wsX10_isIn := goodIn_r _ [14] (by decide +kernel) (by decide +kernel)
set_option maxRecDepth 20000 in
theorem gX10_statute_X10_isIn : GoodIn wsX10_statute (va_wsS RX10 124 yX10_isIn wsX10_isIn) := goodIn_app (goodIn_of _ (by decide +kernel)) ggX10_statute_X10_isIn
set_option maxRecDepth 20000 in
theorem ggX10_statute_X10_blanks : GoodIn wsX10_statute wsX10_blanks := goodIn_r _ [18, 6, 5, 3, 49, 50, 51, 52, 53, 54, 55, 56, 57, 58, 59, 60, 61, 62, 63, 64, 65, 66, 67, 68, 69, 70, 71, 72, 73, 74, 75, 76, 77, 78, 79, 80, 81, 82, 83, 84, 85, 86, 87, 88, 89, 90, 91, 92, 93] (by decide +kernel) (by decide +kernel)
set_option maxRecDepth 20000 in
theorem gX10_statute_X10_blanks : GoodIn wsX10_statute (wsV RX10 163 RX10 yX10_blanks wsX10_blanks) := goodIn_app (goodIn_of _ (by decide +kernel)) ggX10_statute_X10_blanks
set_option maxRecDepth 20000 in
theorem ggX10_statute_X10_statement : GoodIn wsX10_statute wsX10_statement := goodIn_r _ [22, 23, 24, 25, 26, 27, 28, 29, 30, 31, 32, 33, 34, 35, 6, 5, 3, 36, 37, 38, 13, 39, 40, 41, 42, 43, 44, 15, 16, 17, 18, 45, 46, 47, 48, 49, 50, 51, 52, 53, 54, 55, 56, 57, 58, 59, 60, 61, 62, 63, 64, 65, 66, 67, 68, 69, 70, 71, 72, 73, 74, 75, 76, 77, 78, 79, 80, 81, 82, 83, 84, 85, 86, 87, 88, 89, 90, 91, 92, 93] (by decide +kernel) (by decide +kernel)
set_option maxRecDepth 20000 in
theorem gX10_statute_X10_statement : GoodIn wsX10_statute (wsV RX10 205 RX10 yX10_statement wsX10_statement) := goodIn_app (goodIn_of _ (by decide +kernel)) ggX10_statute_X10_statement
theorem dX10_statute_0 : decode cX10_statute 0 = .ok (.iload_n 1, 1) := by decide +kernel
theorem dX10_statute_1 : decode cX10_statute 1 = .ok (.iconst 0, 1) := by decide +kernel
theorem dX10_statute_2 : decode cX10_statute 2 = .ok (.aload_n 0, 1) := by decide +kernel
theorem dX10_statute_3 : decode cX10_statute 3 = .ok (.getfield 150, 3) := by decide +kernel
theorem dX10_statute_6 : decode cX10_statute 6 = .ok (.invokestatic 124, 3) := by decide +kernel
theorem dX10_statute_9 : decode cX10_statute 9 = .ok (.ifCond .ne 6, 3) := by decide +kernel
theorem dX10_statute_12 : decode cX10_statute 12 = .ok (.bipush (-2), 2) := by decide +kernel
theorem dX10_statute_14 : decode cX10_statute 14 = .ok (.ireturn, 1) := by decide +kernel
theorem dX10_statute_15 : decode cX10_statute 15 = .ok (.aload_n 0, 1) := by decide +kernel
theorem dX10_statute_16 : decode cX10_statute 16 = .ok (.getfield 202, 3) := by decide +kernel
theorem dX10_statute_19 : decode cX10_statute 19 = .ok (.bipush 10, 2) := by decide +kernel
theorem dX10_statute_21 : decode cX10_statute 21 = .ok (.if_icmp .ne 6, 3) := by decide +kernel
theorem dX10_statute_24 : decode cX10_statute 24 = .ok (.bipush (-3), 2) := by decide +kernel
theorem dX10_statute_26 : decode cX10_statute 26 = .ok (.ireturn, 1) := by decide +kernel
theorem dX10_statute_27 : decode cX10_statute 27 = .ok (.iconst 0, 1) := by decide +kernel
theorem dX10_statute_28 : decode cX10_statute 28 = .ok (.istore_n 2, 1) := by decide +kernel
theorem dX10_statute_29 : decode cX10_statute 29 = .ok (.iload_n 2, 1) := by decide +kernel
theorem dX10_statute_30 : decode cX10_statute 30 = .ok (.iload_n 1, 1) := by decide +kernel
theorem dX10_statute_31 : decode cX10_statute 31 = .ok (.if_icmp .ge 21, 3) := by decide +kernel
theorem dX10_statute_34 : decode cX10_statute 34 = .ok (.aload_n 0, 1) := by decide +kernel
theorem dX10_statute_35 : decode cX10_statute 35 = .ok (.getfield 79, 3) := by decide +kernel
theorem dX10_statute_38 : decode cX10_statute 38 = .ok (.iload_n 2, 1) := by decide +kernel
theorem dX10_statute_39 : decode cX10_statute 39 = .ok (.aload_n 0, 1) := by decide +kernel
theorem dX10_statute_40 : decode cX10_statute 40 = .ok (.getfield 75, 3) := by decide +kernel
theorem dX10_statute_43 : decode cX10_statute 43 = .ok (.iload_n 2, 1) := by decide +kernel
theorem dX10_statute_44 : decode cX10_statute 44 = .ok (.baload, 1) := by decide +kernel
theorem dX10_statute_45 : decode cX10_statute 45 = .ok (.bastore, 1) := by decide +kernel
theorem dX10_statute_46 : decode cX10_statute 46 = .ok (.iinc 2 1, 3) := by decide +kernel
theorem dX10_statute_49 : decode cX10_statute 49 = .ok (.goto (-20), 3) := by decide +kernel
theorem dX10_statute_52 : decode cX10_statute 52 = .ok (.aload_n 0, 1) := by decide +kernel
theorem dX10_statute_53 : decode cX10_statute 53 = .ok (.iload_n 1, 1) := by decide +kernel
theorem dX10_statute_54 : decode cX10_statute 54 = .ok (.putfield 160, 3) := by decide +kernel
theorem dX10_statute_57 : decode cX10_statute 57 = .ok (.aload_n 0, 1) := by decide +kernel
theorem dX10_statute_58 : decode cX10_statute 58 = .ok (.iconst 0, 1) := by decide +kernel
theorem dX10_statute_59 : decode cX10_statute 59 = .ok (.putfield 150, 3) := by decide +kernel
theorem dX10_statute_62 : decode cX10_statute 62 = .ok (.aload_n 0, 1) := by decide +kernel
theorem dX10_statute_63 : decode cX10_statute 63 = .ok (.iconst 0, 1) := by decide +kernel
theorem dX10_statute_64 : decode cX10_statute 64 = .ok (.putfield 157, 3) := by decide +kernel
theorem dX10_statute_67 : decode cX10_statute 67 = .ok (.aload_n 0, 1) := by decide +kernel
theorem dX10_statute_68 : decode cX10_statute 68 = .ok (.getfield 85, 3) := by decide +kernel
theorem dX10_statute_71 : decode cX10_statute 71 = .ok (.aload_n 0, 1) := by decide +kernel
theorem dX10_statute_72 : decode cX10_statute 72 = .ok (.getfield 202, 3) := by decide +kernel
theorem dX10_statute_75 : decode cX10_statute 75 = .ok (.iconst 0, 1) := by decide +kernel
theorem dX10_statute_76 : decode cX10_statute 76 = .ok (.iastore, 1) := by decide +kernel
theorem dX10_statute_77 : decode cX10_statute 77 = .ok (.iconst 1, 1) := by decide +kernel
theorem dX10_statute_78 : decode cX10_statute 78 = .ok (.istore_n 2, 1) := by decide +kernel
theorem dX10_statute_79 : decode cX10_statute 79 = .ok (.aload_n 0, 1) := by decide +kernel
theorem dX10_statute_80 : decode cX10_statute 80 = .ok (.invokevirtual 163, 3) := by decide +kernel
theorem dX10_statute_83 : decode cX10_statute 83 = .ok (.iload_n 2, 1) := by decide +kernel
theorem dX10_statute_84 : decode cX10_statute 84 = .ok (.ifCond .eq 85, 3) := by decide +kernel
theorem dX10_statute_87 : decode cX10_statute 87 = .ok (.aload_n 0, 1) := by decide +kernel
theorem dX10_statute_88 : decode cX10_statute 88 = .ok (.getfield 157, 3) := by decide +kernel
theorem dX10_statute_91 : decode cX10_statute 91 = .ok (.aload_n 0, 1) := by decide +kernel
theorem dX10_statute_92 : decode cX10_statute 92 = .ok (.getfield 160, 3) := by decide +kernel
theorem dX10_statute_95 : decode cX10_statute 95 = .ok (.if_icmp .ge 74, 3) := by decide +kernel
theorem dX10_statute_98 : decode cX10_statute 98 = .ok (.aload_n 0, 1) := by decide +kernel
theorem dX10_statute_99 : decode cX10_statute 99 = .ok (.getfield 85, 3) := by decide +kernel
theorem dX10_statute_102 : decode cX10_statute 102 = .ok (.aload_n 0, 1) := by decide +kernel
theorem dX10_statute_103 : decode cX10_statute 103 = .ok (.getfield 202, 3) := by decide +kernel
theorem dX10_statute_106 : decode cX10_statute 106 = .ok (.iaload, 1) := by decide +kernel
theorem dX10_statute_107 : decode cX10_statute 107 = .ok (.bipush 16, 2) := by decide +kernel
theorem dX10_statute_109 : decode cX10_statute 109 = .ok (.if_icmp .ge 31, 3) := by decide +kernel
theorem dX10_statute_112 : decode cX10_statute 112 = .ok (.aload_n 0, 1) := by decide +kernel
theorem dX10_statute_113 : decode cX10_statute 113 = .ok (.bipush 16, 2) := by decide +kernel
theorem dX10_statute_115 : decode cX10_statute 115 = .ok (.aload_n 0, 1) := by decide +kernel
theorem dX10_statute_116 : decode cX10_statute 116 = .ok (.getfield 202, 3) := by decide +kernel
theorem dX10_statute_119 : decode cX10_statute 119 = .ok (.imul, 1) := by decide +kernel
theorem dX10_statute_120 : decode cX10_statute 120 = .ok (.aload_n 0, 1) := by decide +kernel
theorem dX10_statute_121 : decode cX10_statute 121 = .ok (.getfield 85, 3) := by decide +kernel
theorem dX10_statute_124 : decode cX10_statute 124 = .ok (.aload_n 0, 1) := by decide +kernel
theorem dX10_statute_125 : decode cX10_statute 125 = .ok (.getfield 202, 3) := by decide +kernel
theorem dX10_statute_128 : decode cX10_statute 128 = .ok (.iaload, 1) := by decide +kernel
theorem dX10_statute_129 : decode cX10_statute 129 = .ok (.iadd, 1) := by decide +kernel
theorem dX10_statute_130 : decode cX10_statute 130 = .ok (.invokevirtual 205, 3) := by decide +kernel
theorem dX10_statute_133 : decode cX10_statute 133 = .ok (.ifCond .eq 7, 3) := by decide +kernel
theorem dX10_statute_136 : decode cX10_statute 136 = .ok (.iconst 1, 1) := by decide +kernel
theorem dX10_statute_137 : decode cX10_statute 137 = .ok (.goto 4, 3) := by decide +kernel
theorem dX10_statute_140 : decode cX10_statute 140 = .ok (.iconst 0, 1) := by decide +kernel
theorem dX10_statute_141 : decode cX10_statute 141 = .ok (.istore_n 2, 1) := by decide +kernel
theorem dX10_statute_142 : decode cX10_statute 142 = .ok (.iload_n 2, 1) := by decide +kernel
theorem dX10_statute_143 : decode cX10_statute 143 = .ok (.ifCond .ne 6, 3) := by decide +kernel
theorem dX10_statute_146 : decode cX10_statute 146 = .ok (.goto (-63), 3) := by decide +kernel
theorem dX10_statute_149 : decode cX10_statute 149 = .ok (.aload_n 0, 1) := by decide +kernel
theorem dX10_statute_150 : decode cX10_statute 150 = .ok (.getfield 85, 3) := by decide +kernel
theorem dX10_statute_153 : decode cX10_statute 153 = .ok (.aload_n 0, 1) := by decide +kernel
theorem dX10_statute_154 : decode cX10_statute 154 = .ok (.getfield 202, 3) := by decide +kernel
theorem dX10_statute_157 : decode cX10_statute 157 = .ok (.dup2, 1) := by decide +kernel
theorem dX10_statute_158 : decode cX10_statute 158 = .ok (.iaload, 1) := by decide +kernel
theorem dX10_statute_159 : decode cX10_statute 159 = .ok (.iconst 1, 1) := by decide +kernel
theorem dX10_statute_160 : decode cX10_statute 160 = .ok (.iadd, 1) := by decide +kernel
theorem dX10_statute_161 : decode cX10_statute 161 = .ok (.iastore, 1) := by decide +kernel
theorem dX10_statute_162 : decode cX10_statute 162 = .ok (.aload_n 0, 1) := by decide +kernel
theorem dX10_statute_163 : decode cX10_statute 163 = .ok (.invokevirtual 163, 3) := by decide +kernel
theorem dX10_statute_166 : decode cX10_statute 166 = .ok (.goto (-83), 3) := by decide +kernel
theorem dX10_statute_169 : decode cX10_statute 169 = .ok (.aload_n 0, 1) := by decide +kernel
theorem dX10_statute_170 : decode cX10_statute 170 = .ok (.iload_n 2, 1) := by decide +kernel
theorem dX10_statute_171 : decode cX10_statute 171 = .ok (.ifCond .eq 7, 3) := by decide +kernel
theorem dX10_statute_174 : decode cX10_statute 174 = .ok (.iconst (-1), 1) := by decide +kernel
theorem dX10_statute_175 : decode cX10_statute 175 = .ok (.goto 7, 3) := by decide +kernel
theorem dX10_statute_178 : decode cX10_statute 178 = .ok (.aload_n 0, 1) := by decide +kernel
theorem dX10_statute_179 : decode cX10_statute 179 = .ok (.getfield 157, 3) := by decide +kernel
theorem dX10_statute_182 : decode cX10_statute 182 = .ok (.putfield 82, 3) := by decide +kernel
theorem dX10_statute_185 : decode cX10_statute 185 = .ok (.iload_n 2, 1) := by decide +kernel
theorem dX10_statute_186 : decode cX10_statute 186 = .ok (.ifCond .ne 5, 3) := by decide +kernel
theorem dX10_statute_189 : decode cX10_statute 189 = .ok (.iconst (-1), 1) := by decide +kernel
theorem dX10_statute_190 : decode cX10_statute 190 = .ok (.ireturn, 1) := by decide +kernel
theorem dX10_statute_191 : decode cX10_statute 191 = .ok (.aload_n 0, 1) := by decide +kernel
theorem dX10_statute_192 : decode cX10_statute 192 = .ok (.getfield 88, 3) := by decide +kernel
theorem dX10_statute_195 : decode cX10_statute 195 = .ok (.aload_n 0, 1) := by decide +kernel
theorem dX10_statute_196 : decode cX10_statute 196 = .ok (.getfield 202, 3) := by decide +kernel
theorem dX10_statute_199 : decode cX10_statute 199 = .ok (.aload_n 0, 1) := by decide +kernel
theorem dX10_statute_200 : decode cX10_statute 200 = .ok (.getfield 144, 3) := by decide +kernel
theorem dX10_statute_203 : decode cX10_statute 203 = .ok (.iastore, 1) := by decide +kernel
theorem dX10_statute_204 : decode cX10_statute 204 = .ok (.aload_n 0, 1) := by decide +kernel
theorem dX10_statute_205 : decode cX10_statute 205 = .ok (.dup, 1) := by decide +kernel
theorem dX10_statute_206 : decode cX10_statute 206 = .ok (.getfield 202, 3) := by decide +kernel
theorem dX10_statute_209 : decode cX10_statute 209 = .ok (.iconst 1, 1) := by decide +kernel
theorem dX10_statute_210 : decode cX10_statute 210 = .ok (.iadd, 1) := by decide +kernel
theorem dX10_statute_211 : decode cX10_statute 211 = .ok (.putfield 202, 3) := by decide +kernel
theorem dX10_statute_214 : decode cX10_statute 214 = .ok (.aload_n 0, 1) := by decide +kernel
theorem dX10_statute_215 : decode cX10_statute 215 = .ok (.getfield 202, 3) := by decide +kernel
theorem dX10_statute_218 : decode cX10_statute 218 = .ok (.iconst 1, 1) := by decide +kernel
theorem dX10_statute_219 : decode cX10_statute 219 = .ok (.isub, 1) := by decide +kernel
theorem dX10_statute_220 : decode cX10_statute 220 = .ok (.ireturn, 1) := by decide +kernel
theorem dX10_fault_0 : decode cX10_fault 0 = .ok (.aload_n 0, 1) := by decide +kernel
theorem dX10_fault_1 : decode cX10_fault 1 = .ok (.getfield 82, 3) := by decide +kernel
theorem dX10_fault_4 : decode cX10_fault 4 = .ok (.ireturn, 1) := by decide +kernel
theorem dX10_inForce_0 : decode cX10_inForce 0 = .ok (.iconst (-1), 1) := by decide +kernel
theorem dX10_inForce_1 : decode cX10_inForce 1 = .ok (.istore_n 2, 1) := by decide +kernel
theorem dX10_inForce_2 : decode cX10_inForce 2 = .ok (.iconst 0, 1) := by decide +kernel
theorem dX10_inForce_3 : decode cX10_inForce 3 = .ok (.istore_n 3, 1) := by decide +kernel
theorem dX10_inForce_4 : decode cX10_inForce 4 = .ok (.iload_n 3, 1) := by decide +kernel
theorem dX10_inForce_5 : decode cX10_inForce 5 = .ok (.aload_n 0, 1) := by decide +kernel
theorem dX10_inForce_6 : decode cX10_inForce 6 = .ok (.getfield 202, 3) := by decide +kernel
theorem dX10_inForce_9 : decode cX10_inForce 9 = .ok (.if_icmp .ge 21, 3) := by decide +kernel
theorem dX10_inForce_12 : decode cX10_inForce 12 = .ok (.aload_n 0, 1) := by decide +kernel
theorem dX10_inForce_13 : decode cX10_inForce 13 = .ok (.getfield 88, 3) := by decide +kernel
theorem dX10_inForce_16 : decode cX10_inForce 16 = .ok (.iload_n 3, 1) := by decide +kernel
theorem dX10_inForce_17 : decode cX10_inForce 17 = .ok (.iaload, 1) := by decide +kernel
theorem dX10_inForce_18 : decode cX10_inForce 18 = .ok (.iload_n 1, 1) := by decide +kernel
theorem dX10_inForce_19 : decode cX10_inForce 19 = .ok (.if_icmp .gt 5, 3) := by decide +kernel
theorem dX10_inForce_22 : decode cX10_inForce 22 = .ok (.iload_n 3, 1) := by decide +kernel
theorem dX10_inForce_23 : decode cX10_inForce 23 = .ok (.istore_n 2, 1) := by decide +kernel
theorem dX10_inForce_24 : decode cX10_inForce 24 = .ok (.iinc 3 1, 3) := by decide +kernel
theorem dX10_inForce_27 : decode cX10_inForce 27 = .ok (.goto (-23), 3) := by decide +kernel
theorem dX10_inForce_30 : decode cX10_inForce 30 = .ok (.iload_n 2, 1) := by decide +kernel
theorem dX10_inForce_31 : decode cX10_inForce 31 = .ok (.ireturn, 1) := by decide +kernel
set_option maxRecDepth 20000 in
theorem ggX10_tells_X10_inForce : GoodIn wsX10_tells wsX10_inForce := goodIn_r _ [9, 10, 11, 12, 13, 14, 15, 16, 17, 18, 19, 20, 21, 22, 23, 24, 25, 26, 27, 28, 29, 30, 31, 32, 33, 34, 35, 36, 37, 38, 39, 40, 41, 42, 43, 44, 45, 46, 47, 48, 49, 50, 51, 52, 53, 54, 55, 56] (by decide +kernel) (by decide +kernel)
set_option maxRecDepth 20000 in
theorem gX10_tells_X10_inForce : GoodIn wsX10_tells (wsV RX10 208 RX10 yX10_inForce wsX10_inForce) := goodIn_app (goodIn_of _ (by decide +kernel)) ggX10_tells_X10_inForce
theorem dX10_tells_0 : decode cX10_tells 0 = .ok (.aload_n 0, 1) := by decide +kernel
theorem dX10_tells_1 : decode cX10_tells 1 = .ok (.iload_n 1, 1) := by decide +kernel
theorem dX10_tells_2 : decode cX10_tells 2 = .ok (.invokevirtual 208, 3) := by decide +kernel
theorem dX10_tells_5 : decode cX10_tells 5 = .ok (.istore 5, 2) := by decide +kernel
theorem dX10_tells_7 : decode cX10_tells 7 = .ok (.iload 4, 2) := by decide +kernel
theorem dX10_tells_9 : decode cX10_tells 9 = .ok (.istore 6, 2) := by decide +kernel
theorem dX10_tells_11 : decode cX10_tells 11 = .ok (.bipush 16, 2) := by decide +kernel
theorem dX10_tells_13 : decode cX10_tells 13 = .ok (.iload 5, 2) := by decide +kernel
theorem dX10_tells_15 : decode cX10_tells 15 = .ok (.imul, 1) := by decide +kernel
theorem dX10_tells_16 : decode cX10_tells 16 = .ok (.istore 7, 2) := by decide +kernel
theorem dX10_tells_18 : decode cX10_tells 18 = .ok (.iload 5, 2) := by decide +kernel
theorem dX10_tells_20 : decode cX10_tells 20 = .ok (.iconst (-1), 1) := by decide +kernel
theorem dX10_tells_21 : decode cX10_tells 21 = .ok (.if_icmp .eq 58, 3) := by decide +kernel
theorem dX10_tells_24 : decode cX10_tells 24 = .ok (.iload 7, 2) := by decide +kernel
theorem dX10_tells_26 : decode cX10_tells 26 = .ok (.bipush 16, 2) := by decide +kernel
theorem dX10_tells_28 : decode cX10_tells 28 = .ok (.iload 5, 2) := by decide +kernel
theorem dX10_tells_30 : decode cX10_tells 30 = .ok (.imul, 1) := by decide +kernel
theorem dX10_tells_31 : decode cX10_tells 31 = .ok (.aload_n 0, 1) := by decide +kernel
theorem dX10_tells_32 : decode cX10_tells 32 = .ok (.getfield 85, 3) := by decide +kernel
theorem dX10_tells_35 : decode cX10_tells 35 = .ok (.iload 5, 2) := by decide +kernel
theorem dX10_tells_37 : decode cX10_tells 37 = .ok (.iaload, 1) := by decide +kernel
theorem dX10_tells_38 : decode cX10_tells 38 = .ok (.iadd, 1) := by decide +kernel
theorem dX10_tells_39 : decode cX10_tells 39 = .ok (.if_icmp .ge 40, 3) := by decide +kernel
theorem dX10_tells_42 : decode cX10_tells 42 = .ok (.aload_n 0, 1) := by decide +kernel
theorem dX10_tells_43 : decode cX10_tells 43 = .ok (.getfield 91, 3) := by decide +kernel
theorem dX10_tells_46 : decode cX10_tells 46 = .ok (.iload 7, 2) := by decide +kernel
theorem dX10_tells_48 : decode cX10_tells 48 = .ok (.iaload, 1) := by decide +kernel
theorem dX10_tells_49 : decode cX10_tells 49 = .ok (.iload_n 2, 1) := by decide +kernel
theorem dX10_tells_50 : decode cX10_tells 50 = .ok (.if_icmp .ne 23, 3) := by decide +kernel
theorem dX10_tells_53 : decode cX10_tells 53 = .ok (.aload_n 0, 1) := by decide +kernel
theorem dX10_tells_54 : decode cX10_tells 54 = .ok (.getfield 94, 3) := by decide +kernel
theorem dX10_tells_57 : decode cX10_tells 57 = .ok (.iload 7, 2) := by decide +kernel
theorem dX10_tells_59 : decode cX10_tells 59 = .ok (.iaload, 1) := by decide +kernel
theorem dX10_tells_60 : decode cX10_tells 60 = .ok (.iload_n 3, 1) := by decide +kernel
theorem dX10_tells_61 : decode cX10_tells 61 = .ok (.if_icmp .ne 12, 3) := by decide +kernel
theorem dX10_tells_64 : decode cX10_tells 64 = .ok (.aload_n 0, 1) := by decide +kernel
theorem dX10_tells_65 : decode cX10_tells 65 = .ok (.getfield 97, 3) := by decide +kernel
theorem dX10_tells_68 : decode cX10_tells 68 = .ok (.iload 7, 2) := by decide +kernel
theorem dX10_tells_70 : decode cX10_tells 70 = .ok (.iaload, 1) := by decide +kernel
theorem dX10_tells_71 : decode cX10_tells 71 = .ok (.istore 6, 2) := by decide +kernel
theorem dX10_tells_73 : decode cX10_tells 73 = .ok (.iinc 7 1, 3) := by decide +kernel
theorem dX10_tells_76 : decode cX10_tells 76 = .ok (.goto (-58), 3) := by decide +kernel
theorem dX10_tells_79 : decode cX10_tells 79 = .ok (.iload 6, 2) := by decide +kernel
theorem dX10_tells_81 : decode cX10_tells 81 = .ok (.ireturn, 1) := by decide +kernel
set_option maxRecDepth 20000 in
theorem ggX10_allowed_X10_tells : GoodIn wsX10_allowed wsX10_tells := goodIn_r _ [5, 6, 7, 8, 9, 10, 11, 12, 4, 13, 14, 15, 16, 17, 18, 19, 20, 21, 22, 23, 24, 25, 26, 27, 28, 29, 30, 31, 32, 33, 34, 35, 36, 37, 38, 39, 40, 41, 42, 43, 44, 45, 46, 47, 48, 49, 50, 51, 52, 53, 54, 55, 56, 57, 58, 59, 60] (by decide +kernel) (by decide +kernel)
set_option maxRecDepth 20000 in
theorem gX10_allowed_X10_tells : GoodIn wsX10_allowed (wsV RX10 212 RX10 yX10_tells wsX10_tells) := goodIn_app (goodIn_of _ (by decide +kernel)) ggX10_allowed_X10_tells
theorem dX10_allowed_0 : decode cX10_allowed 0 = .ok (.aload_n 0, 1) := by decide +kernel
theorem dX10_allowed_1 : decode cX10_allowed 1 = .ok (.iload_n 1, 1) := by decide +kernel
theorem dX10_allowed_2 : decode cX10_allowed 2 = .ok (.iconst 1, 1) := by decide +kernel
theorem dX10_allowed_3 : decode cX10_allowed 3 = .ok (.iload_n 2, 1) := by decide +kernel
theorem dX10_allowed_4 : decode cX10_allowed 4 = .ok (.iconst 3, 1) := by decide +kernel
theorem dX10_allowed_5 : decode cX10_allowed 5 = .ok (.invokevirtual 212, 3) := by decide +kernel
theorem dX10_allowed_8 : decode cX10_allowed 8 = .ok (.ireturn, 1) := by decide +kernel
set_option maxRecDepth 20000 in
theorem ggX10_law_X10_isIn : GoodIn wsX10_law wsX10_isIn := goodIn_r _ [4] (by decide +kernel) (by decide +kernel)
set_option maxRecDepth 20000 in
theorem gX10_law_X10_isIn : GoodIn wsX10_law (va_wsS RX10 124 yX10_isIn wsX10_isIn) := goodIn_app (goodIn_of _ (by decide +kernel)) ggX10_law_X10_isIn
set_option maxRecDepth 20000 in
theorem ggX10_law_X10_tells : GoodIn wsX10_law wsX10_tells := goodIn_r _ [8, 9, 10, 11, 12, 13, 14, 15, 3, 16, 17, 18, 28, 29, 30, 31, 32, 33, 34, 35, 36, 37, 38, 39, 40, 41, 42, 43, 44, 45, 46, 47, 48, 49, 50, 51, 52, 53, 54, 55, 56, 57, 58, 59, 60, 61, 62, 63, 64, 65, 66, 67, 68, 69, 70, 71, 72] (by decide +kernel) (by decide +kernel)
set_option maxRecDepth 20000 in
theorem gX10_law_X10_tells : GoodIn wsX10_law (wsV RX10 212 RX10 yX10_tells wsX10_tells) := goodIn_app (goodIn_of _ (by decide +kernel)) ggX10_law_X10_tells
set_option maxRecDepth 20000 in
theorem ggX10_law_X10_inForce : GoodIn wsX10_law wsX10_inForce := goodIn_r _ [16, 17, 18, 28, 29, 30, 31, 32, 33, 34, 35, 36, 37, 38, 39, 40, 41, 42, 43, 44, 45, 46, 47, 48, 49, 50, 51, 52, 53, 54, 55, 56, 57, 58, 59, 60, 61, 62, 63, 64, 65, 66, 67, 68, 69, 70, 71, 72] (by decide +kernel) (by decide +kernel)
set_option maxRecDepth 20000 in
theorem gX10_law_X10_inForce : GoodIn wsX10_law (wsV RX10 208 RX10 yX10_inForce wsX10_inForce) := goodIn_app (goodIn_of _ (by decide +kernel)) ggX10_law_X10_inForce
set_option maxRecDepth 20000 in
theorem ggX10_law_X10_isReach : GoodIn wsX10_law wsX10_isReach := goodIn_r _ [22, 23, 1, 2, 3, 4, 28, 29, 30, 31, 32, 33, 34, 35, 36, 37, 38, 39, 40, 41, 42, 43, 44, 45, 46, 47, 48, 49, 50, 51, 52, 53, 54, 55, 56, 57, 58, 59, 60, 61, 62, 63, 64, 65, 66, 67, 68, 69, 70, 71, 72] (by decide +kernel) (by decide +kernel)
set_option maxRecDepth 20000 in
theorem gX10_law_X10_isReach : GoodIn wsX10_law (wsV RX10 131 RX10 yX10_isReach wsX10_isReach) := goodIn_app (goodIn_of _ (by decide +kernel)) ggX10_law_X10_isReach
set_option maxRecDepth 20000 in
theorem ggX10_law_X10_allowed : GoodIn wsX10_law wsX10_allowed := goodIn_r _ [27, 5, 6, 7, 3, 8, 9, 10, 11, 12, 13, 14, 15, 16, 17, 18, 28, 29, 30, 31, 32, 33, 34, 35, 36, 37, 38, 39, 40, 41, 42, 43, 44, 45, 46, 47, 48, 49, 50, 51, 52, 53, 54, 55, 56, 57, 58, 59, 60, 61, 62, 63, 64, 65, 66, 67, 68, 69, 70, 71, 72] (by decide +kernel) (by decide +kernel)
set_option maxRecDepth 20000 in
theorem gX10_law_X10_allowed : GoodIn wsX10_law (wsV RX10 216 RX10 yX10_allowed wsX10_allowed) := goodIn_app (goodIn_of _ (by decide +kernel)) ggX10_law_X10_allowed
theorem dX10_law_0 : decode cX10_law 0 = .ok (.iload_n 1, 1) := by decide +kernel
theorem dX10_law_1 : decode cX10_law 1 = .ok (.iconst 0, 1) := by decide +kernel
theorem dX10_law_2 : decode cX10_law 2 = .ok (.sipush 400, 3) := by decide +kernel
theorem dX10_law_5 : decode cX10_law 5 = .ok (.invokestatic 124, 3) := by decide +kernel
theorem dX10_law_8 : decode cX10_law 8 = .ok (.ifCond .ne 5, 3) := by decide +kernel
theorem dX10_law_11 : decode cX10_law 11 = .ok (.iconst (-1), 1) := by decide +kernel
theorem dX10_law_12 : decode cX10_law 12 = .ok (.ireturn, 1) := by decide +kernel
theorem dX10_law_13 : decode cX10_law 13 = .ok (.iload_n 2, 1) := by decide +kernel
theorem dX10_law_14 : decode cX10_law 14 = .ok (.tableswitch 77 0 4 #[34, 43, 53, 62, 71], 34) := by decide +kernel
theorem dX10_law_48 : decode cX10_law 48 = .ok (.aload_n 0, 1) := by decide +kernel
theorem dX10_law_49 : decode cX10_law 49 = .ok (.iload_n 1, 1) := by decide +kernel
theorem dX10_law_50 : decode cX10_law 50 = .ok (.iconst 0, 1) := by decide +kernel
theorem dX10_law_51 : decode cX10_law 51 = .ok (.iconst 0, 1) := by decide +kernel
theorem dX10_law_52 : decode cX10_law 52 = .ok (.iconst 2, 1) := by decide +kernel
theorem dX10_law_53 : decode cX10_law 53 = .ok (.invokevirtual 212, 3) := by decide +kernel
theorem dX10_law_56 : decode cX10_law 56 = .ok (.ireturn, 1) := by decide +kernel
theorem dX10_law_57 : decode cX10_law 57 = .ok (.aload_n 0, 1) := by decide +kernel
theorem dX10_law_58 : decode cX10_law 58 = .ok (.iload_n 1, 1) := by decide +kernel
theorem dX10_law_59 : decode cX10_law 59 = .ok (.iconst 2, 1) := by decide +kernel
theorem dX10_law_60 : decode cX10_law 60 = .ok (.iconst 0, 1) := by decide +kernel
theorem dX10_law_61 : decode cX10_law 61 = .ok (.bipush 20, 2) := by decide +kernel
theorem dX10_law_63 : decode cX10_law 63 = .ok (.invokevirtual 212, 3) := by decide +kernel
theorem dX10_law_66 : decode cX10_law 66 = .ok (.ireturn, 1) := by decide +kernel
theorem dX10_law_67 : decode cX10_law 67 = .ok (.aload_n 0, 1) := by decide +kernel
theorem dX10_law_68 : decode cX10_law 68 = .ok (.iload_n 1, 1) := by decide +kernel
theorem dX10_law_69 : decode cX10_law 69 = .ok (.iconst 3, 1) := by decide +kernel
theorem dX10_law_70 : decode cX10_law 70 = .ok (.iconst 0, 1) := by decide +kernel
theorem dX10_law_71 : decode cX10_law 71 = .ok (.iconst 2, 1) := by decide +kernel
theorem dX10_law_72 : decode cX10_law 72 = .ok (.invokevirtual 212, 3) := by decide +kernel
theorem dX10_law_75 : decode cX10_law 75 = .ok (.ireturn, 1) := by decide +kernel
theorem dX10_law_76 : decode cX10_law 76 = .ok (.aload_n 0, 1) := by decide +kernel
theorem dX10_law_77 : decode cX10_law 77 = .ok (.iload_n 1, 1) := by decide +kernel
theorem dX10_law_78 : decode cX10_law 78 = .ok (.iconst 4, 1) := by decide +kernel
theorem dX10_law_79 : decode cX10_law 79 = .ok (.iconst 0, 1) := by decide +kernel
theorem dX10_law_80 : decode cX10_law 80 = .ok (.iconst 1, 1) := by decide +kernel
theorem dX10_law_81 : decode cX10_law 81 = .ok (.invokevirtual 212, 3) := by decide +kernel
theorem dX10_law_84 : decode cX10_law 84 = .ok (.ireturn, 1) := by decide +kernel
theorem dX10_law_85 : decode cX10_law 85 = .ok (.aload_n 0, 1) := by decide +kernel
theorem dX10_law_86 : decode cX10_law 86 = .ok (.iload_n 1, 1) := by decide +kernel
theorem dX10_law_87 : decode cX10_law 87 = .ok (.invokevirtual 208, 3) := by decide +kernel
theorem dX10_law_90 : decode cX10_law 90 = .ok (.ireturn, 1) := by decide +kernel
theorem dX10_law_91 : decode cX10_law 91 = .ok (.aload_n 0, 1) := by decide +kernel
theorem dX10_law_92 : decode cX10_law 92 = .ok (.iload_n 2, 1) := by decide +kernel
theorem dX10_law_93 : decode cX10_law 93 = .ok (.bipush 10, 2) := by decide +kernel
theorem dX10_law_95 : decode cX10_law 95 = .ok (.isub, 1) := by decide +kernel
theorem dX10_law_96 : decode cX10_law 96 = .ok (.invokevirtual 131, 3) := by decide +kernel
theorem dX10_law_99 : decode cX10_law 99 = .ok (.ifCond .eq 15, 3) := by decide +kernel
theorem dX10_law_102 : decode cX10_law 102 = .ok (.aload_n 0, 1) := by decide +kernel
theorem dX10_law_103 : decode cX10_law 103 = .ok (.iload_n 1, 1) := by decide +kernel
theorem dX10_law_104 : decode cX10_law 104 = .ok (.iload_n 2, 1) := by decide +kernel
theorem dX10_law_105 : decode cX10_law 105 = .ok (.bipush 10, 2) := by decide +kernel
theorem dX10_law_107 : decode cX10_law 107 = .ok (.isub, 1) := by decide +kernel
theorem dX10_law_108 : decode cX10_law 108 = .ok (.invokevirtual 216, 3) := by decide +kernel
theorem dX10_law_111 : decode cX10_law 111 = .ok (.goto 4, 3) := by decide +kernel
theorem dX10_law_114 : decode cX10_law 114 = .ok (.iconst (-1), 1) := by decide +kernel
theorem dX10_law_115 : decode cX10_law 115 = .ok (.ireturn, 1) := by decide +kernel
set_option maxRecDepth 20000 in
theorem ggX10_leave_X10_isSquadron : GoodIn wsX10_leave wsX10_isSquadron := goodIn_r _ [6, 7, 8, 9, 5, 10, 11, 12, 13, 14, 15, 16, 17, 18, 19, 20, 21, 22, 23, 24, 25, 26, 27, 28, 29, 30, 31, 32, 33, 34, 35, 36, 37, 38, 39, 40, 41, 42, 43, 44, 45, 46, 47, 48, 49, 50, 51, 52, 53, 54, 55] (by decide +kernel) (by decide +kernel)
set_option maxRecDepth 20000 in
theorem gX10_leave_X10_isSquadron : GoodIn wsX10_leave (wsV RX10 219 RX10 yX10_isSquadron wsX10_isSquadron) := goodIn_app (goodIn_of _ (by decide +kernel)) ggX10_leave_X10_isSquadron
theorem dX10_leave_0 : decode cX10_leave 0 = .ok (.aload_n 0, 1) := by decide +kernel
theorem dX10_leave_1 : decode cX10_leave 1 = .ok (.iload_n 1, 1) := by decide +kernel
theorem dX10_leave_2 : decode cX10_leave 2 = .ok (.invokevirtual 219, 3) := by decide +kernel
theorem dX10_leave_5 : decode cX10_leave 5 = .ok (.ifCond .eq 13, 3) := by decide +kernel
theorem dX10_leave_8 : decode cX10_leave 8 = .ok (.aload_n 0, 1) := by decide +kernel
theorem dX10_leave_9 : decode cX10_leave 9 = .ok (.getfield 56, 3) := by decide +kernel
theorem dX10_leave_12 : decode cX10_leave 12 = .ok (.iload_n 1, 1) := by decide +kernel
theorem dX10_leave_13 : decode cX10_leave 13 = .ok (.baload, 1) := by decide +kernel
theorem dX10_leave_14 : decode cX10_leave 14 = .ok (.iload_n 2, 1) := by decide +kernel
theorem dX10_leave_15 : decode cX10_leave 15 = .ok (.if_icmp .ne 5, 3) := by decide +kernel
theorem dX10_leave_18 : decode cX10_leave 18 = .ok (.iconst 0, 1) := by decide +kernel
theorem dX10_leave_19 : decode cX10_leave 19 = .ok (.ireturn, 1) := by decide +kernel
theorem dX10_leave_20 : decode cX10_leave 20 = .ok (.aload_n 0, 1) := by decide +kernel
theorem dX10_leave_21 : decode cX10_leave 21 = .ok (.getfield 56, 3) := by decide +kernel
theorem dX10_leave_24 : decode cX10_leave 24 = .ok (.iload_n 1, 1) := by decide +kernel
theorem dX10_leave_25 : decode cX10_leave 25 = .ok (.iload_n 2, 1) := by decide +kernel
theorem dX10_leave_26 : decode cX10_leave 26 = .ok (.bastore, 1) := by decide +kernel
theorem dX10_leave_27 : decode cX10_leave 27 = .ok (.iconst 1, 1) := by decide +kernel
theorem dX10_leave_28 : decode cX10_leave 28 = .ok (.ireturn, 1) := by decide +kernel
set_option maxRecDepth 20000 in
theorem ggX10_lose_X10_isSquadron : GoodIn wsX10_lose wsX10_isSquadron := goodIn_r _ [8, 9, 10, 11, 7, 12, 13, 14, 15, 16, 17, 18, 19, 20, 21, 22, 23, 24, 25, 26, 27, 28, 29, 30, 31, 32, 33, 34, 35, 36, 37, 38, 39, 40, 41, 42, 43, 44, 45, 46, 47, 48, 49, 50, 51, 52, 53, 54, 55, 56, 57] (by decide +kernel) (by decide +kernel)
set_option maxRecDepth 20000 in
theorem gX10_lose_X10_isSquadron : GoodIn wsX10_lose (wsV RX10 219 RX10 yX10_isSquadron wsX10_isSquadron) := goodIn_app (goodIn_of _ (by decide +kernel)) ggX10_lose_X10_isSquadron
set_option maxRecDepth 20000 in
theorem ggX10_lose_X10_isIn : GoodIn wsX10_lose wsX10_isIn := goodIn_r _ [12] (by decide +kernel) (by decide +kernel)
set_option maxRecDepth 20000 in
theorem gX10_lose_X10_isIn : GoodIn wsX10_lose (va_wsS RX10 124 yX10_isIn wsX10_isIn) := goodIn_app (goodIn_of _ (by decide +kernel)) ggX10_lose_X10_isIn
theorem dX10_lose_0 : decode cX10_lose 0 = .ok (.aload_n 0, 1) := by decide +kernel
theorem dX10_lose_1 : decode cX10_lose 1 = .ok (.iload_n 1, 1) := by decide +kernel
theorem dX10_lose_2 : decode cX10_lose 2 = .ok (.invokevirtual 219, 3) := by decide +kernel
theorem dX10_lose_5 : decode cX10_lose 5 = .ok (.ifCond .eq 34, 3) := by decide +kernel
theorem dX10_lose_8 : decode cX10_lose 8 = .ok (.aload_n 0, 1) := by decide +kernel
theorem dX10_lose_9 : decode cX10_lose 9 = .ok (.getfield 47, 3) := by decide +kernel
theorem dX10_lose_12 : decode cX10_lose 12 = .ok (.iload_n 1, 1) := by decide +kernel
theorem dX10_lose_13 : decode cX10_lose 13 = .ok (.iaload, 1) := by decide +kernel
theorem dX10_lose_14 : decode cX10_lose 14 = .ok (.iconst (-1), 1) := by decide +kernel
theorem dX10_lose_15 : decode cX10_lose 15 = .ok (.if_icmp .ne 24, 3) := by decide +kernel
theorem dX10_lose_18 : decode cX10_lose 18 = .ok (.iload_n 2, 1) := by decide +kernel
theorem dX10_lose_19 : decode cX10_lose 19 = .ok (.iconst 1, 1) := by decide +kernel
theorem dX10_lose_20 : decode cX10_lose 20 = .ok (.aload_n 0, 1) := by decide +kernel
theorem dX10_lose_21 : decode cX10_lose 21 = .ok (.getfield 35, 3) := by decide +kernel
theorem dX10_lose_24 : decode cX10_lose 24 = .ok (.iload_n 1, 1) := by decide +kernel
theorem dX10_lose_25 : decode cX10_lose 25 = .ok (.iaload, 1) := by decide +kernel
theorem dX10_lose_26 : decode cX10_lose 26 = .ok (.aload_n 0, 1) := by decide +kernel
theorem dX10_lose_27 : decode cX10_lose 27 = .ok (.getfield 38, 3) := by decide +kernel
theorem dX10_lose_30 : decode cX10_lose 30 = .ok (.iload_n 1, 1) := by decide +kernel
theorem dX10_lose_31 : decode cX10_lose 31 = .ok (.iaload, 1) := by decide +kernel
theorem dX10_lose_32 : decode cX10_lose 32 = .ok (.isub, 1) := by decide +kernel
theorem dX10_lose_33 : decode cX10_lose 33 = .ok (.invokestatic 124, 3) := by decide +kernel
theorem dX10_lose_36 : decode cX10_lose 36 = .ok (.ifCond .ne 5, 3) := by decide +kernel
theorem dX10_lose_39 : decode cX10_lose 39 = .ok (.iconst (-1), 1) := by decide +kernel
theorem dX10_lose_40 : decode cX10_lose 40 = .ok (.ireturn, 1) := by decide +kernel
theorem dX10_lose_41 : decode cX10_lose 41 = .ok (.aload_n 0, 1) := by decide +kernel
theorem dX10_lose_42 : decode cX10_lose 42 = .ok (.getfield 38, 3) := by decide +kernel
theorem dX10_lose_45 : decode cX10_lose 45 = .ok (.iload_n 1, 1) := by decide +kernel
theorem dX10_lose_46 : decode cX10_lose 46 = .ok (.dup2, 1) := by decide +kernel
theorem dX10_lose_47 : decode cX10_lose 47 = .ok (.iaload, 1) := by decide +kernel
theorem dX10_lose_48 : decode cX10_lose 48 = .ok (.iload_n 2, 1) := by decide +kernel
theorem dX10_lose_49 : decode cX10_lose 49 = .ok (.iadd, 1) := by decide +kernel
theorem dX10_lose_50 : decode cX10_lose 50 = .ok (.iastore, 1) := by decide +kernel
theorem dX10_lose_51 : decode cX10_lose 51 = .ok (.aload_n 0, 1) := by decide +kernel
theorem dX10_lose_52 : decode cX10_lose 52 = .ok (.getfield 35, 3) := by decide +kernel
theorem dX10_lose_55 : decode cX10_lose 55 = .ok (.iload_n 1, 1) := by decide +kernel
theorem dX10_lose_56 : decode cX10_lose 56 = .ok (.iaload, 1) := by decide +kernel
theorem dX10_lose_57 : decode cX10_lose 57 = .ok (.aload_n 0, 1) := by decide +kernel
theorem dX10_lose_58 : decode cX10_lose 58 = .ok (.getfield 38, 3) := by decide +kernel
theorem dX10_lose_61 : decode cX10_lose 61 = .ok (.iload_n 1, 1) := by decide +kernel
theorem dX10_lose_62 : decode cX10_lose 62 = .ok (.iaload, 1) := by decide +kernel
theorem dX10_lose_63 : decode cX10_lose 63 = .ok (.isub, 1) := by decide +kernel
theorem dX10_lose_64 : decode cX10_lose 64 = .ok (.ireturn, 1) := by decide +kernel
theorem dX10_isAhead_0 : decode cX10_isAhead 0 = .ok (.iload_n 3, 1) := by decide +kernel
theorem dX10_isAhead_1 : decode cX10_isAhead 1 = .ok (.ifCond .ne 19, 3) := by decide +kernel
theorem dX10_isAhead_4 : decode cX10_isAhead 4 = .ok (.aload_n 0, 1) := by decide +kernel
theorem dX10_isAhead_5 : decode cX10_isAhead 5 = .ok (.getfield 29, 3) := by decide +kernel
theorem dX10_isAhead_8 : decode cX10_isAhead 8 = .ok (.iload_n 2, 1) := by decide +kernel
theorem dX10_isAhead_9 : decode cX10_isAhead 9 = .ok (.iaload, 1) := by decide +kernel
theorem dX10_isAhead_10 : decode cX10_isAhead 10 = .ok (.aload_n 0, 1) := by decide +kernel
theorem dX10_isAhead_11 : decode cX10_isAhead 11 = .ok (.getfield 29, 3) := by decide +kernel
theorem dX10_isAhead_14 : decode cX10_isAhead 14 = .ok (.iload_n 1, 1) := by decide +kernel
theorem dX10_isAhead_15 : decode cX10_isAhead 15 = .ok (.iaload, 1) := by decide +kernel
theorem dX10_isAhead_16 : decode cX10_isAhead 16 = .ok (.isub, 1) := by decide +kernel
theorem dX10_isAhead_17 : decode cX10_isAhead 17 = .ok (.goto 25, 3) := by decide +kernel
theorem dX10_isAhead_20 : decode cX10_isAhead 20 = .ok (.iload_n 3, 1) := by decide +kernel
theorem dX10_isAhead_21 : decode cX10_isAhead 21 = .ok (.iconst 1, 1) := by decide +kernel
theorem dX10_isAhead_22 : decode cX10_isAhead 22 = .ok (.if_icmp .ne 19, 3) := by decide +kernel
theorem dX10_isAhead_25 : decode cX10_isAhead 25 = .ok (.aload_n 0, 1) := by decide +kernel
theorem dX10_isAhead_26 : decode cX10_isAhead 26 = .ok (.getfield 32, 3) := by decide +kernel
theorem dX10_isAhead_29 : decode cX10_isAhead 29 = .ok (.iload_n 1, 1) := by decide +kernel
theorem dX10_isAhead_30 : decode cX10_isAhead 30 = .ok (.iaload, 1) := by decide +kernel
theorem dX10_isAhead_31 : decode cX10_isAhead 31 = .ok (.aload_n 0, 1) := by decide +kernel
theorem dX10_isAhead_32 : decode cX10_isAhead 32 = .ok (.getfield 32, 3) := by decide +kernel
theorem dX10_isAhead_35 : decode cX10_isAhead 35 = .ok (.iload_n 2, 1) := by decide +kernel
theorem dX10_isAhead_36 : decode cX10_isAhead 36 = .ok (.iaload, 1) := by decide +kernel
theorem dX10_isAhead_37 : decode cX10_isAhead 37 = .ok (.isub, 1) := by decide +kernel
theorem dX10_isAhead_38 : decode cX10_isAhead 38 = .ok (.goto 4, 3) := by decide +kernel
theorem dX10_isAhead_41 : decode cX10_isAhead 41 = .ok (.iconst 0, 1) := by decide +kernel
theorem dX10_isAhead_42 : decode cX10_isAhead 42 = .ok (.istore 4, 2) := by decide +kernel
theorem dX10_isAhead_44 : decode cX10_isAhead 44 = .ok (.iload 4, 2) := by decide +kernel
theorem dX10_isAhead_46 : decode cX10_isAhead 46 = .ok (.ifCond .eq 16, 3) := by decide +kernel
theorem dX10_isAhead_49 : decode cX10_isAhead 49 = .ok (.iload 4, 2) := by decide +kernel
theorem dX10_isAhead_51 : decode cX10_isAhead 51 = .ok (.ifCond .le 7, 3) := by decide +kernel
theorem dX10_isAhead_54 : decode cX10_isAhead 54 = .ok (.iconst 1, 1) := by decide +kernel
theorem dX10_isAhead_55 : decode cX10_isAhead 55 = .ok (.goto 17, 3) := by decide +kernel
theorem dX10_isAhead_58 : decode cX10_isAhead 58 = .ok (.iconst 0, 1) := by decide +kernel
theorem dX10_isAhead_59 : decode cX10_isAhead 59 = .ok (.goto 13, 3) := by decide +kernel
theorem dX10_isAhead_62 : decode cX10_isAhead 62 = .ok (.iload_n 1, 1) := by decide +kernel
theorem dX10_isAhead_63 : decode cX10_isAhead 63 = .ok (.iload_n 2, 1) := by decide +kernel
theorem dX10_isAhead_64 : decode cX10_isAhead 64 = .ok (.if_icmp .ge 7, 3) := by decide +kernel
theorem dX10_isAhead_67 : decode cX10_isAhead 67 = .ok (.iconst 1, 1) := by decide +kernel
theorem dX10_isAhead_68 : decode cX10_isAhead 68 = .ok (.goto 4, 3) := by decide +kernel
theorem dX10_isAhead_71 : decode cX10_isAhead 71 = .ok (.iconst 0, 1) := by decide +kernel
theorem dX10_isAhead_72 : decode cX10_isAhead 72 = .ok (.ireturn, 1) := by decide +kernel
set_option maxRecDepth 20000 in
theorem ggX10_day_X10_opens : GoodIn wsX10_day wsX10_opens := goodIn_r _ [20, 21, 1, 11, 22, 13, 12, 9, 23, 24, 25, 5, 6, 7, 8, 14, 26, 27, 28, 29, 19, 30, 31, 32, 33, 34, 35, 36, 37, 38, 39, 40, 41, 42, 43, 44, 45, 46, 47, 48, 49, 50, 51, 52, 53, 54, 55, 56, 57, 58, 59, 60, 61, 62, 63, 64, 65, 66, 67, 68, 69, 70, 71, 72, 73, 74, 75, 76, 77, 78, 79, 80, 81, 82, 83, 84, 85, 86, 87, 88, 89, 90, 91, 92, 93, 94, 95, 96, 97, 98, 99, 100] (by decide +kernel) (by decide +kernel)
set_option maxRecDepth 20000 in
theorem gX10_day_X10_opens : GoodIn wsX10_day (wsV RX10 222 RX10 yX10_opens wsX10_opens) := goodIn_app (goodIn_of _ (by decide +kernel)) ggX10_day_X10_opens
theorem dX10_day_0 : decode cX10_day 0 = .ok (.aload_n 0, 1) := by decide +kernel
theorem dX10_day_1 : decode cX10_day 1 = .ok (.getfield 144, 3) := by decide +kernel
theorem dX10_day_4 : decode cX10_day 4 = .ok (.sipush 400, 3) := by decide +kernel
theorem dX10_day_7 : decode cX10_day 7 = .ok (.if_icmp .ne 5, 3) := by decide +kernel
theorem dX10_day_10 : decode cX10_day 10 = .ok (.iconst (-1), 1) := by decide +kernel
theorem dX10_day_11 : decode cX10_day 11 = .ok (.ireturn, 1) := by decide +kernel
theorem dX10_day_12 : decode cX10_day 12 = .ok (.iconst 0, 1) := by decide +kernel
theorem dX10_day_13 : decode cX10_day 13 = .ok (.istore_n 1, 1) := by decide +kernel
theorem dX10_day_14 : decode cX10_day 14 = .ok (.iload_n 1, 1) := by decide +kernel
theorem dX10_day_15 : decode cX10_day 15 = .ok (.aload_n 0, 1) := by decide +kernel
theorem dX10_day_16 : decode cX10_day 16 = .ok (.getfield 138, 3) := by decide +kernel
theorem dX10_day_19 : decode cX10_day 19 = .ok (.if_icmp .ge 68, 3) := by decide +kernel
theorem dX10_day_22 : decode cX10_day 22 = .ok (.aload_n 0, 1) := by decide +kernel
theorem dX10_day_23 : decode cX10_day 23 = .ok (.getfield 26, 3) := by decide +kernel
theorem dX10_day_26 : decode cX10_day 26 = .ok (.iload_n 1, 1) := by decide +kernel
theorem dX10_day_27 : decode cX10_day 27 = .ok (.iaload, 1) := by decide +kernel
theorem dX10_day_28 : decode cX10_day 28 = .ok (.aload_n 0, 1) := by decide +kernel
theorem dX10_day_29 : decode cX10_day 29 = .ok (.getfield 23, 3) := by decide +kernel
theorem dX10_day_32 : decode cX10_day 32 = .ok (.iload_n 1, 1) := by decide +kernel
theorem dX10_day_33 : decode cX10_day 33 = .ok (.iaload, 1) := by decide +kernel
theorem dX10_day_34 : decode cX10_day 34 = .ok (.invokestatic 112, 3) := by decide +kernel
theorem dX10_day_37 : decode cX10_day 37 = .ok (.sipush 1000, 3) := by decide +kernel
theorem dX10_day_40 : decode cX10_day 40 = .ok (.aload_n 0, 1) := by decide +kernel
theorem dX10_day_41 : decode cX10_day 41 = .ok (.getfield 7, 3) := by decide +kernel
theorem dX10_day_44 : decode cX10_day 44 = .ok (.aload_n 0, 1) := by decide +kernel
theorem dX10_day_45 : decode cX10_day 45 = .ok (.getfield 20, 3) := by decide +kernel
theorem dX10_day_48 : decode cX10_day 48 = .ok (.iload_n 1, 1) := by decide +kernel
theorem dX10_day_49 : decode cX10_day 49 = .ok (.iaload, 1) := by decide +kernel
theorem dX10_day_50 : decode cX10_day 50 = .ok (.iaload, 1) := by decide +kernel
theorem dX10_day_51 : decode cX10_day 51 = .ok (.isub, 1) := by decide +kernel
theorem dX10_day_52 : decode cX10_day 52 = .ok (.invokestatic 112, 3) := by decide +kernel
theorem dX10_day_55 : decode cX10_day 55 = .ok (.istore_n 2, 1) := by decide +kernel
theorem dX10_day_56 : decode cX10_day 56 = .ok (.aload_n 0, 1) := by decide +kernel
theorem dX10_day_57 : decode cX10_day 57 = .ok (.getfield 23, 3) := by decide +kernel
theorem dX10_day_60 : decode cX10_day 60 = .ok (.iload_n 1, 1) := by decide +kernel
theorem dX10_day_61 : decode cX10_day 61 = .ok (.dup2, 1) := by decide +kernel
theorem dX10_day_62 : decode cX10_day 62 = .ok (.iaload, 1) := by decide +kernel
theorem dX10_day_63 : decode cX10_day 63 = .ok (.iload_n 2, 1) := by decide +kernel
theorem dX10_day_64 : decode cX10_day 64 = .ok (.isub, 1) := by decide +kernel
theorem dX10_day_65 : decode cX10_day 65 = .ok (.iastore, 1) := by decide +kernel
theorem dX10_day_66 : decode cX10_day 66 = .ok (.aload_n 0, 1) := by decide +kernel
theorem dX10_day_67 : decode cX10_day 67 = .ok (.getfield 7, 3) := by decide +kernel
theorem dX10_day_70 : decode cX10_day 70 = .ok (.aload_n 0, 1) := by decide +kernel
theorem dX10_day_71 : decode cX10_day 71 = .ok (.getfield 20, 3) := by decide +kernel
theorem dX10_day_74 : decode cX10_day 74 = .ok (.iload_n 1, 1) := by decide +kernel
theorem dX10_day_75 : decode cX10_day 75 = .ok (.iaload, 1) := by decide +kernel
theorem dX10_day_76 : decode cX10_day 76 = .ok (.dup2, 1) := by decide +kernel
theorem dX10_day_77 : decode cX10_day 77 = .ok (.iaload, 1) := by decide +kernel
theorem dX10_day_78 : decode cX10_day 78 = .ok (.iload_n 2, 1) := by decide +kernel
theorem dX10_day_79 : decode cX10_day 79 = .ok (.iadd, 1) := by decide +kernel
theorem dX10_day_80 : decode cX10_day 80 = .ok (.iastore, 1) := by decide +kernel
theorem dX10_day_81 : decode cX10_day 81 = .ok (.iinc 1 1, 3) := by decide +kernel
theorem dX10_day_84 : decode cX10_day 84 = .ok (.goto (-70), 3) := by decide +kernel
theorem dX10_day_87 : decode cX10_day 87 = .ok (.iconst 0, 1) := by decide +kernel
theorem dX10_day_88 : decode cX10_day 88 = .ok (.istore_n 1, 1) := by decide +kernel
theorem dX10_day_89 : decode cX10_day 89 = .ok (.iload_n 1, 1) := by decide +kernel
theorem dX10_day_90 : decode cX10_day 90 = .ok (.aload_n 0, 1) := by decide +kernel
theorem dX10_day_91 : decode cX10_day 91 = .ok (.getfield 128, 3) := by decide +kernel
theorem dX10_day_94 : decode cX10_day 94 = .ok (.if_icmp .ge 51, 3) := by decide +kernel
theorem dX10_day_97 : decode cX10_day 97 = .ok (.aload_n 0, 1) := by decide +kernel
theorem dX10_day_98 : decode cX10_day 98 = .ok (.getfield 50, 3) := by decide +kernel
theorem dX10_day_101 : decode cX10_day 101 = .ok (.iload_n 1, 1) := by decide +kernel
theorem dX10_day_102 : decode cX10_day 102 = .ok (.iconst 0, 1) := by decide +kernel
theorem dX10_day_103 : decode cX10_day 103 = .ok (.iastore, 1) := by decide +kernel
theorem dX10_day_104 : decode cX10_day 104 = .ok (.aload_n 0, 1) := by decide +kernel
theorem dX10_day_105 : decode cX10_day 105 = .ok (.getfield 44, 3) := by decide +kernel
theorem dX10_day_108 : decode cX10_day 108 = .ok (.iload_n 1, 1) := by decide +kernel
theorem dX10_day_109 : decode cX10_day 109 = .ok (.iaload, 1) := by decide +kernel
theorem dX10_day_110 : decode cX10_day 110 = .ok (.aload_n 0, 1) := by decide +kernel
theorem dX10_day_111 : decode cX10_day 111 = .ok (.getfield 121, 3) := by decide +kernel
theorem dX10_day_114 : decode cX10_day 114 = .ok (.iconst 1, 1) := by decide +kernel
theorem dX10_day_115 : decode cX10_day 115 = .ok (.isub, 1) := by decide +kernel
theorem dX10_day_116 : decode cX10_day 116 = .ok (.if_icmp .ge 23, 3) := by decide +kernel
theorem dX10_day_119 : decode cX10_day 119 = .ok (.aload_n 0, 1) := by decide +kernel
theorem dX10_day_120 : decode cX10_day 120 = .ok (.getfield 60, 3) := by decide +kernel
theorem dX10_day_123 : decode cX10_day 123 = .ok (.bipush 12, 2) := by decide +kernel
theorem dX10_day_125 : decode cX10_day 125 = .ok (.iload_n 1, 1) := by decide +kernel
theorem dX10_day_126 : decode cX10_day 126 = .ok (.imul, 1) := by decide +kernel
theorem dX10_day_127 : decode cX10_day 127 = .ok (.aload_n 0, 1) := by decide +kernel
theorem dX10_day_128 : decode cX10_day 128 = .ok (.getfield 44, 3) := by decide +kernel
theorem dX10_day_131 : decode cX10_day 131 = .ok (.iload_n 1, 1) := by decide +kernel
theorem dX10_day_132 : decode cX10_day 132 = .ok (.iaload, 1) := by decide +kernel
theorem dX10_day_133 : decode cX10_day 133 = .ok (.iadd, 1) := by decide +kernel
theorem dX10_day_134 : decode cX10_day 134 = .ok (.dup2, 1) := by decide +kernel
theorem dX10_day_135 : decode cX10_day 135 = .ok (.iaload, 1) := by decide +kernel
theorem dX10_day_136 : decode cX10_day 136 = .ok (.iconst 1, 1) := by decide +kernel
theorem dX10_day_137 : decode cX10_day 137 = .ok (.iadd, 1) := by decide +kernel
theorem dX10_day_138 : decode cX10_day 138 = .ok (.iastore, 1) := by decide +kernel
theorem dX10_day_139 : decode cX10_day 139 = .ok (.iinc 1 1, 3) := by decide +kernel
theorem dX10_day_142 : decode cX10_day 142 = .ok (.goto (-53), 3) := by decide +kernel
theorem dX10_day_145 : decode cX10_day 145 = .ok (.aload_n 0, 1) := by decide +kernel
theorem dX10_day_146 : decode cX10_day 146 = .ok (.getfield 121, 3) := by decide +kernel
theorem dX10_day_149 : decode cX10_day 149 = .ok (.iconst 2, 1) := by decide +kernel
theorem dX10_day_150 : decode cX10_day 150 = .ok (.isub, 1) := by decide +kernel
theorem dX10_day_151 : decode cX10_day 151 = .ok (.istore_n 1, 1) := by decide +kernel
theorem dX10_day_152 : decode cX10_day 152 = .ok (.iload_n 1, 1) := by decide +kernel
theorem dX10_day_153 : decode cX10_day 153 = .ok (.ifCond .lt 14, 3) := by decide +kernel
theorem dX10_day_156 : decode cX10_day 156 = .ok (.aload_n 0, 1) := by decide +kernel
theorem dX10_day_157 : decode cX10_day 157 = .ok (.iload_n 1, 1) := by decide +kernel
theorem dX10_day_158 : decode cX10_day 158 = .ok (.invokevirtual 222, 3) := by decide +kernel
theorem dX10_day_161 : decode cX10_day 161 = .ok (.iinc 1 (-1), 3) := by decide +kernel
theorem dX10_day_164 : decode cX10_day 164 = .ok (.goto (-12), 3) := by decide +kernel
theorem dX10_day_167 : decode cX10_day 167 = .ok (.aload_n 0, 1) := by decide +kernel
theorem dX10_day_168 : decode cX10_day 168 = .ok (.dup, 1) := by decide +kernel
theorem dX10_day_169 : decode cX10_day 169 = .ok (.getfield 144, 3) := by decide +kernel
theorem dX10_day_172 : decode cX10_day 172 = .ok (.iconst 1, 1) := by decide +kernel
theorem dX10_day_173 : decode cX10_day 173 = .ok (.iadd, 1) := by decide +kernel
theorem dX10_day_174 : decode cX10_day 174 = .ok (.putfield 144, 3) := by decide +kernel
theorem dX10_day_177 : decode cX10_day 177 = .ok (.aload_n 0, 1) := by decide +kernel
theorem dX10_day_178 : decode cX10_day 178 = .ok (.getfield 144, 3) := by decide +kernel
theorem dX10_day_181 : decode cX10_day 181 = .ok (.ireturn, 1) := by decide +kernel
set_option maxRecDepth 20000 in
theorem ggX10_opens_X10_tells : GoodIn wsX10_opens wsX10_tells := goodIn_r _ [21, 22, 23, 24, 25, 26, 27, 28, 20, 29, 30, 31, 47, 48, 49, 50, 51, 52, 53, 54, 55, 56, 57, 58, 59, 60, 61, 62, 63, 64, 65, 66, 67, 68, 69, 70, 71, 72, 73, 74, 75, 76, 77, 78, 79, 80, 81, 82, 83, 84, 85, 86, 87, 88, 89, 90, 91] (by decide +kernel) (by decide +kernel)
set_option maxRecDepth 20000 in
theorem gX10_opens_X10_tells : GoodIn wsX10_opens (wsV RX10 212 RX10 yX10_tells wsX10_tells) := goodIn_app (goodIn_of _ (by decide +kernel)) ggX10_opens_X10_tells
set_option maxRecDepth 20000 in
theorem ggX10_opens_X10_next : GoodIn wsX10_opens wsX10_next := goodIn_r _ [35, 3, 4, 36, 37, 38, 20, 39, 40, 8, 47, 48, 49, 50, 51, 52, 53, 54, 55, 56, 57, 58, 59, 60, 61, 62, 63, 64, 65, 66, 67, 68, 69, 70, 71, 72, 73, 74, 75, 76, 77, 78, 79, 80, 81, 82, 83, 84, 85, 86, 87, 88, 89, 90, 91] (by decide +kernel) (by decide +kernel)
set_option maxRecDepth 20000 in
theorem gX10_opens_X10_next : GoodIn wsX10_opens (wsV RX10 225 RX10 yX10_next wsX10_next) := goodIn_app (goodIn_of _ (by decide +kernel)) ggX10_opens_X10_next
set_option maxRecDepth 20000 in
theorem ggX10_opens_X10_hasIce : GoodIn wsX10_opens wsX10_hasIce := goodIn_r _ [44, 2, 45, 46, 47, 48, 49, 50, 51, 52, 53, 54, 55, 56, 57, 58, 59, 60, 61, 62, 63, 64, 65, 66, 67, 68, 69, 70, 71, 72, 73, 74, 75, 76, 77, 78, 79, 80, 81, 82, 83, 84, 85, 86, 87, 88, 89, 90, 91] (by decide +kernel) (by decide +kernel)
set_option maxRecDepth 20000 in
theorem gX10_opens_X10_hasIce : GoodIn wsX10_opens (wsV RX10 228 RX10 yX10_hasIce wsX10_hasIce) := goodIn_app (goodIn_of _ (by decide +kernel)) ggX10_opens_X10_hasIce
theorem dX10_opens_0 : decode cX10_opens 0 = .ok (.aload_n 0, 1) := by decide +kernel
theorem dX10_opens_1 : decode cX10_opens 1 = .ok (.getfield 13, 3) := by decide +kernel
theorem dX10_opens_4 : decode cX10_opens 4 = .ok (.iload_n 1, 1) := by decide +kernel
theorem dX10_opens_5 : decode cX10_opens 5 = .ok (.iaload, 1) := by decide +kernel
theorem dX10_opens_6 : decode cX10_opens 6 = .ok (.istore_n 2, 1) := by decide +kernel
theorem dX10_opens_7 : decode cX10_opens 7 = .ok (.iconst 0, 1) := by decide +kernel
theorem dX10_opens_8 : decode cX10_opens 8 = .ok (.istore_n 3, 1) := by decide +kernel
theorem dX10_opens_9 : decode cX10_opens 9 = .ok (.aload_n 0, 1) := by decide +kernel
theorem dX10_opens_10 : decode cX10_opens 10 = .ok (.aload_n 0, 1) := by decide +kernel
theorem dX10_opens_11 : decode cX10_opens 11 = .ok (.getfield 144, 3) := by decide +kernel
theorem dX10_opens_14 : decode cX10_opens 14 = .ok (.iconst 0, 1) := by decide +kernel
theorem dX10_opens_15 : decode cX10_opens 15 = .ok (.iconst 0, 1) := by decide +kernel
theorem dX10_opens_16 : decode cX10_opens 16 = .ok (.iconst 2, 1) := by decide +kernel
theorem dX10_opens_17 : decode cX10_opens 17 = .ok (.invokevirtual 212, 3) := by decide +kernel
theorem dX10_opens_20 : decode cX10_opens 20 = .ok (.istore 4, 2) := by decide +kernel
theorem dX10_opens_22 : decode cX10_opens 22 = .ok (.iconst 0, 1) := by decide +kernel
theorem dX10_opens_23 : decode cX10_opens 23 = .ok (.istore 5, 2) := by decide +kernel
theorem dX10_opens_25 : decode cX10_opens 25 = .ok (.iload 5, 2) := by decide +kernel
theorem dX10_opens_27 : decode cX10_opens 27 = .ok (.aload_n 0, 1) := by decide +kernel
theorem dX10_opens_28 : decode cX10_opens 28 = .ok (.getfield 128, 3) := by decide +kernel
theorem dX10_opens_31 : decode cX10_opens 31 = .ok (.if_icmp .ge 32, 3) := by decide +kernel
theorem dX10_opens_34 : decode cX10_opens 34 = .ok (.aload_n 0, 1) := by decide +kernel
theorem dX10_opens_35 : decode cX10_opens 35 = .ok (.getfield 100, 3) := by decide +kernel
theorem dX10_opens_38 : decode cX10_opens 38 = .ok (.iload 5, 2) := by decide +kernel
theorem dX10_opens_40 : decode cX10_opens 40 = .ok (.aload_n 0, 1) := by decide +kernel
theorem dX10_opens_41 : decode cX10_opens 41 = .ok (.getfield 44, 3) := by decide +kernel
theorem dX10_opens_44 : decode cX10_opens 44 = .ok (.iload 5, 2) := by decide +kernel
theorem dX10_opens_46 : decode cX10_opens 46 = .ok (.iaload, 1) := by decide +kernel
theorem dX10_opens_47 : decode cX10_opens 47 = .ok (.iload_n 1, 1) := by decide +kernel
theorem dX10_opens_48 : decode cX10_opens 48 = .ok (.if_icmp .eq 7, 3) := by decide +kernel
theorem dX10_opens_51 : decode cX10_opens 51 = .ok (.iconst 1, 1) := by decide +kernel
theorem dX10_opens_52 : decode cX10_opens 52 = .ok (.goto 4, 3) := by decide +kernel
theorem dX10_opens_55 : decode cX10_opens 55 = .ok (.iconst 0, 1) := by decide +kernel
theorem dX10_opens_56 : decode cX10_opens 56 = .ok (.bastore, 1) := by decide +kernel
theorem dX10_opens_57 : decode cX10_opens 57 = .ok (.iinc 5 1, 3) := by decide +kernel
theorem dX10_opens_60 : decode cX10_opens 60 = .ok (.goto (-35), 3) := by decide +kernel
theorem dX10_opens_63 : decode cX10_opens 63 = .ok (.aload_n 0, 1) := by decide +kernel
theorem dX10_opens_64 : decode cX10_opens 64 = .ok (.iload 4, 2) := by decide +kernel
theorem dX10_opens_66 : decode cX10_opens 66 = .ok (.invokevirtual 225, 3) := by decide +kernel
theorem dX10_opens_69 : decode cX10_opens 69 = .ok (.istore 5, 2) := by decide +kernel
theorem dX10_opens_71 : decode cX10_opens 71 = .ok (.iload 5, 2) := by decide +kernel
theorem dX10_opens_73 : decode cX10_opens 73 = .ok (.iconst (-1), 1) := by decide +kernel
theorem dX10_opens_74 : decode cX10_opens 74 = .ok (.if_icmp .eq 237, 3) := by decide +kernel
theorem dX10_opens_77 : decode cX10_opens 77 = .ok (.aload_n 0, 1) := by decide +kernel
theorem dX10_opens_78 : decode cX10_opens 78 = .ok (.getfield 100, 3) := by decide +kernel
theorem dX10_opens_81 : decode cX10_opens 81 = .ok (.iload 5, 2) := by decide +kernel
theorem dX10_opens_83 : decode cX10_opens 83 = .ok (.iconst 1, 1) := by decide +kernel
theorem dX10_opens_84 : decode cX10_opens 84 = .ok (.bastore, 1) := by decide +kernel
theorem dX10_opens_85 : decode cX10_opens 85 = .ok (.aload_n 0, 1) := by decide +kernel
theorem dX10_opens_86 : decode cX10_opens 86 = .ok (.getfield 50, 3) := by decide +kernel
theorem dX10_opens_89 : decode cX10_opens 89 = .ok (.iload 5, 2) := by decide +kernel
theorem dX10_opens_91 : decode cX10_opens 91 = .ok (.aload_n 0, 1) := by decide +kernel
theorem dX10_opens_92 : decode cX10_opens 92 = .ok (.iload_n 1, 1) := by decide +kernel
theorem dX10_opens_93 : decode cX10_opens 93 = .ok (.invokevirtual 228, 3) := by decide +kernel
theorem dX10_opens_96 : decode cX10_opens 96 = .ok (.ifCond .ne 13, 3) := by decide +kernel
theorem dX10_opens_99 : decode cX10_opens 99 = .ok (.aload_n 0, 1) := by decide +kernel
theorem dX10_opens_100 : decode cX10_opens 100 = .ok (.iload_n 1, 1) := by decide +kernel
theorem dX10_opens_101 : decode cX10_opens 101 = .ok (.iconst 1, 1) := by decide +kernel
theorem dX10_opens_102 : decode cX10_opens 102 = .ok (.iadd, 1) := by decide +kernel
theorem dX10_opens_103 : decode cX10_opens 103 = .ok (.invokevirtual 228, 3) := by decide +kernel
theorem dX10_opens_106 : decode cX10_opens 106 = .ok (.ifCond .eq 7, 3) := by decide +kernel
theorem dX10_opens_109 : decode cX10_opens 109 = .ok (.iconst 1, 1) := by decide +kernel
theorem dX10_opens_110 : decode cX10_opens 110 = .ok (.goto 62, 3) := by decide +kernel
theorem dX10_opens_113 : decode cX10_opens 113 = .ok (.aload_n 0, 1) := by decide +kernel
theorem dX10_opens_114 : decode cX10_opens 114 = .ok (.getfield 7, 3) := by decide +kernel
theorem dX10_opens_117 : decode cX10_opens 117 = .ok (.iload_n 1, 1) := by decide +kernel
theorem dX10_opens_118 : decode cX10_opens 118 = .ok (.iconst 1, 1) := by decide +kernel
theorem dX10_opens_119 : decode cX10_opens 119 = .ok (.iadd, 1) := by decide +kernel
theorem dX10_opens_120 : decode cX10_opens 120 = .ok (.iaload, 1) := by decide +kernel
theorem dX10_opens_121 : decode cX10_opens 121 = .ok (.bipush 20, 2) := by decide +kernel
theorem dX10_opens_123 : decode cX10_opens 123 = .ok (.aload_n 0, 1) := by decide +kernel
theorem dX10_opens_124 : decode cX10_opens 124 = .ok (.getfield 32, 3) := by decide +kernel
theorem dX10_opens_127 : decode cX10_opens 127 = .ok (.iload 5, 2) := by decide +kernel
theorem dX10_opens_129 : decode cX10_opens 129 = .ok (.iaload, 1) := by decide +kernel
theorem dX10_opens_130 : decode cX10_opens 130 = .ok (.iadd, 1) := by decide +kernel
theorem dX10_opens_131 : decode cX10_opens 131 = .ok (.if_icmp .ge 7, 3) := by decide +kernel
theorem dX10_opens_134 : decode cX10_opens 134 = .ok (.iconst 2, 1) := by decide +kernel
theorem dX10_opens_135 : decode cX10_opens 135 = .ok (.goto 37, 3) := by decide +kernel
theorem dX10_opens_138 : decode cX10_opens 138 = .ok (.iload_n 2, 1) := by decide +kernel
theorem dX10_opens_139 : decode cX10_opens 139 = .ok (.aload_n 0, 1) := by decide +kernel
theorem dX10_opens_140 : decode cX10_opens 140 = .ok (.getfield 32, 3) := by decide +kernel
theorem dX10_opens_143 : decode cX10_opens 143 = .ok (.iload 5, 2) := by decide +kernel
theorem dX10_opens_145 : decode cX10_opens 145 = .ok (.iaload, 1) := by decide +kernel
theorem dX10_opens_146 : decode cX10_opens 146 = .ok (.if_icmp .ge 7, 3) := by decide +kernel
theorem dX10_opens_149 : decode cX10_opens 149 = .ok (.iconst 3, 1) := by decide +kernel
theorem dX10_opens_150 : decode cX10_opens 150 = .ok (.goto 22, 3) := by decide +kernel
theorem dX10_opens_153 : decode cX10_opens 153 = .ok (.iload_n 3, 1) := by decide +kernel
theorem dX10_opens_154 : decode cX10_opens 154 = .ok (.ifCond .eq 17, 3) := by decide +kernel
theorem dX10_opens_157 : decode cX10_opens 157 = .ok (.aload_n 0, 1) := by decide +kernel
theorem dX10_opens_158 : decode cX10_opens 158 = .ok (.getfield 56, 3) := by decide +kernel
theorem dX10_opens_161 : decode cX10_opens 161 = .ok (.iload 5, 2) := by decide +kernel
theorem dX10_opens_163 : decode cX10_opens 163 = .ok (.baload, 1) := by decide +kernel
theorem dX10_opens_164 : decode cX10_opens 164 = .ok (.ifCond .ne 7, 3) := by decide +kernel
theorem dX10_opens_167 : decode cX10_opens 167 = .ok (.iconst 4, 1) := by decide +kernel
theorem dX10_opens_168 : decode cX10_opens 168 = .ok (.goto 4, 3) := by decide +kernel
theorem dX10_opens_171 : decode cX10_opens 171 = .ok (.iconst 0, 1) := by decide +kernel
theorem dX10_opens_172 : decode cX10_opens 172 = .ok (.iastore, 1) := by decide +kernel
theorem dX10_opens_173 : decode cX10_opens 173 = .ok (.aload_n 0, 1) := by decide +kernel
theorem dX10_opens_174 : decode cX10_opens 174 = .ok (.getfield 50, 3) := by decide +kernel
theorem dX10_opens_177 : decode cX10_opens 177 = .ok (.iload 5, 2) := by decide +kernel
theorem dX10_opens_179 : decode cX10_opens 179 = .ok (.iaload, 1) := by decide +kernel
theorem dX10_opens_180 : decode cX10_opens 180 = .ok (.ifCond .eq 29, 3) := by decide +kernel
theorem dX10_opens_183 : decode cX10_opens 183 = .ok (.iconst 1, 1) := by decide +kernel
theorem dX10_opens_184 : decode cX10_opens 184 = .ok (.istore_n 3, 1) := by decide +kernel
theorem dX10_opens_185 : decode cX10_opens 185 = .ok (.aload_n 0, 1) := by decide +kernel
theorem dX10_opens_186 : decode cX10_opens 186 = .ok (.getfield 63, 3) := by decide +kernel
theorem dX10_opens_189 : decode cX10_opens 189 = .ok (.iconst 5, 1) := by decide +kernel
theorem dX10_opens_190 : decode cX10_opens 190 = .ok (.iload 5, 2) := by decide +kernel
theorem dX10_opens_192 : decode cX10_opens 192 = .ok (.imul, 1) := by decide +kernel
theorem dX10_opens_193 : decode cX10_opens 193 = .ok (.aload_n 0, 1) := by decide +kernel
theorem dX10_opens_194 : decode cX10_opens 194 = .ok (.getfield 50, 3) := by decide +kernel
theorem dX10_opens_197 : decode cX10_opens 197 = .ok (.iload 5, 2) := by decide +kernel
theorem dX10_opens_199 : decode cX10_opens 199 = .ok (.iaload, 1) := by decide +kernel
theorem dX10_opens_200 : decode cX10_opens 200 = .ok (.iadd, 1) := by decide +kernel
theorem dX10_opens_201 : decode cX10_opens 201 = .ok (.dup2, 1) := by decide +kernel
theorem dX10_opens_202 : decode cX10_opens 202 = .ok (.iaload, 1) := by decide +kernel
theorem dX10_opens_203 : decode cX10_opens 203 = .ok (.iconst 1, 1) := by decide +kernel
theorem dX10_opens_204 : decode cX10_opens 204 = .ok (.iadd, 1) := by decide +kernel
theorem dX10_opens_205 : decode cX10_opens 205 = .ok (.iastore, 1) := by decide +kernel
theorem dX10_opens_206 : decode cX10_opens 206 = .ok (.goto 94, 3) := by decide +kernel
theorem dX10_opens_209 : decode cX10_opens 209 = .ok (.iload_n 2, 1) := by decide +kernel
theorem dX10_opens_210 : decode cX10_opens 210 = .ok (.aload_n 0, 1) := by decide +kernel
theorem dX10_opens_211 : decode cX10_opens 211 = .ok (.getfield 32, 3) := by decide +kernel
theorem dX10_opens_214 : decode cX10_opens 214 = .ok (.iload 5, 2) := by decide +kernel
theorem dX10_opens_216 : decode cX10_opens 216 = .ok (.iaload, 1) := by decide +kernel
theorem dX10_opens_217 : decode cX10_opens 217 = .ok (.isub, 1) := by decide +kernel
theorem dX10_opens_218 : decode cX10_opens 218 = .ok (.istore_n 2, 1) := by decide +kernel
theorem dX10_opens_219 : decode cX10_opens 219 = .ok (.aload_n 0, 1) := by decide +kernel
theorem dX10_opens_220 : decode cX10_opens 220 = .ok (.getfield 7, 3) := by decide +kernel
theorem dX10_opens_223 : decode cX10_opens 223 = .ok (.iload_n 1, 1) := by decide +kernel
theorem dX10_opens_224 : decode cX10_opens 224 = .ok (.iconst 1, 1) := by decide +kernel
theorem dX10_opens_225 : decode cX10_opens 225 = .ok (.iadd, 1) := by decide +kernel
theorem dX10_opens_226 : decode cX10_opens 226 = .ok (.dup2, 1) := by decide +kernel
theorem dX10_opens_227 : decode cX10_opens 227 = .ok (.iaload, 1) := by decide +kernel
theorem dX10_opens_228 : decode cX10_opens 228 = .ok (.aload_n 0, 1) := by decide +kernel
theorem dX10_opens_229 : decode cX10_opens 229 = .ok (.getfield 32, 3) := by decide +kernel
theorem dX10_opens_232 : decode cX10_opens 232 = .ok (.iload 5, 2) := by decide +kernel
theorem dX10_opens_234 : decode cX10_opens 234 = .ok (.iaload, 1) := by decide +kernel
theorem dX10_opens_235 : decode cX10_opens 235 = .ok (.isub, 1) := by decide +kernel
theorem dX10_opens_236 : decode cX10_opens 236 = .ok (.iastore, 1) := by decide +kernel
theorem dX10_opens_237 : decode cX10_opens 237 = .ok (.aload_n 0, 1) := by decide +kernel
theorem dX10_opens_238 : decode cX10_opens 238 = .ok (.getfield 7, 3) := by decide +kernel
theorem dX10_opens_241 : decode cX10_opens 241 = .ok (.iload_n 1, 1) := by decide +kernel
theorem dX10_opens_242 : decode cX10_opens 242 = .ok (.sipush 1000, 3) := by decide +kernel
theorem dX10_opens_245 : decode cX10_opens 245 = .ok (.aload_n 0, 1) := by decide +kernel
theorem dX10_opens_246 : decode cX10_opens 246 = .ok (.getfield 7, 3) := by decide +kernel
theorem dX10_opens_249 : decode cX10_opens 249 = .ok (.iload_n 1, 1) := by decide +kernel
theorem dX10_opens_250 : decode cX10_opens 250 = .ok (.iaload, 1) := by decide +kernel
theorem dX10_opens_251 : decode cX10_opens 251 = .ok (.aload_n 0, 1) := by decide +kernel
theorem dX10_opens_252 : decode cX10_opens 252 = .ok (.getfield 32, 3) := by decide +kernel
theorem dX10_opens_255 : decode cX10_opens 255 = .ok (.iload 5, 2) := by decide +kernel
theorem dX10_opens_257 : decode cX10_opens 257 = .ok (.iaload, 1) := by decide +kernel
theorem dX10_opens_258 : decode cX10_opens 258 = .ok (.iadd, 1) := by decide +kernel
theorem dX10_opens_259 : decode cX10_opens 259 = .ok (.invokestatic 112, 3) := by decide +kernel
theorem dX10_opens_262 : decode cX10_opens 262 = .ok (.iastore, 1) := by decide +kernel
theorem dX10_opens_263 : decode cX10_opens 263 = .ok (.aload_n 0, 1) := by decide +kernel
theorem dX10_opens_264 : decode cX10_opens 264 = .ok (.getfield 44, 3) := by decide +kernel
theorem dX10_opens_267 : decode cX10_opens 267 = .ok (.iload 5, 2) := by decide +kernel
theorem dX10_opens_269 : decode cX10_opens 269 = .ok (.iload_n 1, 1) := by decide +kernel
theorem dX10_opens_270 : decode cX10_opens 270 = .ok (.iconst 1, 1) := by decide +kernel
theorem dX10_opens_271 : decode cX10_opens 271 = .ok (.iadd, 1) := by decide +kernel
theorem dX10_opens_272 : decode cX10_opens 272 = .ok (.iastore, 1) := by decide +kernel
theorem dX10_opens_273 : decode cX10_opens 273 = .ok (.aload_n 0, 1) := by decide +kernel
theorem dX10_opens_274 : decode cX10_opens 274 = .ok (.getfield 44, 3) := by decide +kernel
theorem dX10_opens_277 : decode cX10_opens 277 = .ok (.iload 5, 2) := by decide +kernel
theorem dX10_opens_279 : decode cX10_opens 279 = .ok (.iaload, 1) := by decide +kernel
theorem dX10_opens_280 : decode cX10_opens 280 = .ok (.aload_n 0, 1) := by decide +kernel
theorem dX10_opens_281 : decode cX10_opens 281 = .ok (.getfield 121, 3) := by decide +kernel
theorem dX10_opens_284 : decode cX10_opens 284 = .ok (.iconst 1, 1) := by decide +kernel
theorem dX10_opens_285 : decode cX10_opens 285 = .ok (.isub, 1) := by decide +kernel
theorem dX10_opens_286 : decode cX10_opens 286 = .ok (.if_icmp .ne 14, 3) := by decide +kernel
theorem dX10_opens_289 : decode cX10_opens 289 = .ok (.aload_n 0, 1) := by decide +kernel
theorem dX10_opens_290 : decode cX10_opens 290 = .ok (.getfield 47, 3) := by decide +kernel
theorem dX10_opens_293 : decode cX10_opens 293 = .ok (.iload 5, 2) := by decide +kernel
theorem dX10_opens_295 : decode cX10_opens 295 = .ok (.aload_n 0, 1) := by decide +kernel
theorem dX10_opens_296 : decode cX10_opens 296 = .ok (.getfield 144, 3) := by decide +kernel
theorem dX10_opens_299 : decode cX10_opens 299 = .ok (.iastore, 1) := by decide +kernel
theorem dX10_opens_300 : decode cX10_opens 300 = .ok (.aload_n 0, 1) := by decide +kernel
theorem dX10_opens_301 : decode cX10_opens 301 = .ok (.iload 4, 2) := by decide +kernel
theorem dX10_opens_303 : decode cX10_opens 303 = .ok (.invokevirtual 225, 3) := by decide +kernel
theorem dX10_opens_306 : decode cX10_opens 306 = .ok (.istore 5, 2) := by decide +kernel
theorem dX10_opens_308 : decode cX10_opens 308 = .ok (.goto (-237), 3) := by decide +kernel
theorem dX10_opens_311 : decode cX10_opens 311 = .ok (.return_, 1) := by decide +kernel
set_option maxRecDepth 20000 in
theorem ggX10_next_X10_isAhead : GoodIn wsX10_next wsX10_isAhead := goodIn_r _ [7, 8, 9, 10, 11, 12, 13, 14, 15, 16, 17, 18, 19, 20, 21, 22, 23, 24, 25, 26, 27, 28, 29, 30, 31, 32, 33, 34, 35, 36, 37, 38, 39, 40, 41, 42, 43, 44, 45, 46, 47, 48, 49, 50, 51, 52, 53, 54] (by decide +kernel) (by decide +kernel)
set_option maxRecDepth 20000 in
theorem gX10_next_X10_isAhead : GoodIn wsX10_next (wsV RX10 231 RX10 yX10_isAhead wsX10_isAhead) := goodIn_app (goodIn_of _ (by decide +kernel)) ggX10_next_X10_isAhead
theorem dX10_next_0 : decode cX10_next 0 = .ok (.iconst (-1), 1) := by decide +kernel
theorem dX10_next_1 : decode cX10_next 1 = .ok (.istore_n 2, 1) := by decide +kernel
theorem dX10_next_2 : decode cX10_next 2 = .ok (.iconst 0, 1) := by decide +kernel
theorem dX10_next_3 : decode cX10_next 3 = .ok (.istore_n 3, 1) := by decide +kernel
theorem dX10_next_4 : decode cX10_next 4 = .ok (.iload_n 3, 1) := by decide +kernel
theorem dX10_next_5 : decode cX10_next 5 = .ok (.aload_n 0, 1) := by decide +kernel
theorem dX10_next_6 : decode cX10_next 6 = .ok (.getfield 128, 3) := by decide +kernel
theorem dX10_next_9 : decode cX10_next 9 = .ok (.if_icmp .ge 35, 3) := by decide +kernel
theorem dX10_next_12 : decode cX10_next 12 = .ok (.aload_n 0, 1) := by decide +kernel
theorem dX10_next_13 : decode cX10_next 13 = .ok (.getfield 100, 3) := by decide +kernel
theorem dX10_next_16 : decode cX10_next 16 = .ok (.iload_n 3, 1) := by decide +kernel
theorem dX10_next_17 : decode cX10_next 17 = .ok (.baload, 1) := by decide +kernel
theorem dX10_next_18 : decode cX10_next 18 = .ok (.ifCond .ne 20, 3) := by decide +kernel
theorem dX10_next_21 : decode cX10_next 21 = .ok (.iload_n 2, 1) := by decide +kernel
theorem dX10_next_22 : decode cX10_next 22 = .ok (.iconst (-1), 1) := by decide +kernel
theorem dX10_next_23 : decode cX10_next 23 = .ok (.if_icmp .eq 13, 3) := by decide +kernel
theorem dX10_next_26 : decode cX10_next 26 = .ok (.aload_n 0, 1) := by decide +kernel
theorem dX10_next_27 : decode cX10_next 27 = .ok (.iload_n 3, 1) := by decide +kernel
theorem dX10_next_28 : decode cX10_next 28 = .ok (.iload_n 2, 1) := by decide +kernel
theorem dX10_next_29 : decode cX10_next 29 = .ok (.iload_n 1, 1) := by decide +kernel
theorem dX10_next_30 : decode cX10_next 30 = .ok (.invokevirtual 231, 3) := by decide +kernel
theorem dX10_next_33 : decode cX10_next 33 = .ok (.ifCond .eq 5, 3) := by decide +kernel
theorem dX10_next_36 : decode cX10_next 36 = .ok (.iload_n 3, 1) := by decide +kernel
theorem dX10_next_37 : decode cX10_next 37 = .ok (.istore_n 2, 1) := by decide +kernel
theorem dX10_next_38 : decode cX10_next 38 = .ok (.iinc 3 1, 3) := by decide +kernel
theorem dX10_next_41 : decode cX10_next 41 = .ok (.goto (-37), 3) := by decide +kernel
theorem dX10_next_44 : decode cX10_next 44 = .ok (.iload_n 2, 1) := by decide +kernel
theorem dX10_next_45 : decode cX10_next 45 = .ok (.ireturn, 1) := by decide +kernel
set_option maxRecDepth 20000 in
theorem ggX10_told_X10_isSquadron : GoodIn wsX10_told wsX10_isSquadron := goodIn_r _ [13, 14, 15, 16, 12, 17, 26, 27, 28, 29, 30, 31, 32, 33, 34, 35, 36, 37, 38, 39, 40, 41, 42, 43, 44, 45, 46, 47, 48, 49, 50, 51, 52, 53, 54, 55, 56, 57, 58, 59, 60, 61, 62, 63, 64, 65, 66, 67, 68, 69, 70] (by decide +kernel) (by decide +kernel)
set_option maxRecDepth 20000 in
theorem gX10_told_X10_isSquadron : GoodIn wsX10_told (wsV RX10 219 RX10 yX10_isSquadron wsX10_isSquadron) := goodIn_app (goodIn_of _ (by decide +kernel)) ggX10_told_X10_isSquadron
set_option maxRecDepth 20000 in
theorem ggX10_told_X10_isReach : GoodIn wsX10_told wsX10_isReach := goodIn_r _ [21, 22, 15, 16, 12, 17, 26, 27, 28, 29, 30, 31, 32, 33, 34, 35, 36, 37, 38, 39, 40, 41, 42, 43, 44, 45, 46, 47, 48, 49, 50, 51, 52, 53, 54, 55, 56, 57, 58, 59, 60, 61, 62, 63, 64, 65, 66, 67, 68, 69, 70] (by decide +kernel) (by decide +kernel)
set_option maxRecDepth 20000 in
theorem gX10_told_X10_isReach : GoodIn wsX10_told (wsV RX10 131 RX10 yX10_isReach wsX10_isReach) := goodIn_app (goodIn_of _ (by decide +kernel)) ggX10_told_X10_isReach
set_option maxRecDepth 20000 in
theorem ggX10_told_X10_isIn : GoodIn wsX10_told wsX10_isIn := goodIn_r _ [17] (by decide +kernel) (by decide +kernel)
set_option maxRecDepth 20000 in
theorem gX10_told_X10_isIn : GoodIn wsX10_told (va_wsS RX10 124 yX10_isIn wsX10_isIn) := goodIn_app (goodIn_of _ (by decide +kernel)) ggX10_told_X10_isIn
set_option maxRecDepth 20000 in
theorem ggX10_told_X10_one : GoodIn wsX10_told wsX10_one := goodIn_r _ [25] (by decide +kernel) (by decide +kernel)
set_option maxRecDepth 20000 in
theorem gX10_told_X10_one : GoodIn wsX10_told (va_wsS RX10 234 yX10_one wsX10_one) := goodIn_app (goodIn_of _ (by decide +kernel)) ggX10_told_X10_one
theorem dX10_told_0 : decode cX10_told 0 = .ok (.aload_n 0, 1) := by decide +kernel
theorem dX10_told_1 : decode cX10_told 1 = .ok (.iload_n 1, 1) := by decide +kernel
theorem dX10_told_2 : decode cX10_told 2 = .ok (.invokevirtual 219, 3) := by decide +kernel
theorem dX10_told_5 : decode cX10_told 5 = .ok (.ifCond .ne 5, 3) := by decide +kernel
theorem dX10_told_8 : decode cX10_told 8 = .ok (.iconst (-1), 1) := by decide +kernel
theorem dX10_told_9 : decode cX10_told 9 = .ok (.ireturn, 1) := by decide +kernel
theorem dX10_told_10 : decode cX10_told 10 = .ok (.aload_n 0, 1) := by decide +kernel
theorem dX10_told_11 : decode cX10_told 11 = .ok (.iload_n 2, 1) := by decide +kernel
theorem dX10_told_12 : decode cX10_told 12 = .ok (.bipush 10, 2) := by decide +kernel
theorem dX10_told_14 : decode cX10_told 14 = .ok (.isub, 1) := by decide +kernel
theorem dX10_told_15 : decode cX10_told 15 = .ok (.invokevirtual 131, 3) := by decide +kernel
theorem dX10_told_18 : decode cX10_told 18 = .ok (.ifCond .eq 18, 3) := by decide +kernel
theorem dX10_told_21 : decode cX10_told 21 = .ok (.aload_n 0, 1) := by decide +kernel
theorem dX10_told_22 : decode cX10_told 22 = .ok (.getfield 60, 3) := by decide +kernel
theorem dX10_told_25 : decode cX10_told 25 = .ok (.bipush 12, 2) := by decide +kernel
theorem dX10_told_27 : decode cX10_told 27 = .ok (.iload_n 1, 1) := by decide +kernel
theorem dX10_told_28 : decode cX10_told 28 = .ok (.imul, 1) := by decide +kernel
theorem dX10_told_29 : decode cX10_told 29 = .ok (.iload_n 2, 1) := by decide +kernel
theorem dX10_told_30 : decode cX10_told 30 = .ok (.iadd, 1) := by decide +kernel
theorem dX10_told_31 : decode cX10_told 31 = .ok (.bipush 10, 2) := by decide +kernel
theorem dX10_told_33 : decode cX10_told 33 = .ok (.isub, 1) := by decide +kernel
theorem dX10_told_34 : decode cX10_told 34 = .ok (.iaload, 1) := by decide +kernel
theorem dX10_told_35 : decode cX10_told 35 = .ok (.ireturn, 1) := by decide +kernel
theorem dX10_told_36 : decode cX10_told 36 = .ok (.iload_n 2, 1) := by decide +kernel
theorem dX10_told_37 : decode cX10_told 37 = .ok (.bipush 31, 2) := by decide +kernel
theorem dX10_told_39 : decode cX10_told 39 = .ok (.bipush 34, 2) := by decide +kernel
theorem dX10_told_41 : decode cX10_told 41 = .ok (.invokestatic 124, 3) := by decide +kernel
theorem dX10_told_44 : decode cX10_told 44 = .ok (.ifCond .eq 17, 3) := by decide +kernel
theorem dX10_told_47 : decode cX10_told 47 = .ok (.aload_n 0, 1) := by decide +kernel
theorem dX10_told_48 : decode cX10_told 48 = .ok (.getfield 63, 3) := by decide +kernel
theorem dX10_told_51 : decode cX10_told 51 = .ok (.iconst 5, 1) := by decide +kernel
theorem dX10_told_52 : decode cX10_told 52 = .ok (.iload_n 1, 1) := by decide +kernel
theorem dX10_told_53 : decode cX10_told 53 = .ok (.imul, 1) := by decide +kernel
theorem dX10_told_54 : decode cX10_told 54 = .ok (.iload_n 2, 1) := by decide +kernel
theorem dX10_told_55 : decode cX10_told 55 = .ok (.iadd, 1) := by decide +kernel
theorem dX10_told_56 : decode cX10_told 56 = .ok (.bipush 30, 2) := by decide +kernel
theorem dX10_told_58 : decode cX10_told 58 = .ok (.isub, 1) := by decide +kernel
theorem dX10_told_59 : decode cX10_told 59 = .ok (.iaload, 1) := by decide +kernel
theorem dX10_told_60 : decode cX10_told 60 = .ok (.ireturn, 1) := by decide +kernel
theorem dX10_told_61 : decode cX10_told 61 = .ok (.iload_n 2, 1) := by decide +kernel
theorem dX10_told_62 : decode cX10_told 62 = .ok (.tableswitch 100 0 5 #[38, 45, 52, 66, 73, 90], 38) := by decide +kernel
theorem dX10_told_100 : decode cX10_told 100 = .ok (.aload_n 0, 1) := by decide +kernel
theorem dX10_told_101 : decode cX10_told 101 = .ok (.getfield 44, 3) := by decide +kernel
theorem dX10_told_104 : decode cX10_told 104 = .ok (.iload_n 1, 1) := by decide +kernel
theorem dX10_told_105 : decode cX10_told 105 = .ok (.iaload, 1) := by decide +kernel
theorem dX10_told_106 : decode cX10_told 106 = .ok (.ireturn, 1) := by decide +kernel
theorem dX10_told_107 : decode cX10_told 107 = .ok (.aload_n 0, 1) := by decide +kernel
theorem dX10_told_108 : decode cX10_told 108 = .ok (.getfield 47, 3) := by decide +kernel
theorem dX10_told_111 : decode cX10_told 111 = .ok (.iload_n 1, 1) := by decide +kernel
theorem dX10_told_112 : decode cX10_told 112 = .ok (.iaload, 1) := by decide +kernel
theorem dX10_told_113 : decode cX10_told 113 = .ok (.ireturn, 1) := by decide +kernel
theorem dX10_told_114 : decode cX10_told 114 = .ok (.aload_n 0, 1) := by decide +kernel
theorem dX10_told_115 : decode cX10_told 115 = .ok (.getfield 35, 3) := by decide +kernel
theorem dX10_told_118 : decode cX10_told 118 = .ok (.iload_n 1, 1) := by decide +kernel
theorem dX10_told_119 : decode cX10_told 119 = .ok (.iaload, 1) := by decide +kernel
theorem dX10_told_120 : decode cX10_told 120 = .ok (.aload_n 0, 1) := by decide +kernel
theorem dX10_told_121 : decode cX10_told 121 = .ok (.getfield 38, 3) := by decide +kernel
theorem dX10_told_124 : decode cX10_told 124 = .ok (.iload_n 1, 1) := by decide +kernel
theorem dX10_told_125 : decode cX10_told 125 = .ok (.iaload, 1) := by decide +kernel
theorem dX10_told_126 : decode cX10_told 126 = .ok (.isub, 1) := by decide +kernel
theorem dX10_told_127 : decode cX10_told 127 = .ok (.ireturn, 1) := by decide +kernel
theorem dX10_told_128 : decode cX10_told 128 = .ok (.aload_n 0, 1) := by decide +kernel
theorem dX10_told_129 : decode cX10_told 129 = .ok (.getfield 50, 3) := by decide +kernel
theorem dX10_told_132 : decode cX10_told 132 = .ok (.iload_n 1, 1) := by decide +kernel
theorem dX10_told_133 : decode cX10_told 133 = .ok (.iaload, 1) := by decide +kernel
theorem dX10_told_134 : decode cX10_told 134 = .ok (.ireturn, 1) := by decide +kernel
theorem dX10_told_135 : decode cX10_told 135 = .ok (.aload_n 0, 1) := by decide +kernel
theorem dX10_told_136 : decode cX10_told 136 = .ok (.getfield 60, 3) := by decide +kernel
theorem dX10_told_139 : decode cX10_told 139 = .ok (.bipush 12, 2) := by decide +kernel
theorem dX10_told_141 : decode cX10_told 141 = .ok (.iload_n 1, 1) := by decide +kernel
theorem dX10_told_142 : decode cX10_told 142 = .ok (.imul, 1) := by decide +kernel
theorem dX10_told_143 : decode cX10_told 143 = .ok (.aload_n 0, 1) := by decide +kernel
theorem dX10_told_144 : decode cX10_told 144 = .ok (.getfield 44, 3) := by decide +kernel
theorem dX10_told_147 : decode cX10_told 147 = .ok (.iload_n 1, 1) := by decide +kernel
theorem dX10_told_148 : decode cX10_told 148 = .ok (.iaload, 1) := by decide +kernel
theorem dX10_told_149 : decode cX10_told 149 = .ok (.iadd, 1) := by decide +kernel
theorem dX10_told_150 : decode cX10_told 150 = .ok (.iaload, 1) := by decide +kernel
theorem dX10_told_151 : decode cX10_told 151 = .ok (.ireturn, 1) := by decide +kernel
theorem dX10_told_152 : decode cX10_told 152 = .ok (.aload_n 0, 1) := by decide +kernel
theorem dX10_told_153 : decode cX10_told 153 = .ok (.getfield 56, 3) := by decide +kernel
theorem dX10_told_156 : decode cX10_told 156 = .ok (.iload_n 1, 1) := by decide +kernel
theorem dX10_told_157 : decode cX10_told 157 = .ok (.baload, 1) := by decide +kernel
theorem dX10_told_158 : decode cX10_told 158 = .ok (.invokestatic 234, 3) := by decide +kernel
theorem dX10_told_161 : decode cX10_told 161 = .ok (.ireturn, 1) := by decide +kernel
theorem dX10_told_162 : decode cX10_told 162 = .ok (.iconst (-1), 1) := by decide +kernel
theorem dX10_told_163 : decode cX10_told 163 = .ok (.ireturn, 1) := by decide +kernel
set_option maxRecDepth 20000 in
theorem ggX10_judge_X10_isSquadron : GoodIn wsX10_judge wsX10_isSquadron := goodIn_r _ [16, 17, 18, 19, 15, 20, 47, 48, 49, 50, 51, 52, 53, 54, 55, 56, 57, 58, 59, 60, 61, 62, 63, 64, 65, 66, 67, 68, 69, 70, 71, 72, 73, 74, 75, 76, 77, 78, 79, 80, 81, 82, 83, 84, 85, 86, 87, 88, 89, 90, 91] (by decide +kernel) (by decide +kernel)
set_option maxRecDepth 20000 in
theorem gX10_judge_X10_isSquadron : GoodIn wsX10_judge (wsV RX10 219 RX10 yX10_isSquadron wsX10_isSquadron) := goodIn_app (goodIn_of _ (by decide +kernel)) ggX10_judge_X10_isSquadron
set_option maxRecDepth 20000 in
theorem ggX10_judge_X10_isIn : GoodIn wsX10_judge wsX10_isIn := goodIn_r _ [20] (by decide +kernel) (by decide +kernel)
set_option maxRecDepth 20000 in
theorem gX10_judge_X10_isIn : GoodIn wsX10_judge (va_wsS RX10 124 yX10_isIn wsX10_isIn) := goodIn_app (goodIn_of _ (by decide +kernel)) ggX10_judge_X10_isIn
set_option maxRecDepth 20000 in
theorem ggX10_judge_X10_allowed : GoodIn wsX10_judge wsX10_allowed := goodIn_r _ [24, 25, 26, 27, 15, 28, 29, 30, 31, 32, 33, 34, 35, 36, 37, 38, 47, 48, 49, 50, 51, 52, 53, 54, 55, 56, 57, 58, 59, 60, 61, 62, 63, 64, 65, 66, 67, 68, 69, 70, 71, 72, 73, 74, 75, 76, 77, 78, 79, 80, 81, 82, 83, 84, 85, 86, 87, 88, 89, 90, 91] (by decide +kernel) (by decide +kernel)
set_option maxRecDepth 20000 in
theorem gX10_judge_X10_allowed : GoodIn wsX10_judge (wsV RX10 216 RX10 yX10_allowed wsX10_allowed) := goodIn_app (goodIn_of _ (by decide +kernel)) ggX10_judge_X10_allowed
set_option maxRecDepth 20000 in
theorem ggX10_judge_X10_law : GoodIn wsX10_judge wsX10_law := goodIn_r _ [42, 18, 19, 15, 20, 25, 26, 27, 28, 29, 30, 31, 32, 33, 34, 35, 36, 37, 38, 43, 44, 45, 46, 2, 21, 22, 23, 24, 47, 48, 49, 50, 51, 52, 53, 54, 55, 56, 57, 58, 59, 60, 61, 62, 63, 64, 65, 66, 67, 68, 69, 70, 71, 72, 73, 74, 75, 76, 77, 78, 79, 80, 81, 82, 83, 84, 85, 86, 87, 88, 89, 90, 91] (by decide +kernel) (by decide +kernel)
set_option maxRecDepth 20000 in
theorem gX10_judge_X10_law : GoodIn wsX10_judge (wsV RX10 238 RX10 yX10_law wsX10_law) := goodIn_app (goodIn_of _ (by decide +kernel)) ggX10_judge_X10_law
theorem dX10_judge_0 : decode cX10_judge 0 = .ok (.aload_n 0, 1) := by decide +kernel
theorem dX10_judge_1 : decode cX10_judge 1 = .ok (.iload_n 1, 1) := by decide +kernel
theorem dX10_judge_2 : decode cX10_judge 2 = .ok (.invokevirtual 219, 3) := by decide +kernel
theorem dX10_judge_5 : decode cX10_judge 5 = .ok (.ifCond .eq 22, 3) := by decide +kernel
theorem dX10_judge_8 : decode cX10_judge 8 = .ok (.aload_n 0, 1) := by decide +kernel
theorem dX10_judge_9 : decode cX10_judge 9 = .ok (.getfield 47, 3) := by decide +kernel
theorem dX10_judge_12 : decode cX10_judge 12 = .ok (.iload_n 1, 1) := by decide +kernel
theorem dX10_judge_13 : decode cX10_judge 13 = .ok (.iaload, 1) := by decide +kernel
theorem dX10_judge_14 : decode cX10_judge 14 = .ok (.iconst (-1), 1) := by decide +kernel
theorem dX10_judge_15 : decode cX10_judge 15 = .ok (.if_icmp .eq 12, 3) := by decide +kernel
theorem dX10_judge_18 : decode cX10_judge 18 = .ok (.iload_n 2, 1) := by decide +kernel
theorem dX10_judge_19 : decode cX10_judge 19 = .ok (.iconst 0, 1) := by decide +kernel
theorem dX10_judge_20 : decode cX10_judge 20 = .ok (.iconst 3, 1) := by decide +kernel
theorem dX10_judge_21 : decode cX10_judge 21 = .ok (.invokestatic 124, 3) := by decide +kernel
theorem dX10_judge_24 : decode cX10_judge 24 = .ok (.ifCond .ne 5, 3) := by decide +kernel
theorem dX10_judge_27 : decode cX10_judge 27 = .ok (.iconst (-1), 1) := by decide +kernel
theorem dX10_judge_28 : decode cX10_judge 28 = .ok (.ireturn, 1) := by decide +kernel
theorem dX10_judge_29 : decode cX10_judge 29 = .ok (.aload_n 0, 1) := by decide +kernel
theorem dX10_judge_30 : decode cX10_judge 30 = .ok (.getfield 47, 3) := by decide +kernel
theorem dX10_judge_33 : decode cX10_judge 33 = .ok (.iload_n 1, 1) := by decide +kernel
theorem dX10_judge_34 : decode cX10_judge 34 = .ok (.iaload, 1) := by decide +kernel
theorem dX10_judge_35 : decode cX10_judge 35 = .ok (.istore_n 3, 1) := by decide +kernel
theorem dX10_judge_36 : decode cX10_judge 36 = .ok (.iconst 0, 1) := by decide +kernel
theorem dX10_judge_37 : decode cX10_judge 37 = .ok (.istore 4, 2) := by decide +kernel
theorem dX10_judge_39 : decode cX10_judge 39 = .ok (.iconst 0, 1) := by decide +kernel
theorem dX10_judge_40 : decode cX10_judge 40 = .ok (.istore 5, 2) := by decide +kernel
theorem dX10_judge_42 : decode cX10_judge 42 = .ok (.iload 5, 2) := by decide +kernel
theorem dX10_judge_44 : decode cX10_judge 44 = .ok (.aload_n 0, 1) := by decide +kernel
theorem dX10_judge_45 : decode cX10_judge 45 = .ok (.getfield 121, 3) := by decide +kernel
theorem dX10_judge_48 : decode cX10_judge 48 = .ok (.iconst 1, 1) := by decide +kernel
theorem dX10_judge_49 : decode cX10_judge 49 = .ok (.isub, 1) := by decide +kernel
theorem dX10_judge_50 : decode cX10_judge 50 = .ok (.if_icmp .ge 38, 3) := by decide +kernel
theorem dX10_judge_53 : decode cX10_judge 53 = .ok (.iload 4, 2) := by decide +kernel
theorem dX10_judge_55 : decode cX10_judge 55 = .ok (.iconst 0, 1) := by decide +kernel
theorem dX10_judge_56 : decode cX10_judge 56 = .ok (.aload_n 0, 1) := by decide +kernel
theorem dX10_judge_57 : decode cX10_judge 57 = .ok (.getfield 60, 3) := by decide +kernel
theorem dX10_judge_60 : decode cX10_judge 60 = .ok (.bipush 12, 2) := by decide +kernel
theorem dX10_judge_62 : decode cX10_judge 62 = .ok (.iload_n 1, 1) := by decide +kernel
theorem dX10_judge_63 : decode cX10_judge 63 = .ok (.imul, 1) := by decide +kernel
theorem dX10_judge_64 : decode cX10_judge 64 = .ok (.iload 5, 2) := by decide +kernel
theorem dX10_judge_66 : decode cX10_judge 66 = .ok (.iadd, 1) := by decide +kernel
theorem dX10_judge_67 : decode cX10_judge 67 = .ok (.iaload, 1) := by decide +kernel
theorem dX10_judge_68 : decode cX10_judge 68 = .ok (.aload_n 0, 1) := by decide +kernel
theorem dX10_judge_69 : decode cX10_judge 69 = .ok (.iload_n 3, 1) := by decide +kernel
theorem dX10_judge_70 : decode cX10_judge 70 = .ok (.iload 5, 2) := by decide +kernel
theorem dX10_judge_72 : decode cX10_judge 72 = .ok (.invokevirtual 216, 3) := by decide +kernel
theorem dX10_judge_75 : decode cX10_judge 75 = .ok (.isub, 1) := by decide +kernel
theorem dX10_judge_76 : decode cX10_judge 76 = .ok (.invokestatic 118, 3) := by decide +kernel
theorem dX10_judge_79 : decode cX10_judge 79 = .ok (.iadd, 1) := by decide +kernel
theorem dX10_judge_80 : decode cX10_judge 80 = .ok (.istore 4, 2) := by decide +kernel
theorem dX10_judge_82 : decode cX10_judge 82 = .ok (.iinc 5 1, 3) := by decide +kernel
theorem dX10_judge_85 : decode cX10_judge 85 = .ok (.goto (-43), 3) := by decide +kernel
theorem dX10_judge_88 : decode cX10_judge 88 = .ok (.iconst 0, 1) := by decide +kernel
theorem dX10_judge_89 : decode cX10_judge 89 = .ok (.aload_n 0, 1) := by decide +kernel
theorem dX10_judge_90 : decode cX10_judge 90 = .ok (.getfield 38, 3) := by decide +kernel
theorem dX10_judge_93 : decode cX10_judge 93 = .ok (.iload_n 1, 1) := by decide +kernel
theorem dX10_judge_94 : decode cX10_judge 94 = .ok (.iaload, 1) := by decide +kernel
theorem dX10_judge_95 : decode cX10_judge 95 = .ok (.aload_n 0, 1) := by decide +kernel
theorem dX10_judge_96 : decode cX10_judge 96 = .ok (.getfield 35, 3) := by decide +kernel
theorem dX10_judge_99 : decode cX10_judge 99 = .ok (.iload_n 1, 1) := by decide +kernel
theorem dX10_judge_100 : decode cX10_judge 100 = .ok (.iaload, 1) := by decide +kernel
theorem dX10_judge_101 : decode cX10_judge 101 = .ok (.aload_n 0, 1) := by decide +kernel
theorem dX10_judge_102 : decode cX10_judge 102 = .ok (.iload_n 3, 1) := by decide +kernel
theorem dX10_judge_103 : decode cX10_judge 103 = .ok (.iconst 1, 1) := by decide +kernel
theorem dX10_judge_104 : decode cX10_judge 104 = .ok (.invokevirtual 238, 3) := by decide +kernel
theorem dX10_judge_107 : decode cX10_judge 107 = .ok (.imul, 1) := by decide +kernel
theorem dX10_judge_108 : decode cX10_judge 108 = .ok (.sipush 1000, 3) := by decide +kernel
theorem dX10_judge_111 : decode cX10_judge 111 = .ok (.idiv, 1) := by decide +kernel
theorem dX10_judge_112 : decode cX10_judge 112 = .ok (.isub, 1) := by decide +kernel
theorem dX10_judge_113 : decode cX10_judge 113 = .ok (.invokestatic 118, 3) := by decide +kernel
theorem dX10_judge_116 : decode cX10_judge 116 = .ok (.istore 5, 2) := by decide +kernel
theorem dX10_judge_118 : decode cX10_judge 118 = .ok (.iconst 0, 1) := by decide +kernel
theorem dX10_judge_119 : decode cX10_judge 119 = .ok (.aload_n 0, 1) := by decide +kernel
theorem dX10_judge_120 : decode cX10_judge 120 = .ok (.getfield 41, 3) := by decide +kernel
theorem dX10_judge_123 : decode cX10_judge 123 = .ok (.iload_n 1, 1) := by decide +kernel
theorem dX10_judge_124 : decode cX10_judge 124 = .ok (.iaload, 1) := by decide +kernel
theorem dX10_judge_125 : decode cX10_judge 125 = .ok (.aload_n 0, 1) := by decide +kernel
theorem dX10_judge_126 : decode cX10_judge 126 = .ok (.iload_n 3, 1) := by decide +kernel
theorem dX10_judge_127 : decode cX10_judge 127 = .ok (.iconst 2, 1) := by decide +kernel
theorem dX10_judge_128 : decode cX10_judge 128 = .ok (.invokevirtual 238, 3) := by decide +kernel
theorem dX10_judge_131 : decode cX10_judge 131 = .ok (.aload_n 0, 1) := by decide +kernel
theorem dX10_judge_132 : decode cX10_judge 132 = .ok (.getfield 32, 3) := by decide +kernel
theorem dX10_judge_135 : decode cX10_judge 135 = .ok (.iload_n 1, 1) := by decide +kernel
theorem dX10_judge_136 : decode cX10_judge 136 = .ok (.iaload, 1) := by decide +kernel
theorem dX10_judge_137 : decode cX10_judge 137 = .ok (.imul, 1) := by decide +kernel
theorem dX10_judge_138 : decode cX10_judge 138 = .ok (.isub, 1) := by decide +kernel
theorem dX10_judge_139 : decode cX10_judge 139 = .ok (.invokestatic 118, 3) := by decide +kernel
theorem dX10_judge_142 : decode cX10_judge 142 = .ok (.istore 6, 2) := by decide +kernel
theorem dX10_judge_144 : decode cX10_judge 144 = .ok (.iload_n 2, 1) := by decide +kernel
theorem dX10_judge_145 : decode cX10_judge 145 = .ok (.ifCond .ne 8, 3) := by decide +kernel
theorem dX10_judge_148 : decode cX10_judge 148 = .ok (.iload 4, 2) := by decide +kernel
theorem dX10_judge_150 : decode cX10_judge 150 = .ok (.goto 38, 3) := by decide +kernel
theorem dX10_judge_153 : decode cX10_judge 153 = .ok (.iload_n 2, 1) := by decide +kernel
theorem dX10_judge_154 : decode cX10_judge 154 = .ok (.iconst 1, 1) := by decide +kernel
theorem dX10_judge_155 : decode cX10_judge 155 = .ok (.if_icmp .ne 8, 3) := by decide +kernel
theorem dX10_judge_158 : decode cX10_judge 158 = .ok (.iload 5, 2) := by decide +kernel
theorem dX10_judge_160 : decode cX10_judge 160 = .ok (.goto 28, 3) := by decide +kernel
theorem dX10_judge_163 : decode cX10_judge 163 = .ok (.iload_n 2, 1) := by decide +kernel
theorem dX10_judge_164 : decode cX10_judge 164 = .ok (.iconst 2, 1) := by decide +kernel
theorem dX10_judge_165 : decode cX10_judge 165 = .ok (.if_icmp .ne 8, 3) := by decide +kernel
theorem dX10_judge_168 : decode cX10_judge 168 = .ok (.iload 6, 2) := by decide +kernel
theorem dX10_judge_170 : decode cX10_judge 170 = .ok (.goto 18, 3) := by decide +kernel
theorem dX10_judge_173 : decode cX10_judge 173 = .ok (.aload_n 0, 1) := by decide +kernel
theorem dX10_judge_174 : decode cX10_judge 174 = .ok (.iload_n 3, 1) := by decide +kernel
theorem dX10_judge_175 : decode cX10_judge 175 = .ok (.iconst 3, 1) := by decide +kernel
theorem dX10_judge_176 : decode cX10_judge 176 = .ok (.invokevirtual 238, 3) := by decide +kernel
theorem dX10_judge_179 : decode cX10_judge 179 = .ok (.iload 4, 2) := by decide +kernel
theorem dX10_judge_181 : decode cX10_judge 181 = .ok (.iload 5, 2) := by decide +kernel
theorem dX10_judge_183 : decode cX10_judge 183 = .ok (.iadd, 1) := by decide +kernel
theorem dX10_judge_184 : decode cX10_judge 184 = .ok (.iload 6, 2) := by decide +kernel
theorem dX10_judge_186 : decode cX10_judge 186 = .ok (.iadd, 1) := by decide +kernel
theorem dX10_judge_187 : decode cX10_judge 187 = .ok (.imul, 1) := by decide +kernel
theorem dX10_judge_188 : decode cX10_judge 188 = .ok (.ireturn, 1) := by decide +kernel
set_option maxRecDepth 20000 in
theorem ggX10_reach_X10_isReach : GoodIn wsX10_reach wsX10_isReach := goodIn_r _ [10, 11, 12, 13, 9, 14, 29, 30, 31, 32, 33, 34, 35, 36, 37, 38, 39, 40, 41, 42, 43, 44, 45, 46, 47, 48, 49, 50, 51, 52, 53, 54, 55, 56, 57, 58, 59, 60, 61, 62, 63, 64, 65, 66, 67, 68, 69, 70, 71, 72, 73] (by decide +kernel) (by decide +kernel)
set_option maxRecDepth 20000 in
theorem gX10_reach_X10_isReach : GoodIn wsX10_reach (wsV RX10 131 RX10 yX10_isReach wsX10_isReach) := goodIn_app (goodIn_of _ (by decide +kernel)) ggX10_reach_X10_isReach
set_option maxRecDepth 20000 in
theorem ggX10_reach_X10_hasIce : GoodIn wsX10_reach wsX10_hasIce := goodIn_r _ [18, 19, 20, 21, 29, 30, 31, 32, 33, 34, 35, 36, 37, 38, 39, 40, 41, 42, 43, 44, 45, 46, 47, 48, 49, 50, 51, 52, 53, 54, 55, 56, 57, 58, 59, 60, 61, 62, 63, 64, 65, 66, 67, 68, 69, 70, 71, 72, 73] (by decide +kernel) (by decide +kernel)
set_option maxRecDepth 20000 in
theorem gX10_reach_X10_hasIce : GoodIn wsX10_reach (wsV RX10 228 RX10 yX10_hasIce wsX10_hasIce) := goodIn_app (goodIn_of _ (by decide +kernel)) ggX10_reach_X10_hasIce
set_option maxRecDepth 20000 in
theorem ggX10_reach_X10_one : GoodIn wsX10_reach wsX10_one := goodIn_r _ [24] (by decide +kernel) (by decide +kernel)
set_option maxRecDepth 20000 in
theorem gX10_reach_X10_one : GoodIn wsX10_reach (va_wsS RX10 234 yX10_one wsX10_one) := goodIn_app (goodIn_of _ (by decide +kernel)) ggX10_reach_X10_one
set_option maxRecDepth 20000 in
theorem ggX10_reach_X10_isLock : GoodIn wsX10_reach wsX10_isLock := goodIn_r _ [28, 11, 12, 13, 9, 14, 29, 30, 31, 32, 33, 34, 35, 36, 37, 38, 39, 40, 41, 42, 43, 44, 45, 46, 47, 48, 49, 50, 51, 52, 53, 54, 55, 56, 57, 58, 59, 60, 61, 62, 63, 64, 65, 66, 67, 68, 69, 70, 71, 72, 73] (by decide +kernel) (by decide +kernel)
set_option maxRecDepth 20000 in
theorem gX10_reach_X10_isLock : GoodIn wsX10_reach (wsV RX10 135 RX10 yX10_isLock wsX10_isLock) := goodIn_app (goodIn_of _ (by decide +kernel)) ggX10_reach_X10_isLock
theorem dX10_reach_0 : decode cX10_reach 0 = .ok (.aload_n 0, 1) := by decide +kernel
theorem dX10_reach_1 : decode cX10_reach 1 = .ok (.iload_n 1, 1) := by decide +kernel
theorem dX10_reach_2 : decode cX10_reach 2 = .ok (.invokevirtual 131, 3) := by decide +kernel
theorem dX10_reach_5 : decode cX10_reach 5 = .ok (.ifCond .ne 5, 3) := by decide +kernel
theorem dX10_reach_8 : decode cX10_reach 8 = .ok (.iconst (-1), 1) := by decide +kernel
theorem dX10_reach_9 : decode cX10_reach 9 = .ok (.ireturn, 1) := by decide +kernel
theorem dX10_reach_10 : decode cX10_reach 10 = .ok (.iconst 0, 1) := by decide +kernel
theorem dX10_reach_11 : decode cX10_reach 11 = .ok (.istore_n 3, 1) := by decide +kernel
theorem dX10_reach_12 : decode cX10_reach 12 = .ok (.iconst 0, 1) := by decide +kernel
theorem dX10_reach_13 : decode cX10_reach 13 = .ok (.istore 4, 2) := by decide +kernel
theorem dX10_reach_15 : decode cX10_reach 15 = .ok (.iload 4, 2) := by decide +kernel
theorem dX10_reach_17 : decode cX10_reach 17 = .ok (.aload_n 0, 1) := by decide +kernel
theorem dX10_reach_18 : decode cX10_reach 18 = .ok (.getfield 128, 3) := by decide +kernel
theorem dX10_reach_21 : decode cX10_reach 21 = .ok (.if_icmp .ge 34, 3) := by decide +kernel
theorem dX10_reach_24 : decode cX10_reach 24 = .ok (.iload_n 3, 1) := by decide +kernel
theorem dX10_reach_25 : decode cX10_reach 25 = .ok (.aload_n 0, 1) := by decide +kernel
theorem dX10_reach_26 : decode cX10_reach 26 = .ok (.getfield 44, 3) := by decide +kernel
theorem dX10_reach_29 : decode cX10_reach 29 = .ok (.iload 4, 2) := by decide +kernel
theorem dX10_reach_31 : decode cX10_reach 31 = .ok (.iaload, 1) := by decide +kernel
theorem dX10_reach_32 : decode cX10_reach 32 = .ok (.iload_n 1, 1) := by decide +kernel
theorem dX10_reach_33 : decode cX10_reach 33 = .ok (.if_icmp .ne 13, 3) := by decide +kernel
theorem dX10_reach_36 : decode cX10_reach 36 = .ok (.aload_n 0, 1) := by decide +kernel
theorem dX10_reach_37 : decode cX10_reach 37 = .ok (.getfield 32, 3) := by decide +kernel
theorem dX10_reach_40 : decode cX10_reach 40 = .ok (.iload 4, 2) := by decide +kernel
theorem dX10_reach_42 : decode cX10_reach 42 = .ok (.iaload, 1) := by decide +kernel
theorem dX10_reach_43 : decode cX10_reach 43 = .ok (.goto 4, 3) := by decide +kernel
theorem dX10_reach_46 : decode cX10_reach 46 = .ok (.iconst 0, 1) := by decide +kernel
theorem dX10_reach_47 : decode cX10_reach 47 = .ok (.iadd, 1) := by decide +kernel
theorem dX10_reach_48 : decode cX10_reach 48 = .ok (.istore_n 3, 1) := by decide +kernel
theorem dX10_reach_49 : decode cX10_reach 49 = .ok (.iinc 4 1, 3) := by decide +kernel
theorem dX10_reach_52 : decode cX10_reach 52 = .ok (.goto (-37), 3) := by decide +kernel
theorem dX10_reach_55 : decode cX10_reach 55 = .ok (.iload_n 2, 1) := by decide +kernel
theorem dX10_reach_56 : decode cX10_reach 56 = .ok (.ifCond .ne 12, 3) := by decide +kernel
theorem dX10_reach_59 : decode cX10_reach 59 = .ok (.aload_n 0, 1) := by decide +kernel
theorem dX10_reach_60 : decode cX10_reach 60 = .ok (.getfield 7, 3) := by decide +kernel
theorem dX10_reach_63 : decode cX10_reach 63 = .ok (.iload_n 1, 1) := by decide +kernel
theorem dX10_reach_64 : decode cX10_reach 64 = .ok (.iaload, 1) := by decide +kernel
theorem dX10_reach_65 : decode cX10_reach 65 = .ok (.goto 51, 3) := by decide +kernel
theorem dX10_reach_68 : decode cX10_reach 68 = .ok (.iload_n 2, 1) := by decide +kernel
theorem dX10_reach_69 : decode cX10_reach 69 = .ok (.iconst 1, 1) := by decide +kernel
theorem dX10_reach_70 : decode cX10_reach 70 = .ok (.if_icmp .ne 7, 3) := by decide +kernel
theorem dX10_reach_73 : decode cX10_reach 73 = .ok (.iload_n 3, 1) := by decide +kernel
theorem dX10_reach_74 : decode cX10_reach 74 = .ok (.goto 42, 3) := by decide +kernel
theorem dX10_reach_77 : decode cX10_reach 77 = .ok (.iload_n 2, 1) := by decide +kernel
theorem dX10_reach_78 : decode cX10_reach 78 = .ok (.iconst 2, 1) := by decide +kernel
theorem dX10_reach_79 : decode cX10_reach 79 = .ok (.if_icmp .ne 14, 3) := by decide +kernel
theorem dX10_reach_82 : decode cX10_reach 82 = .ok (.aload_n 0, 1) := by decide +kernel
theorem dX10_reach_83 : decode cX10_reach 83 = .ok (.iload_n 1, 1) := by decide +kernel
theorem dX10_reach_84 : decode cX10_reach 84 = .ok (.invokevirtual 228, 3) := by decide +kernel
theorem dX10_reach_87 : decode cX10_reach 87 = .ok (.invokestatic 234, 3) := by decide +kernel
theorem dX10_reach_90 : decode cX10_reach 90 = .ok (.goto 26, 3) := by decide +kernel
theorem dX10_reach_93 : decode cX10_reach 93 = .ok (.iload_n 2, 1) := by decide +kernel
theorem dX10_reach_94 : decode cX10_reach 94 = .ok (.iconst 3, 1) := by decide +kernel
theorem dX10_reach_95 : decode cX10_reach 95 = .ok (.if_icmp .ne 20, 3) := by decide +kernel
theorem dX10_reach_98 : decode cX10_reach 98 = .ok (.aload_n 0, 1) := by decide +kernel
theorem dX10_reach_99 : decode cX10_reach 99 = .ok (.iload_n 1, 1) := by decide +kernel
theorem dX10_reach_100 : decode cX10_reach 100 = .ok (.invokevirtual 135, 3) := by decide +kernel
theorem dX10_reach_103 : decode cX10_reach 103 = .ok (.ifCond .eq 12, 3) := by decide +kernel
theorem dX10_reach_106 : decode cX10_reach 106 = .ok (.aload_n 0, 1) := by decide +kernel
theorem dX10_reach_107 : decode cX10_reach 107 = .ok (.getfield 13, 3) := by decide +kernel
theorem dX10_reach_110 : decode cX10_reach 110 = .ok (.iload_n 1, 1) := by decide +kernel
theorem dX10_reach_111 : decode cX10_reach 111 = .ok (.iaload, 1) := by decide +kernel
theorem dX10_reach_112 : decode cX10_reach 112 = .ok (.goto 4, 3) := by decide +kernel
theorem dX10_reach_115 : decode cX10_reach 115 = .ok (.iconst (-1), 1) := by decide +kernel
theorem dX10_reach_116 : decode cX10_reach 116 = .ok (.ireturn, 1) := by decide +kernel
set_option maxRecDepth 20000 in
theorem ggX10_store_X10_isIn : GoodIn wsX10_store wsX10_isIn := goodIn_r _ [6] (by decide +kernel) (by decide +kernel)
set_option maxRecDepth 20000 in
theorem gX10_store_X10_isIn : GoodIn wsX10_store (va_wsS RX10 124 yX10_isIn wsX10_isIn) := goodIn_app (goodIn_of _ (by decide +kernel)) ggX10_store_X10_isIn
theorem dX10_store_0 : decode cX10_store 0 = .ok (.iload_n 1, 1) := by decide +kernel
theorem dX10_store_1 : decode cX10_store 1 = .ok (.iconst 0, 1) := by decide +kernel
theorem dX10_store_2 : decode cX10_store 2 = .ok (.aload_n 0, 1) := by decide +kernel
theorem dX10_store_3 : decode cX10_store 3 = .ok (.getfield 138, 3) := by decide +kernel
theorem dX10_store_6 : decode cX10_store 6 = .ok (.iconst 1, 1) := by decide +kernel
theorem dX10_store_7 : decode cX10_store 7 = .ok (.isub, 1) := by decide +kernel
theorem dX10_store_8 : decode cX10_store 8 = .ok (.invokestatic 124, 3) := by decide +kernel
theorem dX10_store_11 : decode cX10_store 11 = .ok (.ifCond .eq 12, 3) := by decide +kernel
theorem dX10_store_14 : decode cX10_store 14 = .ok (.aload_n 0, 1) := by decide +kernel
theorem dX10_store_15 : decode cX10_store 15 = .ok (.getfield 23, 3) := by decide +kernel
theorem dX10_store_18 : decode cX10_store 18 = .ok (.iload_n 1, 1) := by decide +kernel
theorem dX10_store_19 : decode cX10_store 19 = .ok (.iaload, 1) := by decide +kernel
theorem dX10_store_20 : decode cX10_store 20 = .ok (.goto 4, 3) := by decide +kernel
theorem dX10_store_23 : decode cX10_store 23 = .ok (.iconst (-1), 1) := by decide +kernel
theorem dX10_store_24 : decode cX10_store 24 = .ok (.ireturn, 1) := by decide +kernel
set_option maxRecDepth 20000 in
theorem ggX10_allot_X10_isCounty : GoodIn wsX10_allot wsX10_isCounty := goodIn_r _ [5, 6, 7, 4, 8] (by decide +kernel) (by decide +kernel)
set_option maxRecDepth 20000 in
theorem gX10_allot_X10_isCounty : GoodIn wsX10_allot (va_wsS RX10 147 yX10_isCounty wsX10_isCounty) := goodIn_app (goodIn_of _ (by decide +kernel)) ggX10_allot_X10_isCounty
set_option maxRecDepth 20000 in
theorem ggX10_allot_X10_isIn : GoodIn wsX10_allot wsX10_isIn := goodIn_r _ [8] (by decide +kernel) (by decide +kernel)
set_option maxRecDepth 20000 in
theorem gX10_allot_X10_isIn : GoodIn wsX10_allot (va_wsS RX10 124 yX10_isIn wsX10_isIn) := goodIn_app (goodIn_of _ (by decide +kernel)) ggX10_allot_X10_isIn
theorem dX10_allot_0 : decode cX10_allot 0 = .ok (.iload_n 1, 1) := by decide +kernel
theorem dX10_allot_1 : decode cX10_allot 1 = .ok (.invokestatic 147, 3) := by decide +kernel
theorem dX10_allot_4 : decode cX10_allot 4 = .ok (.ifCond .eq 14, 3) := by decide +kernel
theorem dX10_allot_7 : decode cX10_allot 7 = .ok (.iload_n 2, 1) := by decide +kernel
theorem dX10_allot_8 : decode cX10_allot 8 = .ok (.iconst 0, 1) := by decide +kernel
theorem dX10_allot_9 : decode cX10_allot 9 = .ok (.sipush 10000, 3) := by decide +kernel
theorem dX10_allot_12 : decode cX10_allot 12 = .ok (.invokestatic 124, 3) := by decide +kernel
theorem dX10_allot_15 : decode cX10_allot 15 = .ok (.ifCond .ne 5, 3) := by decide +kernel
theorem dX10_allot_18 : decode cX10_allot 18 = .ok (.iconst 0, 1) := by decide +kernel
theorem dX10_allot_19 : decode cX10_allot 19 = .ok (.ireturn, 1) := by decide +kernel
theorem dX10_allot_20 : decode cX10_allot 20 = .ok (.aload_n 0, 1) := by decide +kernel
theorem dX10_allot_21 : decode cX10_allot 21 = .ok (.getfield 66, 3) := by decide +kernel
theorem dX10_allot_24 : decode cX10_allot 24 = .ok (.iload_n 1, 1) := by decide +kernel
theorem dX10_allot_25 : decode cX10_allot 25 = .ok (.iload_n 2, 1) := by decide +kernel
theorem dX10_allot_26 : decode cX10_allot 26 = .ok (.iastore, 1) := by decide +kernel
theorem dX10_allot_27 : decode cX10_allot 27 = .ok (.iconst 1, 1) := by decide +kernel
theorem dX10_allot_28 : decode cX10_allot 28 = .ok (.ireturn, 1) := by decide +kernel
set_option maxRecDepth 20000 in
theorem ggX10_rate_X10_isIn : GoodIn wsX10_rate wsX10_isIn := goodIn_r _ [5] (by decide +kernel) (by decide +kernel)
set_option maxRecDepth 20000 in
theorem gX10_rate_X10_isIn : GoodIn wsX10_rate (va_wsS RX10 124 yX10_isIn wsX10_isIn) := goodIn_app (goodIn_of _ (by decide +kernel)) ggX10_rate_X10_isIn
theorem dX10_rate_0 : decode cX10_rate 0 = .ok (.iload_n 1, 1) := by decide +kernel
theorem dX10_rate_1 : decode cX10_rate 1 = .ok (.iconst 0, 1) := by decide +kernel
theorem dX10_rate_2 : decode cX10_rate 2 = .ok (.bipush 100, 2) := by decide +kernel
theorem dX10_rate_4 : decode cX10_rate 4 = .ok (.invokestatic 124, 3) := by decide +kernel
theorem dX10_rate_7 : decode cX10_rate 7 = .ok (.ifCond .ne 5, 3) := by decide +kernel
theorem dX10_rate_10 : decode cX10_rate 10 = .ok (.iconst 0, 1) := by decide +kernel
theorem dX10_rate_11 : decode cX10_rate 11 = .ok (.ireturn, 1) := by decide +kernel
theorem dX10_rate_12 : decode cX10_rate 12 = .ok (.aload_n 0, 1) := by decide +kernel
theorem dX10_rate_13 : decode cX10_rate 13 = .ok (.iload_n 1, 1) := by decide +kernel
theorem dX10_rate_14 : decode cX10_rate 14 = .ok (.putfield 241, 3) := by decide +kernel
theorem dX10_rate_17 : decode cX10_rate 17 = .ok (.iconst 1, 1) := by decide +kernel
theorem dX10_rate_18 : decode cX10_rate 18 = .ok (.ireturn, 1) := by decide +kernel
set_option maxRecDepth 20000 in
theorem ggX10_commute_X10_isCounty : GoodIn wsX10_commute wsX10_isCounty := goodIn_r _ [8, 9, 10, 7, 11] (by decide +kernel) (by decide +kernel)
set_option maxRecDepth 20000 in
theorem gX10_commute_X10_isCounty : GoodIn wsX10_commute (va_wsS RX10 147 yX10_isCounty wsX10_isCounty) := goodIn_app (goodIn_of _ (by decide +kernel)) ggX10_commute_X10_isCounty
set_option maxRecDepth 20000 in
theorem ggX10_commute_X10_isIn : GoodIn wsX10_commute wsX10_isIn := goodIn_r _ [11] (by decide +kernel) (by decide +kernel)
set_option maxRecDepth 20000 in
theorem gX10_commute_X10_isIn : GoodIn wsX10_commute (va_wsS RX10 124 yX10_isIn wsX10_isIn) := goodIn_app (goodIn_of _ (by decide +kernel)) ggX10_commute_X10_isIn
theorem dX10_commute_0 : decode cX10_commute 0 = .ok (.iload_n 1, 1) := by decide +kernel
theorem dX10_commute_1 : decode cX10_commute 1 = .ok (.invokestatic 147, 3) := by decide +kernel
theorem dX10_commute_4 : decode cX10_commute 4 = .ok (.ifCond .eq 24, 3) := by decide +kernel
theorem dX10_commute_7 : decode cX10_commute 7 = .ok (.iload_n 2, 1) := by decide +kernel
theorem dX10_commute_8 : decode cX10_commute 8 = .ok (.iconst 1, 1) := by decide +kernel
theorem dX10_commute_9 : decode cX10_commute 9 = .ok (.aload_n 0, 1) := by decide +kernel
theorem dX10_commute_10 : decode cX10_commute 10 = .ok (.getfield 66, 3) := by decide +kernel
theorem dX10_commute_13 : decode cX10_commute 13 = .ok (.iload_n 1, 1) := by decide +kernel
theorem dX10_commute_14 : decode cX10_commute 14 = .ok (.iaload, 1) := by decide +kernel
theorem dX10_commute_15 : decode cX10_commute 15 = .ok (.aload_n 0, 1) := by decide +kernel
theorem dX10_commute_16 : decode cX10_commute 16 = .ok (.getfield 69, 3) := by decide +kernel
theorem dX10_commute_19 : decode cX10_commute 19 = .ok (.iload_n 1, 1) := by decide +kernel
theorem dX10_commute_20 : decode cX10_commute 20 = .ok (.iaload, 1) := by decide +kernel
theorem dX10_commute_21 : decode cX10_commute 21 = .ok (.isub, 1) := by decide +kernel
theorem dX10_commute_22 : decode cX10_commute 22 = .ok (.invokestatic 124, 3) := by decide +kernel
theorem dX10_commute_25 : decode cX10_commute 25 = .ok (.ifCond .ne 5, 3) := by decide +kernel
theorem dX10_commute_28 : decode cX10_commute 28 = .ok (.iconst (-1), 1) := by decide +kernel
theorem dX10_commute_29 : decode cX10_commute 29 = .ok (.ireturn, 1) := by decide +kernel
theorem dX10_commute_30 : decode cX10_commute 30 = .ok (.aload_n 0, 1) := by decide +kernel
theorem dX10_commute_31 : decode cX10_commute 31 = .ok (.getfield 69, 3) := by decide +kernel
theorem dX10_commute_34 : decode cX10_commute 34 = .ok (.iload_n 1, 1) := by decide +kernel
theorem dX10_commute_35 : decode cX10_commute 35 = .ok (.dup2, 1) := by decide +kernel
theorem dX10_commute_36 : decode cX10_commute 36 = .ok (.iaload, 1) := by decide +kernel
theorem dX10_commute_37 : decode cX10_commute 37 = .ok (.iload_n 2, 1) := by decide +kernel
theorem dX10_commute_38 : decode cX10_commute 38 = .ok (.iadd, 1) := by decide +kernel
theorem dX10_commute_39 : decode cX10_commute 39 = .ok (.iastore, 1) := by decide +kernel
theorem dX10_commute_40 : decode cX10_commute 40 = .ok (.aload_n 0, 1) := by decide +kernel
theorem dX10_commute_41 : decode cX10_commute 41 = .ok (.getfield 72, 3) := by decide +kernel
theorem dX10_commute_44 : decode cX10_commute 44 = .ok (.iload_n 1, 1) := by decide +kernel
theorem dX10_commute_45 : decode cX10_commute 45 = .ok (.dup2, 1) := by decide +kernel
theorem dX10_commute_46 : decode cX10_commute 46 = .ok (.iaload, 1) := by decide +kernel
theorem dX10_commute_47 : decode cX10_commute 47 = .ok (.iload_n 2, 1) := by decide +kernel
theorem dX10_commute_48 : decode cX10_commute 48 = .ok (.aload_n 0, 1) := by decide +kernel
theorem dX10_commute_49 : decode cX10_commute 49 = .ok (.getfield 241, 3) := by decide +kernel
theorem dX10_commute_52 : decode cX10_commute 52 = .ok (.imul, 1) := by decide +kernel
theorem dX10_commute_53 : decode cX10_commute 53 = .ok (.iadd, 1) := by decide +kernel
theorem dX10_commute_54 : decode cX10_commute 54 = .ok (.iastore, 1) := by decide +kernel
theorem dX10_commute_55 : decode cX10_commute 55 = .ok (.iload_n 2, 1) := by decide +kernel
theorem dX10_commute_56 : decode cX10_commute 56 = .ok (.aload_n 0, 1) := by decide +kernel
theorem dX10_commute_57 : decode cX10_commute 57 = .ok (.getfield 241, 3) := by decide +kernel
theorem dX10_commute_60 : decode cX10_commute 60 = .ok (.imul, 1) := by decide +kernel
theorem dX10_commute_61 : decode cX10_commute 61 = .ok (.ireturn, 1) := by decide +kernel
set_option maxRecDepth 20000 in
theorem ggX10_county_X10_isCounty : GoodIn wsX10_county wsX10_isCounty := goodIn_r _ [13, 14, 15, 12, 16] (by decide +kernel) (by decide +kernel)
set_option maxRecDepth 20000 in
theorem gX10_county_X10_isCounty : GoodIn wsX10_county (va_wsS RX10 147 yX10_isCounty wsX10_isCounty) := goodIn_app (goodIn_of _ (by decide +kernel)) ggX10_county_X10_isCounty
set_option maxRecDepth 20000 in
theorem ggX10_county_X10_isIn : GoodIn wsX10_county wsX10_isIn := goodIn_r _ [16] (by decide +kernel) (by decide +kernel)
set_option maxRecDepth 20000 in
theorem gX10_county_X10_isIn : GoodIn wsX10_county (va_wsS RX10 124 yX10_isIn wsX10_isIn) := goodIn_app (goodIn_of _ (by decide +kernel)) ggX10_county_X10_isIn
theorem dX10_county_0 : decode cX10_county 0 = .ok (.iload_n 1, 1) := by decide +kernel
theorem dX10_county_1 : decode cX10_county 1 = .ok (.invokestatic 147, 3) := by decide +kernel
theorem dX10_county_4 : decode cX10_county 4 = .ok (.ifCond .eq 12, 3) := by decide +kernel
theorem dX10_county_7 : decode cX10_county 7 = .ok (.iload_n 2, 1) := by decide +kernel
theorem dX10_county_8 : decode cX10_county 8 = .ok (.iconst 0, 1) := by decide +kernel
theorem dX10_county_9 : decode cX10_county 9 = .ok (.iconst 4, 1) := by decide +kernel
theorem dX10_county_10 : decode cX10_county 10 = .ok (.invokestatic 124, 3) := by decide +kernel
theorem dX10_county_13 : decode cX10_county 13 = .ok (.ifCond .ne 6, 3) := by decide +kernel
theorem dX10_county_16 : decode cX10_county 16 = .ok (.ldc 244, 2) := by decide +kernel
theorem dX10_county_18 : decode cX10_county 18 = .ok (.ireturn, 1) := by decide +kernel
theorem dX10_county_19 : decode cX10_county 19 = .ok (.iconst 0, 1) := by decide +kernel
theorem dX10_county_20 : decode cX10_county 20 = .ok (.istore_n 3, 1) := by decide +kernel
theorem dX10_county_21 : decode cX10_county 21 = .ok (.iconst 0, 1) := by decide +kernel
theorem dX10_county_22 : decode cX10_county 22 = .ok (.istore 4, 2) := by decide +kernel
theorem dX10_county_24 : decode cX10_county 24 = .ok (.iload 4, 2) := by decide +kernel
theorem dX10_county_26 : decode cX10_county 26 = .ok (.aload_n 0, 1) := by decide +kernel
theorem dX10_county_27 : decode cX10_county 27 = .ok (.getfield 128, 3) := by decide +kernel
theorem dX10_county_30 : decode cX10_county 30 = .ok (.if_icmp .ge 53, 3) := by decide +kernel
theorem dX10_county_33 : decode cX10_county 33 = .ok (.iload_n 3, 1) := by decide +kernel
theorem dX10_county_34 : decode cX10_county 34 = .ok (.aload_n 0, 1) := by decide +kernel
theorem dX10_county_35 : decode cX10_county 35 = .ok (.getfield 29, 3) := by decide +kernel
theorem dX10_county_38 : decode cX10_county 38 = .ok (.iload 4, 2) := by decide +kernel
theorem dX10_county_40 : decode cX10_county 40 = .ok (.iaload, 1) := by decide +kernel
theorem dX10_county_41 : decode cX10_county 41 = .ok (.iload_n 1, 1) := by decide +kernel
theorem dX10_county_42 : decode cX10_county 42 = .ok (.if_icmp .ne 32, 3) := by decide +kernel
theorem dX10_county_45 : decode cX10_county 45 = .ok (.aload_n 0, 1) := by decide +kernel
theorem dX10_county_46 : decode cX10_county 46 = .ok (.getfield 47, 3) := by decide +kernel
theorem dX10_county_49 : decode cX10_county 49 = .ok (.iload 4, 2) := by decide +kernel
theorem dX10_county_51 : decode cX10_county 51 = .ok (.iaload, 1) := by decide +kernel
theorem dX10_county_52 : decode cX10_county 52 = .ok (.iconst (-1), 1) := by decide +kernel
theorem dX10_county_53 : decode cX10_county 53 = .ok (.if_icmp .eq 21, 3) := by decide +kernel
theorem dX10_county_56 : decode cX10_county 56 = .ok (.aload_n 0, 1) := by decide +kernel
theorem dX10_county_57 : decode cX10_county 57 = .ok (.getfield 35, 3) := by decide +kernel
theorem dX10_county_60 : decode cX10_county 60 = .ok (.iload 4, 2) := by decide +kernel
theorem dX10_county_62 : decode cX10_county 62 = .ok (.iaload, 1) := by decide +kernel
theorem dX10_county_63 : decode cX10_county 63 = .ok (.aload_n 0, 1) := by decide +kernel
theorem dX10_county_64 : decode cX10_county 64 = .ok (.getfield 38, 3) := by decide +kernel
theorem dX10_county_67 : decode cX10_county 67 = .ok (.iload 4, 2) := by decide +kernel
theorem dX10_county_69 : decode cX10_county 69 = .ok (.iaload, 1) := by decide +kernel
theorem dX10_county_70 : decode cX10_county 70 = .ok (.isub, 1) := by decide +kernel
theorem dX10_county_71 : decode cX10_county 71 = .ok (.goto 4, 3) := by decide +kernel
theorem dX10_county_74 : decode cX10_county 74 = .ok (.iconst 0, 1) := by decide +kernel
theorem dX10_county_75 : decode cX10_county 75 = .ok (.iadd, 1) := by decide +kernel
theorem dX10_county_76 : decode cX10_county 76 = .ok (.istore_n 3, 1) := by decide +kernel
theorem dX10_county_77 : decode cX10_county 77 = .ok (.iinc 4 1, 3) := by decide +kernel
theorem dX10_county_80 : decode cX10_county 80 = .ok (.goto (-56), 3) := by decide +kernel
theorem dX10_county_83 : decode cX10_county 83 = .ok (.iload_n 2, 1) := by decide +kernel
theorem dX10_county_84 : decode cX10_county 84 = .ok (.ifCond .ne 12, 3) := by decide +kernel
theorem dX10_county_87 : decode cX10_county 87 = .ok (.aload_n 0, 1) := by decide +kernel
theorem dX10_county_88 : decode cX10_county 88 = .ok (.getfield 66, 3) := by decide +kernel
theorem dX10_county_91 : decode cX10_county 91 = .ok (.iload_n 1, 1) := by decide +kernel
theorem dX10_county_92 : decode cX10_county 92 = .ok (.iaload, 1) := by decide +kernel
theorem dX10_county_93 : decode cX10_county 93 = .ok (.goto 55, 3) := by decide +kernel
theorem dX10_county_96 : decode cX10_county 96 = .ok (.iload_n 2, 1) := by decide +kernel
theorem dX10_county_97 : decode cX10_county 97 = .ok (.iconst 1, 1) := by decide +kernel
theorem dX10_county_98 : decode cX10_county 98 = .ok (.if_icmp .ne 12, 3) := by decide +kernel
theorem dX10_county_101 : decode cX10_county 101 = .ok (.aload_n 0, 1) := by decide +kernel
theorem dX10_county_102 : decode cX10_county 102 = .ok (.getfield 69, 3) := by decide +kernel
theorem dX10_county_105 : decode cX10_county 105 = .ok (.iload_n 1, 1) := by decide +kernel
theorem dX10_county_106 : decode cX10_county 106 = .ok (.iaload, 1) := by decide +kernel
theorem dX10_county_107 : decode cX10_county 107 = .ok (.goto 41, 3) := by decide +kernel
theorem dX10_county_110 : decode cX10_county 110 = .ok (.iload_n 2, 1) := by decide +kernel
theorem dX10_county_111 : decode cX10_county 111 = .ok (.iconst 2, 1) := by decide +kernel
theorem dX10_county_112 : decode cX10_county 112 = .ok (.if_icmp .ne 12, 3) := by decide +kernel
theorem dX10_county_115 : decode cX10_county 115 = .ok (.aload_n 0, 1) := by decide +kernel
theorem dX10_county_116 : decode cX10_county 116 = .ok (.getfield 72, 3) := by decide +kernel
theorem dX10_county_119 : decode cX10_county 119 = .ok (.iload_n 1, 1) := by decide +kernel
theorem dX10_county_120 : decode cX10_county 120 = .ok (.iaload, 1) := by decide +kernel
theorem dX10_county_121 : decode cX10_county 121 = .ok (.goto 27, 3) := by decide +kernel
theorem dX10_county_124 : decode cX10_county 124 = .ok (.iload_n 2, 1) := by decide +kernel
theorem dX10_county_125 : decode cX10_county 125 = .ok (.iconst 3, 1) := by decide +kernel
theorem dX10_county_126 : decode cX10_county 126 = .ok (.if_icmp .ne 7, 3) := by decide +kernel
theorem dX10_county_129 : decode cX10_county 129 = .ok (.iload_n 3, 1) := by decide +kernel
theorem dX10_county_130 : decode cX10_county 130 = .ok (.goto 18, 3) := by decide +kernel
theorem dX10_county_133 : decode cX10_county 133 = .ok (.aload_n 0, 1) := by decide +kernel
theorem dX10_county_134 : decode cX10_county 134 = .ok (.getfield 66, 3) := by decide +kernel
theorem dX10_county_137 : decode cX10_county 137 = .ok (.iload_n 1, 1) := by decide +kernel
theorem dX10_county_138 : decode cX10_county 138 = .ok (.iaload, 1) := by decide +kernel
theorem dX10_county_139 : decode cX10_county 139 = .ok (.aload_n 0, 1) := by decide +kernel
theorem dX10_county_140 : decode cX10_county 140 = .ok (.getfield 69, 3) := by decide +kernel
theorem dX10_county_143 : decode cX10_county 143 = .ok (.iload_n 1, 1) := by decide +kernel
theorem dX10_county_144 : decode cX10_county 144 = .ok (.iaload, 1) := by decide +kernel
theorem dX10_county_145 : decode cX10_county 145 = .ok (.isub, 1) := by decide +kernel
theorem dX10_county_146 : decode cX10_county 146 = .ok (.iload_n 3, 1) := by decide +kernel
theorem dX10_county_147 : decode cX10_county 147 = .ok (.isub, 1) := by decide +kernel
theorem dX10_county_148 : decode cX10_county 148 = .ok (.ireturn, 1) := by decide +kernel
set_option maxRecDepth 20000 in
theorem ggX10_due_X10_isSquadron : GoodIn wsX10_due wsX10_isSquadron := goodIn_r _ [6, 7, 8, 9, 5, 10, 11, 12, 13, 14, 15, 16, 17, 18, 19, 20, 21, 22, 23, 24, 25, 26, 27, 28, 29, 30, 31, 32, 33, 34, 35, 36, 37, 38, 39, 40, 41, 42, 43, 44, 45, 46, 47, 48, 49, 50, 51, 52, 53, 54, 55] (by decide +kernel) (by decide +kernel)
set_option maxRecDepth 20000 in
theorem gX10_due_X10_isSquadron : GoodIn wsX10_due (wsV RX10 219 RX10 yX10_isSquadron wsX10_isSquadron) := goodIn_app (goodIn_of _ (by decide +kernel)) ggX10_due_X10_isSquadron
set_option maxRecDepth 20000 in
theorem ggX10_due_X10_isIn : GoodIn wsX10_due wsX10_isIn := goodIn_r _ [10] (by decide +kernel) (by decide +kernel)
set_option maxRecDepth 20000 in
theorem gX10_due_X10_isIn : GoodIn wsX10_due (va_wsS RX10 124 yX10_isIn wsX10_isIn) := goodIn_app (goodIn_of _ (by decide +kernel)) ggX10_due_X10_isIn
theorem dX10_due_0 : decode cX10_due 0 = .ok (.aload_n 0, 1) := by decide +kernel
theorem dX10_due_1 : decode cX10_due 1 = .ok (.iload_n 1, 1) := by decide +kernel
theorem dX10_due_2 : decode cX10_due 2 = .ok (.invokevirtual 219, 3) := by decide +kernel
theorem dX10_due_5 : decode cX10_due 5 = .ok (.ifCond .eq 14, 3) := by decide +kernel
theorem dX10_due_8 : decode cX10_due 8 = .ok (.iload_n 2, 1) := by decide +kernel
theorem dX10_due_9 : decode cX10_due 9 = .ok (.iconst 0, 1) := by decide +kernel
theorem dX10_due_10 : decode cX10_due 10 = .ok (.sipush 400, 3) := by decide +kernel
theorem dX10_due_13 : decode cX10_due 13 = .ok (.invokestatic 124, 3) := by decide +kernel
theorem dX10_due_16 : decode cX10_due 16 = .ok (.ifCond .ne 5, 3) := by decide +kernel
theorem dX10_due_19 : decode cX10_due 19 = .ok (.iconst 0, 1) := by decide +kernel
theorem dX10_due_20 : decode cX10_due 20 = .ok (.ireturn, 1) := by decide +kernel
theorem dX10_due_21 : decode cX10_due 21 = .ok (.aload_n 0, 1) := by decide +kernel
theorem dX10_due_22 : decode cX10_due 22 = .ok (.getfield 53, 3) := by decide +kernel
theorem dX10_due_25 : decode cX10_due 25 = .ok (.iload_n 1, 1) := by decide +kernel
theorem dX10_due_26 : decode cX10_due 26 = .ok (.iload_n 2, 1) := by decide +kernel
theorem dX10_due_27 : decode cX10_due 27 = .ok (.iastore, 1) := by decide +kernel
theorem dX10_due_28 : decode cX10_due 28 = .ok (.iconst 1, 1) := by decide +kernel
theorem dX10_due_29 : decode cX10_due 29 = .ok (.ireturn, 1) := by decide +kernel
set_option maxRecDepth 20000 in
theorem ggX10_least_X10_isLock : GoodIn wsX10_least wsX10_isLock := goodIn_r _ [17, 18, 19, 20, 16, 21, 22, 23, 24, 25, 26, 27, 28, 29, 30, 31, 32, 33, 34, 35, 36, 37, 38, 39, 40, 41, 42, 43, 44, 45, 46, 47, 48, 49, 50, 51, 52, 53, 54, 55, 56, 57, 58, 59, 60, 61, 62, 63, 64, 65, 66] (by decide +kernel) (by decide +kernel)
set_option maxRecDepth 20000 in
theorem gX10_least_X10_isLock : GoodIn wsX10_least (wsV RX10 135 RX10 yX10_isLock wsX10_isLock) := goodIn_app (goodIn_of _ (by decide +kernel)) ggX10_least_X10_isLock
set_option maxRecDepth 20000 in
theorem ggX10_least_X10_isIn : GoodIn wsX10_least wsX10_isIn := goodIn_r _ [21] (by decide +kernel) (by decide +kernel)
set_option maxRecDepth 20000 in
theorem gX10_least_X10_isIn : GoodIn wsX10_least (va_wsS RX10 124 yX10_isIn wsX10_isIn) := goodIn_app (goodIn_of _ (by decide +kernel)) ggX10_least_X10_isIn
theorem dX10_least_0 : decode cX10_least 0 = .ok (.iload_n 1, 1) := by decide +kernel
theorem dX10_least_1 : decode cX10_least 1 = .ok (.ifCond .lt 20, 3) := by decide +kernel
theorem dX10_least_4 : decode cX10_least 4 = .ok (.iload_n 1, 1) := by decide +kernel
theorem dX10_least_5 : decode cX10_least 5 = .ok (.aload_n 0, 1) := by decide +kernel
theorem dX10_least_6 : decode cX10_least 6 = .ok (.getfield 128, 3) := by decide +kernel
theorem dX10_least_9 : decode cX10_least 9 = .ok (.ishr, 1) := by decide +kernel
theorem dX10_least_10 : decode cX10_least 10 = .ok (.ifCond .ne 11, 3) := by decide +kernel
theorem dX10_least_13 : decode cX10_least 13 = .ok (.aload_n 0, 1) := by decide +kernel
theorem dX10_least_14 : decode cX10_least 14 = .ok (.iload_n 2, 1) := by decide +kernel
theorem dX10_least_15 : decode cX10_least 15 = .ok (.invokevirtual 135, 3) := by decide +kernel
theorem dX10_least_18 : decode cX10_least 18 = .ok (.ifCond .ne 5, 3) := by decide +kernel
theorem dX10_least_21 : decode cX10_least 21 = .ok (.iconst (-1), 1) := by decide +kernel
theorem dX10_least_22 : decode cX10_least 22 = .ok (.ireturn, 1) := by decide +kernel
theorem dX10_least_23 : decode cX10_least 23 = .ok (.iconst 0, 1) := by decide +kernel
theorem dX10_least_24 : decode cX10_least 24 = .ok (.istore 4, 2) := by decide +kernel
theorem dX10_least_26 : decode cX10_least 26 = .ok (.iconst 0, 1) := by decide +kernel
theorem dX10_least_27 : decode cX10_least 27 = .ok (.istore 5, 2) := by decide +kernel
theorem dX10_least_29 : decode cX10_least 29 = .ok (.iload 5, 2) := by decide +kernel
theorem dX10_least_31 : decode cX10_least 31 = .ok (.aload_n 0, 1) := by decide +kernel
theorem dX10_least_32 : decode cX10_least 32 = .ok (.getfield 128, 3) := by decide +kernel
theorem dX10_least_35 : decode cX10_least 35 = .ok (.if_icmp .ge 42, 3) := by decide +kernel
theorem dX10_least_38 : decode cX10_least 38 = .ok (.iload_n 1, 1) := by decide +kernel
theorem dX10_least_39 : decode cX10_least 39 = .ok (.iload 5, 2) := by decide +kernel
theorem dX10_least_41 : decode cX10_least 41 = .ok (.ishr, 1) := by decide +kernel
theorem dX10_least_42 : decode cX10_least 42 = .ok (.iconst 1, 1) := by decide +kernel
theorem dX10_least_43 : decode cX10_least 43 = .ok (.iand, 1) := by decide +kernel
theorem dX10_least_44 : decode cX10_least 44 = .ok (.ifCond .ne 6, 3) := by decide +kernel
theorem dX10_least_47 : decode cX10_least 47 = .ok (.goto 24, 3) := by decide +kernel
theorem dX10_least_50 : decode cX10_least 50 = .ok (.iload 4, 2) := by decide +kernel
theorem dX10_least_52 : decode cX10_least 52 = .ok (.bipush 6, 2) := by decide +kernel
theorem dX10_least_54 : decode cX10_least 54 = .ok (.if_icmp .ne 5, 3) := by decide +kernel
theorem dX10_least_57 : decode cX10_least 57 = .ok (.iconst (-1), 1) := by decide +kernel
theorem dX10_least_58 : decode cX10_least 58 = .ok (.ireturn, 1) := by decide +kernel
theorem dX10_least_59 : decode cX10_least 59 = .ok (.aload_n 0, 1) := by decide +kernel
theorem dX10_least_60 : decode cX10_least 60 = .ok (.getfield 103, 3) := by decide +kernel
theorem dX10_least_63 : decode cX10_least 63 = .ok (.iload 4, 2) := by decide +kernel
theorem dX10_least_65 : decode cX10_least 65 = .ok (.iload 5, 2) := by decide +kernel
theorem dX10_least_67 : decode cX10_least 67 = .ok (.iastore, 1) := by decide +kernel
theorem dX10_least_68 : decode cX10_least 68 = .ok (.iinc 4 1, 3) := by decide +kernel
theorem dX10_least_71 : decode cX10_least 71 = .ok (.iinc 5 1, 3) := by decide +kernel
theorem dX10_least_74 : decode cX10_least 74 = .ok (.goto (-45), 3) := by decide +kernel
theorem dX10_least_77 : decode cX10_least 77 = .ok (.iconst 1, 1) := by decide +kernel
theorem dX10_least_78 : decode cX10_least 78 = .ok (.istore 5, 2) := by decide +kernel
theorem dX10_least_80 : decode cX10_least 80 = .ok (.iconst 0, 1) := by decide +kernel
theorem dX10_least_81 : decode cX10_least 81 = .ok (.istore 6, 2) := by decide +kernel
theorem dX10_least_83 : decode cX10_least 83 = .ok (.iload 6, 2) := by decide +kernel
theorem dX10_least_85 : decode cX10_least 85 = .ok (.iload 4, 2) := by decide +kernel
theorem dX10_least_87 : decode cX10_least 87 = .ok (.if_icmp .ge 16, 3) := by decide +kernel
theorem dX10_least_90 : decode cX10_least 90 = .ok (.iload 5, 2) := by decide +kernel
theorem dX10_least_92 : decode cX10_least 92 = .ok (.iload 4, 2) := by decide +kernel
theorem dX10_least_94 : decode cX10_least 94 = .ok (.imul, 1) := by decide +kernel
theorem dX10_least_95 : decode cX10_least 95 = .ok (.istore 5, 2) := by decide +kernel
theorem dX10_least_97 : decode cX10_least 97 = .ok (.iinc 6 1, 3) := by decide +kernel
theorem dX10_least_100 : decode cX10_least 100 = .ok (.goto (-17), 3) := by decide +kernel
theorem dX10_least_103 : decode cX10_least 103 = .ok (.iconst (-1), 1) := by decide +kernel
theorem dX10_least_104 : decode cX10_least 104 = .ok (.istore 6, 2) := by decide +kernel
theorem dX10_least_106 : decode cX10_least 106 = .ok (.iconst 0, 1) := by decide +kernel
theorem dX10_least_107 : decode cX10_least 107 = .ok (.istore 7, 2) := by decide +kernel
theorem dX10_least_109 : decode cX10_least 109 = .ok (.iload 7, 2) := by decide +kernel
theorem dX10_least_111 : decode cX10_least 111 = .ok (.iload 5, 2) := by decide +kernel
theorem dX10_least_113 : decode cX10_least 113 = .ok (.if_icmp .ge 212, 3) := by decide +kernel
theorem dX10_least_116 : decode cX10_least 116 = .ok (.iload 7, 2) := by decide +kernel
theorem dX10_least_118 : decode cX10_least 118 = .ok (.istore 8, 2) := by decide +kernel
theorem dX10_least_120 : decode cX10_least 120 = .ok (.iconst 0, 1) := by decide +kernel
theorem dX10_least_121 : decode cX10_least 121 = .ok (.istore 9, 2) := by decide +kernel
theorem dX10_least_123 : decode cX10_least 123 = .ok (.iload 4, 2) := by decide +kernel
theorem dX10_least_125 : decode cX10_least 125 = .ok (.iconst 1, 1) := by decide +kernel
theorem dX10_least_126 : decode cX10_least 126 = .ok (.isub, 1) := by decide +kernel
theorem dX10_least_127 : decode cX10_least 127 = .ok (.istore 10, 2) := by decide +kernel
theorem dX10_least_129 : decode cX10_least 129 = .ok (.iload 10, 2) := by decide +kernel
theorem dX10_least_131 : decode cX10_least 131 = .ok (.ifCond .lt 47, 3) := by decide +kernel
theorem dX10_least_134 : decode cX10_least 134 = .ok (.aload_n 0, 1) := by decide +kernel
theorem dX10_least_135 : decode cX10_least 135 = .ok (.getfield 106, 3) := by decide +kernel
theorem dX10_least_138 : decode cX10_least 138 = .ok (.iload 10, 2) := by decide +kernel
theorem dX10_least_140 : decode cX10_least 140 = .ok (.aload_n 0, 1) := by decide +kernel
theorem dX10_least_141 : decode cX10_least 141 = .ok (.getfield 103, 3) := by decide +kernel
theorem dX10_least_144 : decode cX10_least 144 = .ok (.iload 8, 2) := by decide +kernel
theorem dX10_least_146 : decode cX10_least 146 = .ok (.iload 4, 2) := by decide +kernel
theorem dX10_least_148 : decode cX10_least 148 = .ok (.irem, 1) := by decide +kernel
theorem dX10_least_149 : decode cX10_least 149 = .ok (.iaload, 1) := by decide +kernel
theorem dX10_least_150 : decode cX10_least 150 = .ok (.iastore, 1) := by decide +kernel
theorem dX10_least_151 : decode cX10_least 151 = .ok (.iload 9, 2) := by decide +kernel
theorem dX10_least_153 : decode cX10_least 153 = .ok (.iconst 1, 1) := by decide +kernel
theorem dX10_least_154 : decode cX10_least 154 = .ok (.aload_n 0, 1) := by decide +kernel
theorem dX10_least_155 : decode cX10_least 155 = .ok (.getfield 106, 3) := by decide +kernel
theorem dX10_least_158 : decode cX10_least 158 = .ok (.iload 10, 2) := by decide +kernel
theorem dX10_least_160 : decode cX10_least 160 = .ok (.iaload, 1) := by decide +kernel
theorem dX10_least_161 : decode cX10_least 161 = .ok (.ishl, 1) := by decide +kernel
theorem dX10_least_162 : decode cX10_least 162 = .ok (.ior, 1) := by decide +kernel
theorem dX10_least_163 : decode cX10_least 163 = .ok (.istore 9, 2) := by decide +kernel
theorem dX10_least_165 : decode cX10_least 165 = .ok (.iload 8, 2) := by decide +kernel
theorem dX10_least_167 : decode cX10_least 167 = .ok (.iload 4, 2) := by decide +kernel
theorem dX10_least_169 : decode cX10_least 169 = .ok (.idiv, 1) := by decide +kernel
theorem dX10_least_170 : decode cX10_least 170 = .ok (.istore 8, 2) := by decide +kernel
theorem dX10_least_172 : decode cX10_least 172 = .ok (.iinc 10 (-1), 3) := by decide +kernel
theorem dX10_least_175 : decode cX10_least 175 = .ok (.goto (-46), 3) := by decide +kernel
theorem dX10_least_178 : decode cX10_least 178 = .ok (.iload 9, 2) := by decide +kernel
theorem dX10_least_180 : decode cX10_least 180 = .ok (.iload_n 1, 1) := by decide +kernel
theorem dX10_least_181 : decode cX10_least 181 = .ok (.if_icmp .eq 6, 3) := by decide +kernel
theorem dX10_least_184 : decode cX10_least 184 = .ok (.goto 135, 3) := by decide +kernel
theorem dX10_least_187 : decode cX10_least 187 = .ok (.aload_n 0, 1) := by decide +kernel
theorem dX10_least_188 : decode cX10_least 188 = .ok (.getfield 144, 3) := by decide +kernel
theorem dX10_least_191 : decode cX10_least 191 = .ok (.istore 10, 2) := by decide +kernel
theorem dX10_least_193 : decode cX10_least 193 = .ok (.iconst 0, 1) := by decide +kernel
theorem dX10_least_194 : decode cX10_least 194 = .ok (.istore 11, 2) := by decide +kernel
theorem dX10_least_196 : decode cX10_least 196 = .ok (.iconst 0, 1) := by decide +kernel
theorem dX10_least_197 : decode cX10_least 197 = .ok (.istore 12, 2) := by decide +kernel
theorem dX10_least_199 : decode cX10_least 199 = .ok (.iload 12, 2) := by decide +kernel
theorem dX10_least_201 : decode cX10_least 201 = .ok (.iload 4, 2) := by decide +kernel
theorem dX10_least_203 : decode cX10_least 203 = .ok (.if_icmp .ge 66, 3) := by decide +kernel
theorem dX10_least_206 : decode cX10_least 206 = .ok (.iload 10, 2) := by decide +kernel
theorem dX10_least_208 : decode cX10_least 208 = .ok (.aload_n 0, 1) := by decide +kernel
theorem dX10_least_209 : decode cX10_least 209 = .ok (.getfield 32, 3) := by decide +kernel
theorem dX10_least_212 : decode cX10_least 212 = .ok (.aload_n 0, 1) := by decide +kernel
theorem dX10_least_213 : decode cX10_least 213 = .ok (.getfield 106, 3) := by decide +kernel
theorem dX10_least_216 : decode cX10_least 216 = .ok (.iload 12, 2) := by decide +kernel
theorem dX10_least_218 : decode cX10_least 218 = .ok (.iaload, 1) := by decide +kernel
theorem dX10_least_219 : decode cX10_least 219 = .ok (.iaload, 1) := by decide +kernel
theorem dX10_least_220 : decode cX10_least 220 = .ok (.aload_n 0, 1) := by decide +kernel
theorem dX10_least_221 : decode cX10_least 221 = .ok (.getfield 13, 3) := by decide +kernel
theorem dX10_least_224 : decode cX10_least 224 = .ok (.iload_n 2, 1) := by decide +kernel
theorem dX10_least_225 : decode cX10_least 225 = .ok (.iaload, 1) := by decide +kernel
theorem dX10_least_226 : decode cX10_least 226 = .ok (.iadd, 1) := by decide +kernel
theorem dX10_least_227 : decode cX10_least 227 = .ok (.iconst 1, 1) := by decide +kernel
theorem dX10_least_228 : decode cX10_least 228 = .ok (.isub, 1) := by decide +kernel
theorem dX10_least_229 : decode cX10_least 229 = .ok (.aload_n 0, 1) := by decide +kernel
theorem dX10_least_230 : decode cX10_least 230 = .ok (.getfield 13, 3) := by decide +kernel
theorem dX10_least_233 : decode cX10_least 233 = .ok (.iload_n 2, 1) := by decide +kernel
theorem dX10_least_234 : decode cX10_least 234 = .ok (.iaload, 1) := by decide +kernel
theorem dX10_least_235 : decode cX10_least 235 = .ok (.idiv, 1) := by decide +kernel
theorem dX10_least_236 : decode cX10_least 236 = .ok (.iadd, 1) := by decide +kernel
theorem dX10_least_237 : decode cX10_least 237 = .ok (.istore 10, 2) := by decide +kernel
theorem dX10_least_239 : decode cX10_least 239 = .ok (.iload 11, 2) := by decide +kernel
theorem dX10_least_241 : decode cX10_least 241 = .ok (.iconst 0, 1) := by decide +kernel
theorem dX10_least_242 : decode cX10_least 242 = .ok (.iload 10, 2) := by decide +kernel
theorem dX10_least_244 : decode cX10_least 244 = .ok (.aload_n 0, 1) := by decide +kernel
theorem dX10_least_245 : decode cX10_least 245 = .ok (.getfield 53, 3) := by decide +kernel
theorem dX10_least_248 : decode cX10_least 248 = .ok (.aload_n 0, 1) := by decide +kernel
theorem dX10_least_249 : decode cX10_least 249 = .ok (.getfield 106, 3) := by decide +kernel
theorem dX10_least_252 : decode cX10_least 252 = .ok (.iload 12, 2) := by decide +kernel
theorem dX10_least_254 : decode cX10_least 254 = .ok (.iaload, 1) := by decide +kernel
theorem dX10_least_255 : decode cX10_least 255 = .ok (.iaload, 1) := by decide +kernel
theorem dX10_least_256 : decode cX10_least 256 = .ok (.isub, 1) := by decide +kernel
theorem dX10_least_257 : decode cX10_least 257 = .ok (.invokestatic 118, 3) := by decide +kernel
theorem dX10_least_260 : decode cX10_least 260 = .ok (.iadd, 1) := by decide +kernel
theorem dX10_least_261 : decode cX10_least 261 = .ok (.istore 11, 2) := by decide +kernel
theorem dX10_least_263 : decode cX10_least 263 = .ok (.iinc 12 1, 3) := by decide +kernel
theorem dX10_least_266 : decode cX10_least 266 = .ok (.goto (-67), 3) := by decide +kernel
theorem dX10_least_269 : decode cX10_least 269 = .ok (.iload 6, 2) := by decide +kernel
theorem dX10_least_271 : decode cX10_least 271 = .ok (.iconst (-1), 1) := by decide +kernel
theorem dX10_least_272 : decode cX10_least 272 = .ok (.if_icmp .eq 13, 3) := by decide +kernel
theorem dX10_least_275 : decode cX10_least 275 = .ok (.iload 11, 2) := by decide +kernel
theorem dX10_least_277 : decode cX10_least 277 = .ok (.iload 6, 2) := by decide +kernel
theorem dX10_least_279 : decode cX10_least 279 = .ok (.if_icmp .lt 6, 3) := by decide +kernel
theorem dX10_least_282 : decode cX10_least 282 = .ok (.goto 37, 3) := by decide +kernel
theorem dX10_least_285 : decode cX10_least 285 = .ok (.iload 11, 2) := by decide +kernel
theorem dX10_least_287 : decode cX10_least 287 = .ok (.istore 6, 2) := by decide +kernel
theorem dX10_least_289 : decode cX10_least 289 = .ok (.iconst 0, 1) := by decide +kernel
theorem dX10_least_290 : decode cX10_least 290 = .ok (.istore 12, 2) := by decide +kernel
theorem dX10_least_292 : decode cX10_least 292 = .ok (.iload 12, 2) := by decide +kernel
theorem dX10_least_294 : decode cX10_least 294 = .ok (.iload 4, 2) := by decide +kernel
theorem dX10_least_296 : decode cX10_least 296 = .ok (.if_icmp .ge 23, 3) := by decide +kernel
theorem dX10_least_299 : decode cX10_least 299 = .ok (.aload_n 0, 1) := by decide +kernel
theorem dX10_least_300 : decode cX10_least 300 = .ok (.getfield 109, 3) := by decide +kernel
theorem dX10_least_303 : decode cX10_least 303 = .ok (.iload 12, 2) := by decide +kernel
theorem dX10_least_305 : decode cX10_least 305 = .ok (.aload_n 0, 1) := by decide +kernel
theorem dX10_least_306 : decode cX10_least 306 = .ok (.getfield 106, 3) := by decide +kernel
theorem dX10_least_309 : decode cX10_least 309 = .ok (.iload 12, 2) := by decide +kernel
theorem dX10_least_311 : decode cX10_least 311 = .ok (.iaload, 1) := by decide +kernel
theorem dX10_least_312 : decode cX10_least 312 = .ok (.iastore, 1) := by decide +kernel
theorem dX10_least_313 : decode cX10_least 313 = .ok (.iinc 12 1, 3) := by decide +kernel
theorem dX10_least_316 : decode cX10_least 316 = .ok (.goto (-24), 3) := by decide +kernel
theorem dX10_least_319 : decode cX10_least 319 = .ok (.iinc 7 1, 3) := by decide +kernel
theorem dX10_least_322 : decode cX10_least 322 = .ok (.goto (-213), 3) := by decide +kernel
theorem dX10_least_325 : decode cX10_least 325 = .ok (.iload_n 3, 1) := by decide +kernel
theorem dX10_least_326 : decode cX10_least 326 = .ok (.iconst (-1), 1) := by decide +kernel
theorem dX10_least_327 : decode cX10_least 327 = .ok (.if_icmp .ne 8, 3) := by decide +kernel
theorem dX10_least_330 : decode cX10_least 330 = .ok (.iload 6, 2) := by decide +kernel
theorem dX10_least_332 : decode cX10_least 332 = .ok (.goto 25, 3) := by decide +kernel
theorem dX10_least_335 : decode cX10_least 335 = .ok (.iload_n 3, 1) := by decide +kernel
theorem dX10_least_336 : decode cX10_least 336 = .ok (.iconst 0, 1) := by decide +kernel
theorem dX10_least_337 : decode cX10_least 337 = .ok (.iload 4, 2) := by decide +kernel
theorem dX10_least_339 : decode cX10_least 339 = .ok (.iconst 1, 1) := by decide +kernel
theorem dX10_least_340 : decode cX10_least 340 = .ok (.isub, 1) := by decide +kernel
theorem dX10_least_341 : decode cX10_least 341 = .ok (.invokestatic 124, 3) := by decide +kernel
theorem dX10_least_344 : decode cX10_least 344 = .ok (.ifCond .eq 12, 3) := by decide +kernel
theorem dX10_least_347 : decode cX10_least 347 = .ok (.aload_n 0, 1) := by decide +kernel
theorem dX10_least_348 : decode cX10_least 348 = .ok (.getfield 109, 3) := by decide +kernel
theorem dX10_least_351 : decode cX10_least 351 = .ok (.iload_n 3, 1) := by decide +kernel
theorem dX10_least_352 : decode cX10_least 352 = .ok (.iaload, 1) := by decide +kernel
theorem dX10_least_353 : decode cX10_least 353 = .ok (.goto 4, 3) := by decide +kernel
theorem dX10_least_356 : decode cX10_least 356 = .ok (.iconst (-1), 1) := by decide +kernel
theorem dX10_least_357 : decode cX10_least 357 = .ok (.ireturn, 1) := by decide +kernel
set_option maxRecDepth 20000 in
theorem ggX10_count_X10_one : GoodIn wsX10_count wsX10_one := goodIn_r _ [11] (by decide +kernel) (by decide +kernel)
set_option maxRecDepth 20000 in
theorem gX10_count_X10_one : GoodIn wsX10_count (va_wsS RX10 234 yX10_one wsX10_one) := goodIn_app (goodIn_of _ (by decide +kernel)) ggX10_count_X10_one
theorem dX10_count_0 : decode cX10_count 0 = .ok (.iconst 0, 1) := by decide +kernel
theorem dX10_count_1 : decode cX10_count 1 = .ok (.istore_n 2, 1) := by decide +kernel
theorem dX10_count_2 : decode cX10_count 2 = .ok (.iload_n 1, 1) := by decide +kernel
theorem dX10_count_3 : decode cX10_count 3 = .ok (.tableswitch 110 0 6 #[41, 46, 51, 56, 61, 66, 105], 41) := by decide +kernel
theorem dX10_count_44 : decode cX10_count 44 = .ok (.aload_n 0, 1) := by decide +kernel
theorem dX10_count_45 : decode cX10_count 45 = .ok (.getfield 144, 3) := by decide +kernel
theorem dX10_count_48 : decode cX10_count 48 = .ok (.ireturn, 1) := by decide +kernel
theorem dX10_count_49 : decode cX10_count 49 = .ok (.aload_n 0, 1) := by decide +kernel
theorem dX10_count_50 : decode cX10_count 50 = .ok (.getfield 128, 3) := by decide +kernel
theorem dX10_count_53 : decode cX10_count 53 = .ok (.ireturn, 1) := by decide +kernel
theorem dX10_count_54 : decode cX10_count 54 = .ok (.aload_n 0, 1) := by decide +kernel
theorem dX10_count_55 : decode cX10_count 55 = .ok (.getfield 138, 3) := by decide +kernel
theorem dX10_count_58 : decode cX10_count 58 = .ok (.ireturn, 1) := by decide +kernel
theorem dX10_count_59 : decode cX10_count 59 = .ok (.aload_n 0, 1) := by decide +kernel
theorem dX10_count_60 : decode cX10_count 60 = .ok (.getfield 202, 3) := by decide +kernel
theorem dX10_count_63 : decode cX10_count 63 = .ok (.ireturn, 1) := by decide +kernel
theorem dX10_count_64 : decode cX10_count 64 = .ok (.aload_n 0, 1) := by decide +kernel
theorem dX10_count_65 : decode cX10_count 65 = .ok (.getfield 150, 3) := by decide +kernel
theorem dX10_count_68 : decode cX10_count 68 = .ok (.ireturn, 1) := by decide +kernel
theorem dX10_count_69 : decode cX10_count 69 = .ok (.iconst 0, 1) := by decide +kernel
theorem dX10_count_70 : decode cX10_count 70 = .ok (.istore_n 3, 1) := by decide +kernel
theorem dX10_count_71 : decode cX10_count 71 = .ok (.iload_n 3, 1) := by decide +kernel
theorem dX10_count_72 : decode cX10_count 72 = .ok (.aload_n 0, 1) := by decide +kernel
theorem dX10_count_73 : decode cX10_count 73 = .ok (.getfield 128, 3) := by decide +kernel
theorem dX10_count_76 : decode cX10_count 76 = .ok (.if_icmp .ge 30, 3) := by decide +kernel
theorem dX10_count_79 : decode cX10_count 79 = .ok (.iload_n 2, 1) := by decide +kernel
theorem dX10_count_80 : decode cX10_count 80 = .ok (.aload_n 0, 1) := by decide +kernel
theorem dX10_count_81 : decode cX10_count 81 = .ok (.getfield 47, 3) := by decide +kernel
theorem dX10_count_84 : decode cX10_count 84 = .ok (.iload_n 3, 1) := by decide +kernel
theorem dX10_count_85 : decode cX10_count 85 = .ok (.iaload, 1) := by decide +kernel
theorem dX10_count_86 : decode cX10_count 86 = .ok (.iconst (-1), 1) := by decide +kernel
theorem dX10_count_87 : decode cX10_count 87 = .ok (.if_icmp .eq 7, 3) := by decide +kernel
theorem dX10_count_90 : decode cX10_count 90 = .ok (.iconst 1, 1) := by decide +kernel
theorem dX10_count_91 : decode cX10_count 91 = .ok (.goto 4, 3) := by decide +kernel
theorem dX10_count_94 : decode cX10_count 94 = .ok (.iconst 0, 1) := by decide +kernel
theorem dX10_count_95 : decode cX10_count 95 = .ok (.invokestatic 234, 3) := by decide +kernel
theorem dX10_count_98 : decode cX10_count 98 = .ok (.iadd, 1) := by decide +kernel
theorem dX10_count_99 : decode cX10_count 99 = .ok (.istore_n 2, 1) := by decide +kernel
theorem dX10_count_100 : decode cX10_count 100 = .ok (.iinc 3 1, 3) := by decide +kernel
theorem dX10_count_103 : decode cX10_count 103 = .ok (.goto (-32), 3) := by decide +kernel
theorem dX10_count_106 : decode cX10_count 106 = .ok (.iload_n 2, 1) := by decide +kernel
theorem dX10_count_107 : decode cX10_count 107 = .ok (.ireturn, 1) := by decide +kernel
theorem dX10_count_108 : decode cX10_count 108 = .ok (.aload_n 0, 1) := by decide +kernel
theorem dX10_count_109 : decode cX10_count 109 = .ok (.getfield 121, 3) := by decide +kernel
theorem dX10_count_112 : decode cX10_count 112 = .ok (.ireturn, 1) := by decide +kernel
theorem dX10_count_113 : decode cX10_count 113 = .ok (.iconst (-1), 1) := by decide +kernel
theorem dX10_count_114 : decode cX10_count 114 = .ok (.ireturn, 1) := by decide +kernel
theorem dJ6_bitCount_0f7a4_0 : decode cJ6_bitCount_0f7a4 0 = .ok (.iload_n 0, 1) := by decide +kernel
theorem dJ6_bitCount_0f7a4_1 : decode cJ6_bitCount_0f7a4 1 = .ok (.iload_n 0, 1) := by decide +kernel
theorem dJ6_bitCount_0f7a4_2 : decode cJ6_bitCount_0f7a4 2 = .ok (.iconst 1, 1) := by decide +kernel
theorem dJ6_bitCount_0f7a4_3 : decode cJ6_bitCount_0f7a4 3 = .ok (.iushr, 1) := by decide +kernel
theorem dJ6_bitCount_0f7a4_4 : decode cJ6_bitCount_0f7a4 4 = .ok (.ldc_w 265, 3) := by decide +kernel
theorem dJ6_bitCount_0f7a4_7 : decode cJ6_bitCount_0f7a4 7 = .ok (.iand, 1) := by decide +kernel
theorem dJ6_bitCount_0f7a4_8 : decode cJ6_bitCount_0f7a4 8 = .ok (.isub, 1) := by decide +kernel
theorem dJ6_bitCount_0f7a4_9 : decode cJ6_bitCount_0f7a4 9 = .ok (.istore_n 0, 1) := by decide +kernel
theorem dJ6_bitCount_0f7a4_10 : decode cJ6_bitCount_0f7a4 10 = .ok (.iload_n 0, 1) := by decide +kernel
theorem dJ6_bitCount_0f7a4_11 : decode cJ6_bitCount_0f7a4 11 = .ok (.ldc_w 266, 3) := by decide +kernel
theorem dJ6_bitCount_0f7a4_14 : decode cJ6_bitCount_0f7a4 14 = .ok (.iand, 1) := by decide +kernel
theorem dJ6_bitCount_0f7a4_15 : decode cJ6_bitCount_0f7a4 15 = .ok (.iload_n 0, 1) := by decide +kernel
theorem dJ6_bitCount_0f7a4_16 : decode cJ6_bitCount_0f7a4 16 = .ok (.iconst 2, 1) := by decide +kernel
theorem dJ6_bitCount_0f7a4_17 : decode cJ6_bitCount_0f7a4 17 = .ok (.iushr, 1) := by decide +kernel
theorem dJ6_bitCount_0f7a4_18 : decode cJ6_bitCount_0f7a4 18 = .ok (.ldc_w 266, 3) := by decide +kernel
theorem dJ6_bitCount_0f7a4_21 : decode cJ6_bitCount_0f7a4 21 = .ok (.iand, 1) := by decide +kernel
theorem dJ6_bitCount_0f7a4_22 : decode cJ6_bitCount_0f7a4 22 = .ok (.iadd, 1) := by decide +kernel
theorem dJ6_bitCount_0f7a4_23 : decode cJ6_bitCount_0f7a4 23 = .ok (.istore_n 0, 1) := by decide +kernel
theorem dJ6_bitCount_0f7a4_24 : decode cJ6_bitCount_0f7a4 24 = .ok (.iload_n 0, 1) := by decide +kernel
theorem dJ6_bitCount_0f7a4_25 : decode cJ6_bitCount_0f7a4 25 = .ok (.iload_n 0, 1) := by decide +kernel
theorem dJ6_bitCount_0f7a4_26 : decode cJ6_bitCount_0f7a4 26 = .ok (.iconst 4, 1) := by decide +kernel
theorem dJ6_bitCount_0f7a4_27 : decode cJ6_bitCount_0f7a4 27 = .ok (.iushr, 1) := by decide +kernel
theorem dJ6_bitCount_0f7a4_28 : decode cJ6_bitCount_0f7a4 28 = .ok (.iadd, 1) := by decide +kernel
theorem dJ6_bitCount_0f7a4_29 : decode cJ6_bitCount_0f7a4 29 = .ok (.ldc_w 267, 3) := by decide +kernel
theorem dJ6_bitCount_0f7a4_32 : decode cJ6_bitCount_0f7a4 32 = .ok (.iand, 1) := by decide +kernel
theorem dJ6_bitCount_0f7a4_33 : decode cJ6_bitCount_0f7a4 33 = .ok (.istore_n 0, 1) := by decide +kernel
theorem dJ6_bitCount_0f7a4_34 : decode cJ6_bitCount_0f7a4 34 = .ok (.iload_n 0, 1) := by decide +kernel
theorem dJ6_bitCount_0f7a4_35 : decode cJ6_bitCount_0f7a4 35 = .ok (.iload_n 0, 1) := by decide +kernel
theorem dJ6_bitCount_0f7a4_36 : decode cJ6_bitCount_0f7a4 36 = .ok (.bipush 8, 2) := by decide +kernel
theorem dJ6_bitCount_0f7a4_38 : decode cJ6_bitCount_0f7a4 38 = .ok (.iushr, 1) := by decide +kernel
theorem dJ6_bitCount_0f7a4_39 : decode cJ6_bitCount_0f7a4 39 = .ok (.iadd, 1) := by decide +kernel
theorem dJ6_bitCount_0f7a4_40 : decode cJ6_bitCount_0f7a4 40 = .ok (.istore_n 0, 1) := by decide +kernel
theorem dJ6_bitCount_0f7a4_41 : decode cJ6_bitCount_0f7a4 41 = .ok (.iload_n 0, 1) := by decide +kernel
theorem dJ6_bitCount_0f7a4_42 : decode cJ6_bitCount_0f7a4 42 = .ok (.iload_n 0, 1) := by decide +kernel
theorem dJ6_bitCount_0f7a4_43 : decode cJ6_bitCount_0f7a4 43 = .ok (.bipush 16, 2) := by decide +kernel
theorem dJ6_bitCount_0f7a4_45 : decode cJ6_bitCount_0f7a4 45 = .ok (.iushr, 1) := by decide +kernel
theorem dJ6_bitCount_0f7a4_46 : decode cJ6_bitCount_0f7a4 46 = .ok (.iadd, 1) := by decide +kernel
theorem dJ6_bitCount_0f7a4_47 : decode cJ6_bitCount_0f7a4 47 = .ok (.istore_n 0, 1) := by decide +kernel
theorem dJ6_bitCount_0f7a4_48 : decode cJ6_bitCount_0f7a4 48 = .ok (.iload_n 0, 1) := by decide +kernel
theorem dJ6_bitCount_0f7a4_49 : decode cJ6_bitCount_0f7a4 49 = .ok (.bipush 63, 2) := by decide +kernel
theorem dJ6_bitCount_0f7a4_51 : decode cJ6_bitCount_0f7a4 51 = .ok (.iand, 1) := by decide +kernel
theorem dJ6_bitCount_0f7a4_52 : decode cJ6_bitCount_0f7a4 52 = .ok (.ireturn, 1) := by decide +kernel
theorem dJ9_max_7cf53_0 : decode cJ9_max_7cf53 0 = .ok (.iload_n 0, 1) := by decide +kernel
theorem dJ9_max_7cf53_1 : decode cJ9_max_7cf53 1 = .ok (.iload_n 1, 1) := by decide +kernel
theorem dJ9_max_7cf53_2 : decode cJ9_max_7cf53 2 = .ok (.if_icmp .lt 7, 3) := by decide +kernel
theorem dJ9_max_7cf53_5 : decode cJ9_max_7cf53 5 = .ok (.iload_n 0, 1) := by decide +kernel
theorem dJ9_max_7cf53_6 : decode cJ9_max_7cf53 6 = .ok (.goto 4, 3) := by decide +kernel
theorem dJ9_max_7cf53_9 : decode cJ9_max_7cf53 9 = .ok (.iload_n 1, 1) := by decide +kernel
theorem dJ9_max_7cf53_10 : decode cJ9_max_7cf53 10 = .ok (.ireturn, 1) := by decide +kernel
theorem dJ9_min_7cf53_0 : decode cJ9_min_7cf53 0 = .ok (.iload_n 0, 1) := by decide +kernel
theorem dJ9_min_7cf53_1 : decode cJ9_min_7cf53 1 = .ok (.iload_n 1, 1) := by decide +kernel
theorem dJ9_min_7cf53_2 : decode cJ9_min_7cf53 2 = .ok (.if_icmp .gt 7, 3) := by decide +kernel
theorem dJ9_min_7cf53_5 : decode cJ9_min_7cf53 5 = .ok (.iload_n 0, 1) := by decide +kernel
theorem dJ9_min_7cf53_6 : decode cJ9_min_7cf53 6 = .ok (.goto 4, 3) := by decide +kernel
theorem dJ9_min_7cf53_9 : decode cJ9_min_7cf53 9 = .ok (.iload_n 1, 1) := by decide +kernel
theorem dJ9_min_7cf53_10 : decode cJ9_min_7cf53 10 = .ok (.ireturn, 1) := by decide +kernel
set_option maxRecDepth 20000 in
theorem ggJ0_length_8abf5_J0_coder_7d493 : GoodIn wsJ0_length_8abf5 wsJ0_coder_7d493 := goodIn_r _ [6, 7, 8] (by decide +kernel) (by decide +kernel)
set_option maxRecDepth 20000 in
theorem gJ0_length_8abf5_J0_coder_7d493 : GoodIn wsJ0_length_8abf5 (wsV RJ0 335 RJ0 yJ0_coder_7d493 wsJ0_coder_7d493) := goodIn_app (goodIn_of _ (by decide +kernel)) ggJ0_length_8abf5_J0_coder_7d493
end
section
theorem dJ0_length_8abf5_0 : decode cJ0_length_8abf5 0 = .ok (.aload_n 0, 1) := by decide +kernel
theorem dJ0_length_8abf5_1 : decode cJ0_length_8abf5 1 = .ok (.getfield 9, 3) := by decide +kernel
theorem dJ0_length_8abf5_4 : decode cJ0_length_8abf5 4 = .ok (.arraylength, 1) := by decide +kernel
theorem dJ0_length_8abf5_5 : decode cJ0_length_8abf5 5 = .ok (.aload_n 0, 1) := by decide +kernel
theorem dJ0_length_8abf5_6 : decode cJ0_length_8abf5 6 = .ok (.invokevirtual 335, 3) := by decide +kernel
theorem dJ0_length_8abf5_9 : decode cJ0_length_8abf5 9 = .ok (.ishr, 1) := by decide +kernel
theorem dJ0_length_8abf5_10 : decode cJ0_length_8abf5 10 = .ok (.ireturn, 1) := by decide +kernel
set_option maxRecDepth 20000 in
theorem ggJ0_charAt_5068e_J0_isLatin1_aae02 : GoodIn wsJ0_charAt_5068e wsJ0_isLatin1_aae02 := goodIn_r _ [6, 7, 8] (by decide +kernel) (by decide +kernel)
set_option maxRecDepth 20000 in
theorem gJ0_charAt_5068e_J0_isLatin1_aae02 : GoodIn wsJ0_charAt_5068e (wsV RJ0 492 RJ0 yJ0_isLatin1_aae02 wsJ0_isLatin1_aae02) := goodIn_app (goodIn_of _ (by decide +kernel)) ggJ0_charAt_5068e_J0_isLatin1_aae02
set_option maxRecDepth 20000 in
theorem ggJ0_charAt_5068e_J1_charAt_3b067 : GoodIn wsJ0_charAt_5068e wsJ1_charAt_3b067 := goodIn_r _ [12, 13, 14, 5, 15, 16, 17, 18, 19, 20] (by decide +kernel) (by decide +kernel)
set_option maxRecDepth 20000 in
theorem gJ0_charAt_5068e_J1_charAt_3b067 : GoodIn wsJ0_charAt_5068e (va_wsS RJ0 495 yJ1_charAt_3b067 wsJ1_charAt_3b067) := goodIn_app (goodIn_of _ (by decide +kernel)) ggJ0_charAt_5068e_J1_charAt_3b067
set_option maxRecDepth 20000 in
theorem ggJ0_charAt_5068e_J2_charAt_3b067 : GoodIn wsJ0_charAt_5068e wsJ2_charAt_3b067 := goodIn_r _ [24, 25, 26, 23, 27, 28, 29, 30, 31, 14, 5, 15, 16, 17, 18, 19, 20, 32, 33, 34, 35, 36, 37] (by decide +kernel) (by decide +kernel)
set_option maxRecDepth 20000 in
theorem gJ0_charAt_5068e_J2_charAt_3b067 : GoodIn wsJ0_charAt_5068e (va_wsS RJ0 498 yJ2_charAt_3b067 wsJ2_charAt_3b067) := goodIn_app (goodIn_of _ (by decide +kernel)) ggJ0_charAt_5068e_J2_charAt_3b067
theorem dJ0_charAt_5068e_0 : decode cJ0_charAt_5068e 0 = .ok (.aload_n 0, 1) := by decide +kernel
theorem dJ0_charAt_5068e_1 : decode cJ0_charAt_5068e 1 = .ok (.invokevirtual 492, 3) := by decide +kernel
theorem dJ0_charAt_5068e_4 : decode cJ0_charAt_5068e 4 = .ok (.ifCond .eq 12, 3) := by decide +kernel
theorem dJ0_charAt_5068e_7 : decode cJ0_charAt_5068e 7 = .ok (.aload_n 0, 1) := by decide +kernel
theorem dJ0_charAt_5068e_8 : decode cJ0_charAt_5068e 8 = .ok (.getfield 9, 3) := by decide +kernel
theorem dJ0_charAt_5068e_11 : decode cJ0_charAt_5068e 11 = .ok (.iload_n 1, 1) := by decide +kernel
theorem dJ0_charAt_5068e_12 : decode cJ0_charAt_5068e 12 = .ok (.invokestatic 495, 3) := by decide +kernel
theorem dJ0_charAt_5068e_15 : decode cJ0_charAt_5068e 15 = .ok (.ireturn, 1) := by decide +kernel
theorem dJ0_charAt_5068e_16 : decode cJ0_charAt_5068e 16 = .ok (.aload_n 0, 1) := by decide +kernel
theorem dJ0_charAt_5068e_17 : decode cJ0_charAt_5068e 17 = .ok (.getfield 9, 3) := by decide +kernel
theorem dJ0_charAt_5068e_20 : decode cJ0_charAt_5068e 20 = .ok (.iload_n 1, 1) := by decide +kernel
theorem dJ0_charAt_5068e_21 : decode cJ0_charAt_5068e 21 = .ok (.invokestatic 498, 3) := by decide +kernel
theorem dJ0_charAt_5068e_24 : decode cJ0_charAt_5068e 24 = .ok (.ireturn, 1) := by decide +kernel
theorem dJ0_coder_7d493_0 : decode cJ0_coder_7d493 0 = .ok (.getstatic 38, 3) := by decide +kernel
theorem dJ0_coder_7d493_3 : decode cJ0_coder_7d493 3 = .ok (.ifCond .eq 10, 3) := by decide +kernel
theorem dJ0_coder_7d493_6 : decode cJ0_coder_7d493 6 = .ok (.aload_n 0, 1) := by decide +kernel
theorem dJ0_coder_7d493_7 : decode cJ0_coder_7d493 7 = .ok (.getfield 15, 3) := by decide +kernel
theorem dJ0_coder_7d493_10 : decode cJ0_coder_7d493 10 = .ok (.goto 4, 3) := by decide +kernel
theorem dJ0_coder_7d493_13 : decode cJ0_coder_7d493 13 = .ok (.iconst 1, 1) := by decide +kernel
theorem dJ0_coder_7d493_14 : decode cJ0_coder_7d493 14 = .ok (.ireturn, 1) := by decide +kernel
theorem dJ0_isLatin1_aae02_0 : decode cJ0_isLatin1_aae02 0 = .ok (.getstatic 38, 3) := by decide +kernel
theorem dJ0_isLatin1_aae02_3 : decode cJ0_isLatin1_aae02 3 = .ok (.ifCond .eq 14, 3) := by decide +kernel
theorem dJ0_isLatin1_aae02_6 : decode cJ0_isLatin1_aae02 6 = .ok (.aload_n 0, 1) := by decide +kernel
theorem dJ0_isLatin1_aae02_7 : decode cJ0_isLatin1_aae02 7 = .ok (.getfield 15, 3) := by decide +kernel
theorem dJ0_isLatin1_aae02_10 : decode cJ0_isLatin1_aae02 10 = .ok (.ifCond .ne 7, 3) := by decide +kernel
theorem dJ0_isLatin1_aae02_13 : decode cJ0_isLatin1_aae02 13 = .ok (.iconst 1, 1) := by decide +kernel
theorem dJ0_isLatin1_aae02_14 : decode cJ0_isLatin1_aae02 14 = .ok (.goto 4, 3) := by decide +kernel
theorem dJ0_isLatin1_aae02_17 : decode cJ0_isLatin1_aae02 17 = .ok (.iconst 0, 1) := by decide +kernel
theorem dJ0_isLatin1_aae02_18 : decode cJ0_isLatin1_aae02 18 = .ok (.ireturn, 1) := by decide +kernel
set_option maxRecDepth 20000 in
theorem ggJ0_checkIndex_df160_J3_checkIndex_8e157 : GoodIn wsJ0_checkIndex_df160 wsJ3_checkIndex_8e157 := goodIn_r _ [5] (by decide +kernel) (by decide +kernel)
set_option maxRecDepth 20000 in
theorem gJ0_checkIndex_df160_J3_checkIndex_8e157 : GoodIn wsJ0_checkIndex_df160 (va_wsS RJ0 1059 yJ3_checkIndex_8e157 wsJ3_checkIndex_8e157) := goodIn_app (goodIn_of _ (by decide +kernel)) ggJ0_checkIndex_df160_J3_checkIndex_8e157
theorem dJ0_checkIndex_df160_0 : decode cJ0_checkIndex_df160 0 = .ok (.iload_n 0, 1) := by decide +kernel
theorem dJ0_checkIndex_df160_1 : decode cJ0_checkIndex_df160 1 = .ok (.iload_n 1, 1) := by decide +kernel
theorem dJ0_checkIndex_df160_2 : decode cJ0_checkIndex_df160 2 = .ok (.getstatic 1053, 3) := by decide +kernel
theorem dJ0_checkIndex_df160_5 : decode cJ0_checkIndex_df160 5 = .ok (.invokestatic 1059, 3) := by decide +kernel
theorem dJ0_checkIndex_df160_8 : decode cJ0_checkIndex_df160 8 = .ok (.pop, 1) := by decide +kernel
theorem dJ0_checkIndex_df160_9 : decode cJ0_checkIndex_df160 9 = .ok (.return_, 1) := by decide +kernel
set_option maxRecDepth 20000 in
theorem ggJ1_charAt_3b067_J0_checkIndex_df160 : GoodIn wsJ1_charAt_3b067 wsJ0_checkIndex_df160 := goodIn_r _ [4, 5, 6, 7, 8, 9] (by decide +kernel) (by decide +kernel)
set_option maxRecDepth 20000 in
theorem gJ1_charAt_3b067_J0_checkIndex_df160 : GoodIn wsJ1_charAt_3b067 (va_wsS RJ1 9 yJ0_checkIndex_df160 wsJ0_checkIndex_df160) := goodIn_app (goodIn_of _ (by decide +kernel)) ggJ1_charAt_3b067_J0_checkIndex_df160
theorem dJ1_charAt_3b067_0 : decode cJ1_charAt_3b067 0 = .ok (.iload_n 1, 1) := by decide +kernel
theorem dJ1_charAt_3b067_1 : decode cJ1_charAt_3b067 1 = .ok (.aload_n 0, 1) := by decide +kernel
theorem dJ1_charAt_3b067_2 : decode cJ1_charAt_3b067 2 = .ok (.arraylength, 1) := by decide +kernel
theorem dJ1_charAt_3b067_3 : decode cJ1_charAt_3b067 3 = .ok (.invokestatic 9, 3) := by decide +kernel
theorem dJ1_charAt_3b067_6 : decode cJ1_charAt_3b067 6 = .ok (.aload_n 0, 1) := by decide +kernel
theorem dJ1_charAt_3b067_7 : decode cJ1_charAt_3b067 7 = .ok (.iload_n 1, 1) := by decide +kernel
theorem dJ1_charAt_3b067_8 : decode cJ1_charAt_3b067 8 = .ok (.baload, 1) := by decide +kernel
theorem dJ1_charAt_3b067_9 : decode cJ1_charAt_3b067 9 = .ok (.sipush 255, 3) := by decide +kernel
theorem dJ1_charAt_3b067_12 : decode cJ1_charAt_3b067 12 = .ok (.iand, 1) := by decide +kernel
theorem dJ1_charAt_3b067_13 : decode cJ1_charAt_3b067 13 = .ok (.i2c, 1) := by decide +kernel
theorem dJ1_charAt_3b067_14 : decode cJ1_charAt_3b067 14 = .ok (.ireturn, 1) := by decide +kernel
set_option maxRecDepth 20000 in
theorem ggJ2_getChar_3b067_J2_length_9d52b : GoodIn wsJ2_getChar_3b067 wsJ2_length_9d52b := goodIn_r _ [7] (by decide +kernel) (by decide +kernel)
set_option maxRecDepth 20000 in
theorem gJ2_getChar_3b067_J2_length_9d52b : GoodIn wsJ2_getChar_3b067 (va_wsS RJ2 48 yJ2_length_9d52b wsJ2_length_9d52b) := goodIn_app (goodIn_of _ (by decide +kernel)) ggJ2_getChar_3b067_J2_length_9d52b
theorem dJ2_getChar_3b067_0 : decode cJ2_getChar_3b067 0 = .ok (.getstatic 44, 3) := by decide +kernel
theorem dJ2_getChar_3b067_3 : decode cJ2_getChar_3b067 3 = .ok (.ifCond .ne 25, 3) := by decide +kernel
theorem dJ2_getChar_3b067_6 : decode cJ2_getChar_3b067 6 = .ok (.iload_n 1, 1) := by decide +kernel
theorem dJ2_getChar_3b067_7 : decode cJ2_getChar_3b067 7 = .ok (.ifCond .lt 11, 3) := by decide +kernel
theorem dJ2_getChar_3b067_10 : decode cJ2_getChar_3b067 10 = .ok (.iload_n 1, 1) := by decide +kernel
theorem dJ2_getChar_3b067_11 : decode cJ2_getChar_3b067 11 = .ok (.aload_n 0, 1) := by decide +kernel
theorem dJ2_getChar_3b067_12 : decode cJ2_getChar_3b067 12 = .ok (.invokestatic 48, 3) := by decide +kernel
theorem dJ2_getChar_3b067_15 : decode cJ2_getChar_3b067 15 = .ok (.if_icmp .lt 13, 3) := by decide +kernel
theorem dJ2_getChar_3b067_18 : decode cJ2_getChar_3b067 18 = .ok (.new 52, 3) := by decide +kernel
theorem dJ2_getChar_3b067_21 : decode cJ2_getChar_3b067 21 = .ok (.dup, 1) := by decide +kernel
theorem dJ2_getChar_3b067_22 : decode cJ2_getChar_3b067 22 = .ok (.ldc 54, 2) := by decide +kernel
theorem dJ2_getChar_3b067_24 : decode cJ2_getChar_3b067 24 = .ok (.invokespecial 56, 3) := by decide +kernel
theorem dJ2_getChar_3b067_27 : decode cJ2_getChar_3b067 27 = .ok (.athrow, 1) := by decide +kernel
theorem dJ2_getChar_3b067_28 : decode cJ2_getChar_3b067 28 = .ok (.iload_n 1, 1) := by decide +kernel
theorem dJ2_getChar_3b067_29 : decode cJ2_getChar_3b067 29 = .ok (.iconst 1, 1) := by decide +kernel
theorem dJ2_getChar_3b067_30 : decode cJ2_getChar_3b067 30 = .ok (.ishl, 1) := by decide +kernel
theorem dJ2_getChar_3b067_31 : decode cJ2_getChar_3b067 31 = .ok (.istore_n 1, 1) := by decide +kernel
theorem dJ2_getChar_3b067_32 : decode cJ2_getChar_3b067 32 = .ok (.aload_n 0, 1) := by decide +kernel
theorem dJ2_getChar_3b067_33 : decode cJ2_getChar_3b067 33 = .ok (.iload_n 1, 1) := by decide +kernel
theorem dJ2_getChar_3b067_34 : decode cJ2_getChar_3b067 34 = .ok (.iinc 1 1, 3) := by decide +kernel
theorem dJ2_getChar_3b067_37 : decode cJ2_getChar_3b067 37 = .ok (.baload, 1) := by decide +kernel
theorem dJ2_getChar_3b067_38 : decode cJ2_getChar_3b067 38 = .ok (.sipush 255, 3) := by decide +kernel
theorem dJ2_getChar_3b067_41 : decode cJ2_getChar_3b067 41 = .ok (.iand, 1) := by decide +kernel
theorem dJ2_getChar_3b067_42 : decode cJ2_getChar_3b067 42 = .ok (.getstatic 59, 3) := by decide +kernel
theorem dJ2_getChar_3b067_45 : decode cJ2_getChar_3b067 45 = .ok (.ishl, 1) := by decide +kernel
theorem dJ2_getChar_3b067_46 : decode cJ2_getChar_3b067 46 = .ok (.aload_n 0, 1) := by decide +kernel
theorem dJ2_getChar_3b067_47 : decode cJ2_getChar_3b067 47 = .ok (.iload_n 1, 1) := by decide +kernel
theorem dJ2_getChar_3b067_48 : decode cJ2_getChar_3b067 48 = .ok (.baload, 1) := by decide +kernel
theorem dJ2_getChar_3b067_49 : decode cJ2_getChar_3b067 49 = .ok (.sipush 255, 3) := by decide +kernel
theorem dJ2_getChar_3b067_52 : decode cJ2_getChar_3b067 52 = .ok (.iand, 1) := by decide +kernel
theorem dJ2_getChar_3b067_53 : decode cJ2_getChar_3b067 53 = .ok (.getstatic 63, 3) := by decide +kernel
theorem dJ2_getChar_3b067_56 : decode cJ2_getChar_3b067 56 = .ok (.ishl, 1) := by decide +kernel
theorem dJ2_getChar_3b067_57 : decode cJ2_getChar_3b067 57 = .ok (.ior, 1) := by decide +kernel
theorem dJ2_getChar_3b067_58 : decode cJ2_getChar_3b067 58 = .ok (.i2c, 1) := by decide +kernel
theorem dJ2_getChar_3b067_59 : decode cJ2_getChar_3b067 59 = .ok (.ireturn, 1) := by decide +kernel
theorem dJ2_length_9d52b_0 : decode cJ2_length_9d52b 0 = .ok (.aload_n 0, 1) := by decide +kernel
theorem dJ2_length_9d52b_1 : decode cJ2_length_9d52b 1 = .ok (.arraylength, 1) := by decide +kernel
theorem dJ2_length_9d52b_2 : decode cJ2_length_9d52b 2 = .ok (.iconst 1, 1) := by decide +kernel
theorem dJ2_length_9d52b_3 : decode cJ2_length_9d52b 3 = .ok (.ishr, 1) := by decide +kernel
theorem dJ2_length_9d52b_4 : decode cJ2_length_9d52b 4 = .ok (.ireturn, 1) := by decide +kernel
set_option maxRecDepth 20000 in
theorem ggJ2_charAt_3b067_J2_checkIndex_2214a : GoodIn wsJ2_charAt_3b067 wsJ2_checkIndex_2214a := goodIn_r _ [4, 5, 6, 3, 7, 8, 9, 10, 11, 12, 13, 14, 15, 16] (by decide +kernel) (by decide +kernel)
set_option maxRecDepth 20000 in
theorem gJ2_charAt_3b067_J2_checkIndex_2214a : GoodIn wsJ2_charAt_3b067 (va_wsS RJ2 67 yJ2_checkIndex_2214a wsJ2_checkIndex_2214a) := goodIn_app (goodIn_of _ (by decide +kernel)) ggJ2_charAt_3b067_J2_checkIndex_2214a
set_option maxRecDepth 20000 in
theorem ggJ2_charAt_3b067_J2_getChar_3b067 : GoodIn wsJ2_charAt_3b067 wsJ2_getChar_3b067 := goodIn_r _ [19, 20, 21, 22, 5, 6, 3, 7] (by decide +kernel) (by decide +kernel)
set_option maxRecDepth 20000 in
theorem gJ2_charAt_3b067_J2_getChar_3b067 : GoodIn wsJ2_charAt_3b067 (va_wsS RJ2 71 yJ2_getChar_3b067 wsJ2_getChar_3b067) := goodIn_app (goodIn_of _ (by decide +kernel)) ggJ2_charAt_3b067_J2_getChar_3b067
theorem dJ2_charAt_3b067_0 : decode cJ2_charAt_3b067 0 = .ok (.iload_n 1, 1) := by decide +kernel
theorem dJ2_charAt_3b067_1 : decode cJ2_charAt_3b067 1 = .ok (.aload_n 0, 1) := by decide +kernel
theorem dJ2_charAt_3b067_2 : decode cJ2_charAt_3b067 2 = .ok (.invokestatic 67, 3) := by decide +kernel
theorem dJ2_charAt_3b067_5 : decode cJ2_charAt_3b067 5 = .ok (.aload_n 0, 1) := by decide +kernel
theorem dJ2_charAt_3b067_6 : decode cJ2_charAt_3b067 6 = .ok (.iload_n 1, 1) := by decide +kernel
theorem dJ2_charAt_3b067_7 : decode cJ2_charAt_3b067 7 = .ok (.invokestatic 71, 3) := by decide +kernel
theorem dJ2_charAt_3b067_10 : decode cJ2_charAt_3b067 10 = .ok (.ireturn, 1) := by decide +kernel
set_option maxRecDepth 20000 in
theorem ggJ2_checkIndex_2214a_J2_length_9d52b : GoodIn wsJ2_checkIndex_2214a wsJ2_length_9d52b := goodIn_r _ [4] (by decide +kernel) (by decide +kernel)
set_option maxRecDepth 20000 in
theorem gJ2_checkIndex_2214a_J2_length_9d52b : GoodIn wsJ2_checkIndex_2214a (va_wsS RJ2 48 yJ2_length_9d52b wsJ2_length_9d52b) := goodIn_app (goodIn_of _ (by decide +kernel)) ggJ2_checkIndex_2214a_J2_length_9d52b
set_option maxRecDepth 20000 in
theorem ggJ2_checkIndex_2214a_J0_checkIndex_df160 : GoodIn wsJ2_checkIndex_2214a wsJ0_checkIndex_df160 := goodIn_r _ [8, 9, 10, 11, 12, 13] (by decide +kernel) (by decide +kernel)
set_option maxRecDepth 20000 in
theorem gJ2_checkIndex_2214a_J0_checkIndex_df160 : GoodIn wsJ2_checkIndex_2214a (va_wsS RJ2 414 yJ0_checkIndex_df160 wsJ0_checkIndex_df160) := goodIn_app (goodIn_of _ (by decide +kernel)) ggJ2_checkIndex_2214a_J0_checkIndex_df160
theorem dJ2_checkIndex_2214a_0 : decode cJ2_checkIndex_2214a 0 = .ok (.iload_n 0, 1) := by decide +kernel
theorem dJ2_checkIndex_2214a_1 : decode cJ2_checkIndex_2214a 1 = .ok (.aload_n 1, 1) := by decide +kernel
theorem dJ2_checkIndex_2214a_2 : decode cJ2_checkIndex_2214a 2 = .ok (.invokestatic 48, 3) := by decide +kernel
theorem dJ2_checkIndex_2214a_5 : decode cJ2_checkIndex_2214a 5 = .ok (.invokestatic 414, 3) := by decide +kernel
theorem dJ2_checkIndex_2214a_8 : decode cJ2_checkIndex_2214a 8 = .ok (.return_, 1) := by decide +kernel
theorem dJ3_checkIndex_8e157_0 : decode cJ3_checkIndex_8e157 0 = .ok (.iload_n 0, 1) := by decide +kernel
theorem dJ3_checkIndex_8e157_1 : decode cJ3_checkIndex_8e157 1 = .ok (.ifCond .lt 8, 3) := by decide +kernel
theorem dJ3_checkIndex_8e157_4 : decode cJ3_checkIndex_8e157 4 = .ok (.iload_n 0, 1) := by decide +kernel
theorem dJ3_checkIndex_8e157_5 : decode cJ3_checkIndex_8e157 5 = .ok (.iload_n 1, 1) := by decide +kernel
theorem dJ3_checkIndex_8e157_6 : decode cJ3_checkIndex_8e157 6 = .ok (.if_icmp .lt 10, 3) := by decide +kernel
theorem dJ3_checkIndex_8e157_9 : decode cJ3_checkIndex_8e157 9 = .ok (.aload_n 2, 1) := by decide +kernel
theorem dJ3_checkIndex_8e157_10 : decode cJ3_checkIndex_8e157 10 = .ok (.iload_n 0, 1) := by decide +kernel
theorem dJ3_checkIndex_8e157_11 : decode cJ3_checkIndex_8e157 11 = .ok (.iload_n 1, 1) := by decide +kernel
theorem dJ3_checkIndex_8e157_12 : decode cJ3_checkIndex_8e157 12 = .ok (.invokestatic 95, 3) := by decide +kernel
theorem dJ3_checkIndex_8e157_15 : decode cJ3_checkIndex_8e157 15 = .ok (.athrow, 1) := by decide +kernel
theorem dJ3_checkIndex_8e157_16 : decode cJ3_checkIndex_8e157 16 = .ok (.iload_n 0, 1) := by decide +kernel
theorem dJ3_checkIndex_8e157_17 : decode cJ3_checkIndex_8e157 17 = .ok (.ireturn, 1) := by decide +kernel
abbrev vwCl : List vw_C := [(RX0, TX0, 9), (RX1, TX1, 3), (RX2, TX2, 4), (RX3, TX3, 3), (RX4, TX4, 5), (RX5, TX5, 6), (RX6, TX6, 12), (RX7, TX7, 7), (RX8, TX8, 2), (RX9, TX9, 9), (RX10, TX10, 45)]
end
section
/-! THE POOL: cells named by ids; wl LL ad P: the cell of id j lies at ad j and holds P j. -/
abbrev tf_G : Type := va_G × (Nat → ClassId) × (Nat → Nat) × (Nat → Nat)
def tf_sidx : List Nat := [35, 48, 53, 63, 68, 72, 76, 78, 80]
def tf_stxt : List String := ["order", "days", "loss", "private", "fine", "county", "boats", "told", "is"]
def tf_slen : List Nat := [5, 4, 4, 7, 4, 6, 5, 4, 2]
def tf_sbyt : List (List Int32) := [[111, 114, 100, 101, 114], [100, 97, 121, 115], [108, 111, 115, 115], [112, 114, 105, 118, 97, 116, 101], [102, 105, 110, 101], [99, 111, 117, 110, 116, 121], [98, 111, 97, 116, 115], [116, 111, 108, 100], [105, 115]]
def tf_tys (cy : Nat → ClassId) : List (ClassId × FieldType) := [(cy 0, .int), (cy 1, .byte), (cy 2, .boolean), (cy 3, .object "TributeFleet$Squadron"), (cy 4, .object "TributeFleet$Statute")]
def tf_N (U : State) : Prop := va_Nw (.methodLinkNest RX0 40 yX9_isPlace RX9) U ∧ va_Nw (.methodLinkNest RX2 25 yX9_isCounty RX9) U ∧ va_Nw (.methodLinkNest RX3 29 yX9_isPlace RX9) U ∧ va_Nw (.methodLinkNest RX5 39 yX9_isPlace RX9) U ∧ va_Nw (.methodLinkNest RX6 54 yX9_isPlace RX9) U ∧ va_Nw (.methodLinkNest RX7 34 yX9_isPlace RX9) U
def tf_R (G : tf_G) (U : State) : Prop := ∀ i, i < 9 → vk_R RX4 (tf_sidx.getD i 0) (tf_stxt.getD i "") (G.2.2.1 i) U
def tf_S (G : tf_G) (A : Nat → Prop) (U : State) (H : Heap) : Prop := vk_S 9 tf_slen tf_sbyt G.2.2.1 G.2.2.2 A U H ∧ va_Z "java/lang/String" "COMPACT_STRINGS" "Z" (.int 1) A U H ∧ va_Zq "jdk/internal/util/Preconditions" "SIOOBE_FORMATTER" "Ljava/util/function/BiFunction;" A U H
/-- what a run takes from its surroundings: classes, arrays, private links, text constants -/
def tf_E (G : tf_G) (A : Nat → Prop) (U : State) (H : Heap) : Prop := va_K G.1 vwCl (tf_tys G.2.1) U ∧ tf_N U ∧ tf_R G U ∧ tf_S G A U H ∧ va_AO "TributeFleet$Squadron" U ∧ va_AO "TributeFleet$Statute" U
theorem tf_E.warm {G : tf_G} {A : Nat → Prop} {s U : State} {H : Heap} (hW : s.WarmedH U.vm) (h : tf_E G A s H) : tf_E G A U H := by
  obtain ⟨h1, ⟨n1, n2, n3, n4, n5, n6⟩, h3, ⟨s1, s2, s3⟩, a1, a2⟩ := h
  exact ⟨va_K.moved hW.alike h1, ⟨n1.warmM hW, n2.warmM hW, n3.warmM hW, n4.warmM hW, n5.warmM hW, n6.warmM hW⟩, fun i hi => (h3 i hi).warm hW, ⟨s1.moved hW.alike, s2.moved hW.alike, s3.moved hW.alike⟩, a1.moved hW.alike, a2.moved hW.alike⟩
theorem tf_E.same {G : tf_G} {A : Nat → Prop} {u U : State} {H : Heap} (hv : u.vm = U.vm) (h : tf_E G A u H) : tf_E G A U H := by
  obtain ⟨h1, ⟨n1, n2, n3, n4, n5, n6⟩, h3, ⟨s1, s2, s3⟩, a1, a2⟩ := h
  have ha : u.vm.Alike U.vm := hv ▸ Vm.Alike.refl u.vm
  exact ⟨va_K.moved ha h1, ⟨n1.same rfl hv, n2.same rfl hv, n3.same rfl hv, n4.same rfl hv, n5.same rfl hv, n6.same rfl hv⟩, fun i hi => (h3 i hi).same hv.symm, ⟨s1.moved ha, s2.moved ha, s3.moved ha⟩, a1.moved ha, a2.moved ha⟩
theorem tf_E.kept {G : tf_G} {A : Nat → Prop} {U : State} {H H1 : Heap} (h : tf_E G A U H) (hq : ∀ a : Nat, a < H.size → ¬ A a → H1[a]? = H[a]?) : tf_E G A U H1 := ⟨h.1, h.2.1, h.2.2.1, ⟨h.2.2.2.1.1.kept hq, h.2.2.2.1.2.1.kept hq, h.2.2.2.1.2.2.kept hq⟩, h.2.2.2.2⟩
theorem tf_E.narrow {G : tf_G} {A B : Nat → Prop} {U : State} {H : Heap} (h : tf_E G A U H) (hAB : ∀ q, B q → A q) : tf_E G B U H := ⟨h.1, h.2.1, h.2.2.1, ⟨h.2.2.2.1.1.narrow hAB, h.2.2.2.1.2.1.narrow hAB, h.2.2.2.1.2.2.narrow hAB⟩, h.2.2.2.2⟩
def wl (LL : List Nat) (ad : Nat → Nat) (P : Nat → va_E) : va_W := LL.map (fun j => (ad j, P j))
def tf_u {α : Type} (P : Nat → α) (j : Nat) (x : α) : Nat → α := fun k => if k = j then x else P k
theorem wl_get {LL : List Nat} {ad : Nat → Nat} {P : Nat → va_E} {j : Nat} (h : j ∈ LL) : ∃ k : Nat, LL[k]? = some j ∧ (wl LL ad P)[k]? = some (ad j, P j) := by
  obtain ⟨k, hk⟩ := List.getElem?_of_mem h
  exact ⟨k, hk, by unfold wl; rw [List.getElem?_map, hk]; rfl⟩
theorem wl_D {A : Nat → Prop} {LL : List Nat} {ad : Nat → Nat} {P P' : Nat → va_E} (h : va_D A (wl LL ad P)) : va_D A (wl LL ad P') := by
  have key : ∀ (k : Nat) (q : Nat × va_E), (wl LL ad P')[k]? = some q → ∃ q' : Nat × va_E, (wl LL ad P)[k]? = some q' ∧ q'.1 = q.1 := by
    intro k q hq
    unfold wl at hq ⊢
    rw [List.getElem?_map] at hq ⊢
    cases hk : LL[k]? with
    | none => rw [hk] at hq; cases hq
    | some j =>
      rw [hk] at hq
      cases hq
      exact ⟨(ad j, P j), rfl, rfl⟩
  refine ⟨fun i j x y hx hy hxy => ?_, fun k q hq => ?_⟩
  · obtain ⟨x', h1, e1⟩ := key i x hx
    obtain ⟨y', h2, e2⟩ := key j y hy
    exact h.1 i j x' y' h1 h2 (by rw [e1, e2, hxy])
  · obtain ⟨q', h1, e1⟩ := key k q hq
    rw [← e1]
    exact h.2 k q' h1
theorem wl_set {A : Nat → Prop} {LL : List Nat} {ad : Nat → Nat} {P : Nat → va_E} {j k : Nat} (hD : va_D A (wl LL ad P)) (hk : LL[k]? = some j) (x : va_E) : (wl LL ad P).set k (ad j, x) = wl LL ad (tf_u P j x) := by
  apply List.ext_getElem?
  intro i
  rw [List.getElem?_set]
  unfold wl
  rw [List.getElem?_map, List.getElem?_map, List.length_map]
  have hkl : k < LL.length := (List.getElem?_eq_some_iff.mp hk).1
  by_cases hki : k = i
  · subst hki
    rw [if_pos rfl, if_pos hkl, hk]
    simp [tf_u]
  · rw [if_neg hki]
    cases hi : LL[i]? with
    | none => rfl
    | some j' =>
      have hne : j' ≠ j := by
        intro e
        subst e
        exact hki (hD.1 k i (ad j', P j') (ad j', P j') (by unfold wl; rw [List.getElem?_map, hk]; rfl) (by unfold wl; rw [List.getElem?_map, hi]; rfl) rfl)
      simp [tf_u, hne]
theorem wl_push {LL : List Nat} {ad : Nat → Nat} {P : Nat → va_E} {j a : Nat} (x : va_E) (hj : j ∉ LL) : wl LL ad P ++ [(a, x)] = wl (LL ++ [j]) (tf_u ad j a) (tf_u P j x) := by
  unfold wl
  rw [List.map_append]
  congr 1
  · apply List.map_congr_left
    intro i hi
    have : i ≠ j := fun e => hj (e ▸ hi)
    simp [tf_u, this]
  · simp [tf_u]
theorem wl_congr {LL : List Nat} {ad ad' : Nat → Nat} {P P' : Nat → va_E} (h : ∀ j ∈ LL, ad j = ad' j ∧ P j = P' j) : wl LL ad P = wl LL ad' P' := by
  unfold wl
  apply List.map_congr_left
  intro j hj
  rw [(h j hj).1, (h j hj).2]
def tf_tr : Nat → Prop := fun _ => True
theorem wl_self {LL : List Nat} {ad : Nat → Nat} {P P' : Nat → va_E} {sz : Nat} (h : va_D tf_tr (wl LL ad P)) : va_D (va_A (wl LL ad P) sz) (wl LL ad P') := wl_D (P := P) h.self
theorem wl_A {LL : List Nat} {ad : Nat → Nat} {P : Nat → va_E} {sz : Nat} {A : Nat → Prop} {Z : Nat} (hD : va_D A (wl LL ad P)) (hA : ∀ q, Z ≤ q → A q) (hz : Z ≤ sz) : ∀ q, va_A (wl LL ad P) sz q → A q := by
  intro q h
  rcases h with ⟨k, x, h⟩ | h
  · exact hD.2 k _ h
  · exact hA q (Nat.le_trans hz h)

def XJ (p : Program) (l : Launch) (e : Env) (R : Room) (s : State) (m : MethodId) (args : Array Value) (below : List Frame) (meth : Method) (c : Code) (G : tf_G) (A : Nat → Prop) (LL : List Nat) (ad : Nat → Nat) (Q : State → Prop) (nL cells slots : Nat) (P : Nat → va_E) (pc : Nat) (L : List (Nat × Value)) (st : List Value) : Prop :=
  ∀ (H : Heap) (locs : List Loc) (ls : Array Slot), va_P G.1 vwCl (wl LL ad P) H → va_S A s.heap H locs → lv_has ls nL L → W p l e R s m args below meth c H locs cells slots Q (F0 m pc ls st)
def Cx (p : Program) (s : State) (m : MethodId) (args : Array Value) (meth : Method) (c : Code) (cc : ByteArray) (nL : Nat) (own : String) (Ts : List Cond) (G : tf_G) (A : Nat → Prop) (LL : List Nat) (ad : Nat → Nat) : Prop :=
  CallFix p m c cc nL s args Ts own ∧ meth.locks = false ∧ tf_E G A s s.heap ∧ (∀ P, va_D A (wl LL ad P)) ∧ ∀ q, s.heap.size ≤ q → A q
section XR
variable {p : Program} {l : Launch} {e : Env} {R : Room} {s : State} {m : MethodId} {args : Array Value} {below : List Frame} {meth : Method} {c : Code} {G : tf_G} {A : Nat → Prop} {LL : List Nat} {ad : Nat → Nat} {Q : State → Prop} {nL cells slots : Nat} {P : Nat → va_E} {cc : ByteArray} {own : String} {Ts : List Cond} {pc : Nat} {L : List (Nat × Value)} {st : List Value}

def us (x y : Int32) : Int32 := (x.toUInt32 >>> (y.toUInt32 &&& Int32.toUInt32 31)).toInt32
theorem i_dec1 (x : Int32) : x + Int32.ofInt (-1) = x - 1 := by rw [Int32.sub_eq_add_neg]; rfl
theorem x_iconst (C : Cx p s m args meth c cc nL own Ts G A LL ad) {n : Int} {v : Int32} (hdg : decode cc pc = .ok (.iconst n, 1)) (hv : Int32.ofInt n = v) (k : XJ p l e R s m args below meth c G A LL ad Q nL cells slots P (pc + 1) L (.int v :: st)) : XJ p l e R s m args below meth c G A LL ad Q nL cells slots P (pc) L (st) := fun H locs ls hP hS hl => lv_iconst C.1.1 C.1.2.1 hdg hv (k H locs ls hP hS hl)
theorem x_bipush (C : Cx p s m args meth c cc nL own Ts G A LL ad) {n : Int} {v : Int32} (hdg : decode cc pc = .ok (.bipush n, 2)) (hv : (Int8.ofInt n).toInt32 = v) (k : XJ p l e R s m args below meth c G A LL ad Q nL cells slots P (pc + 2) L (.int v :: st)) : XJ p l e R s m args below meth c G A LL ad Q nL cells slots P (pc) L (st) := fun H locs ls hP hS hl => lv_bipush C.1.1 C.1.2.1 hdg hv (k H locs ls hP hS hl)
theorem x_sipush (C : Cx p s m args meth c cc nL own Ts G A LL ad) {n : Int} {v : Int32} (hdg : decode cc pc = .ok (.sipush n, 3)) (hv : (Int16.ofInt n).toInt32 = v) (k : XJ p l e R s m args below meth c G A LL ad Q nL cells slots P (pc + 3) L (.int v :: st)) : XJ p l e R s m args below meth c G A LL ad Q nL cells slots P (pc) L (st) := fun H locs ls hP hS hl => lv_sipush C.1.1 C.1.2.1 hdg hv (k H locs ls hP hS hl)
theorem x_iload_n (C : Cx p s m args meth c cc nL own Ts G A LL ad) {k0 : Fin 4} {i : Nat} {x : Int32} (j : Nat) (hdg : decode cc pc = .ok (.iload_n k0, 1)) (hi : (k0 : Nat) = i) (hj : L[j]? = some (i, .int x)) (k : XJ p l e R s m args below meth c G A LL ad Q nL cells slots P (pc + 1) L (.int x :: st)) : XJ p l e R s m args below meth c G A LL ad Q nL cells slots P (pc) L (st) := fun H locs ls hP hS hl => lv_iload_n C.1.1 C.1.2.1 hdg hi (lv_at hl j hj) (k H locs ls hP hS hl)
theorem x_iload (C : Cx p s m args meth c cc nL own Ts G A LL ad) {i : Nat} {x : Int32} (j : Nat) (hdg : decode cc pc = .ok (.iload i, 2)) (hj : L[j]? = some (i, .int x)) (k : XJ p l e R s m args below meth c G A LL ad Q nL cells slots P (pc + 2) L (.int x :: st)) : XJ p l e R s m args below meth c G A LL ad Q nL cells slots P (pc) L (st) := fun H locs ls hP hS hl => lv_iload C.1.1 C.1.2.1 hdg (lv_at hl j hj) (k H locs ls hP hS hl)
theorem x_aload_n (C : Cx p s m args meth c cc nL own Ts G A LL ad) {k0 : Fin 4} {i : Nat} {x : Nat} (j : Nat) (hdg : decode cc pc = .ok (.aload_n k0, 1)) (hi : (k0 : Nat) = i) (hj : L[j]? = some (i, .ref x)) (k : XJ p l e R s m args below meth c G A LL ad Q nL cells slots P (pc + 1) L (.ref x :: st)) : XJ p l e R s m args below meth c G A LL ad Q nL cells slots P (pc) L (st) := fun H locs ls hP hS hl => lv_aload_n C.1.1 C.1.2.1 hdg hi (lv_at hl j hj) (k H locs ls hP hS hl)
theorem x_aload (C : Cx p s m args meth c cc nL own Ts G A LL ad) {i : Nat} {x : Nat} (j : Nat) (hdg : decode cc pc = .ok (.aload i, 2)) (hj : L[j]? = some (i, .ref x)) (k : XJ p l e R s m args below meth c G A LL ad Q nL cells slots P (pc + 2) L (.ref x :: st)) : XJ p l e R s m args below meth c G A LL ad Q nL cells slots P (pc) L (st) := fun H locs ls hP hS hl => lv_aload C.1.1 C.1.2.1 hdg (lv_at hl j hj) (k H locs ls hP hS hl)
theorem x_aload_nN (C : Cx p s m args meth c cc nL own Ts G A LL ad) {k0 : Fin 4} {i : Nat} (j : Nat) (hdg : decode cc pc = .ok (.aload_n k0, 1)) (hi : (k0 : Nat) = i) (hj : L[j]? = some (i, .null)) (k : XJ p l e R s m args below meth c G A LL ad Q nL cells slots P (pc + 1) L (.null :: st)) : XJ p l e R s m args below meth c G A LL ad Q nL cells slots P (pc) L (st) := fun H locs ls hP hS hl => lv_aload_nN C.1.1 C.1.2.1 hdg hi (lv_at hl j hj) (k H locs ls hP hS hl)
theorem x_aloadN (C : Cx p s m args meth c cc nL own Ts G A LL ad) {i : Nat} (j : Nat) (hdg : decode cc pc = .ok (.aload i, 2)) (hj : L[j]? = some (i, .null)) (k : XJ p l e R s m args below meth c G A LL ad Q nL cells slots P (pc + 2) L (.null :: st)) : XJ p l e R s m args below meth c G A LL ad Q nL cells slots P (pc) L (st) := fun H locs ls hP hS hl => lv_aloadN C.1.1 C.1.2.1 hdg (lv_at hl j hj) (k H locs ls hP hS hl)
theorem x_lload_n (C : Cx p s m args meth c cc nL own Ts G A LL ad) {k0 : Fin 4} {i : Nat} {x : Int64} (j : Nat) (hdg : decode cc pc = .ok (.lload_n k0, 1)) (hi : (k0 : Nat) = i) (hj : L[j]? = some (i, .long x)) (k : XJ p l e R s m args below meth c G A LL ad Q nL cells slots P (pc + 1) L (.long x :: st)) : XJ p l e R s m args below meth c G A LL ad Q nL cells slots P (pc) L (st) := fun H locs ls hP hS hl => lv_lload_n C.1.1 C.1.2.1 hdg hi (lv_at hl j hj) (k H locs ls hP hS hl)
theorem x_lconst (C : Cx p s m args meth c cc nL own Ts G A LL ad) {n : Fin 2} {v : Int64} (hdg : decode cc pc = .ok (.lconst n, 1)) (hv : Int64.ofNat (n : Nat) = v) (k : XJ p l e R s m args below meth c G A LL ad Q nL cells slots P (pc + 1) L (.long v :: st)) : XJ p l e R s m args below meth c G A LL ad Q nL cells slots P (pc) L (st) := fun H locs ls hP hS hl => lv_lconst C.1.1 C.1.2.1 hdg hv (k H locs ls hP hS hl)
theorem x_istore_n (C : Cx p s m args meth c cc nL own Ts G A LL ad) {k0 : Fin 4} {i : Nat} {x : Int32} (hdg : decode cc pc = .ok (.istore_n k0, 1)) (hi : (k0 : Nat) = i) {L1 : List (Nat × Value)} (hn : i < nL) (hl1 : (i, Value.int x) :: L.filter (fun q => !(q.1 == i) && !(q.1 + 1 == i && q.2.category == 2)) = L1) (k : XJ p l e R s m args below meth c G A LL ad Q nL cells slots P (pc + 1) L1 (st)) : XJ p l e R s m args below meth c G A LL ad Q nL cells slots P (pc) L (.int x :: st) := fun H locs ls hP hS hl => lv_istore_n C.1.1 C.1.2.1 hdg hi hl hn hl1 (fun ls1 h1 => k H locs ls1 hP hS h1)
theorem x_istore (C : Cx p s m args meth c cc nL own Ts G A LL ad) {i : Nat} {x : Int32} (hdg : decode cc pc = .ok (.istore i, 2)) {L1 : List (Nat × Value)} (hn : i < nL) (hl1 : (i, Value.int x) :: L.filter (fun q => !(q.1 == i) && !(q.1 + 1 == i && q.2.category == 2)) = L1) (k : XJ p l e R s m args below meth c G A LL ad Q nL cells slots P (pc + 2) L1 (st)) : XJ p l e R s m args below meth c G A LL ad Q nL cells slots P (pc) L (.int x :: st) := fun H locs ls hP hS hl => lv_istore C.1.1 C.1.2.1 hdg hl hn hl1 (fun ls1 h1 => k H locs ls1 hP hS h1)
theorem x_astore_n (C : Cx p s m args meth c cc nL own Ts G A LL ad) {k0 : Fin 4} {i : Nat} {x : Nat} (hdg : decode cc pc = .ok (.astore_n k0, 1)) (hi : (k0 : Nat) = i) {L1 : List (Nat × Value)} (hn : i < nL) (hl1 : (i, Value.ref x) :: L.filter (fun q => !(q.1 == i) && !(q.1 + 1 == i && q.2.category == 2)) = L1) (k : XJ p l e R s m args below meth c G A LL ad Q nL cells slots P (pc + 1) L1 (st)) : XJ p l e R s m args below meth c G A LL ad Q nL cells slots P (pc) L (.ref x :: st) := fun H locs ls hP hS hl => lv_astore_n C.1.1 C.1.2.1 hdg hi hl hn hl1 (fun ls1 h1 => k H locs ls1 hP hS h1)
theorem x_astore (C : Cx p s m args meth c cc nL own Ts G A LL ad) {i : Nat} {x : Nat} (hdg : decode cc pc = .ok (.astore i, 2)) {L1 : List (Nat × Value)} (hn : i < nL) (hl1 : (i, Value.ref x) :: L.filter (fun q => !(q.1 == i) && !(q.1 + 1 == i && q.2.category == 2)) = L1) (k : XJ p l e R s m args below meth c G A LL ad Q nL cells slots P (pc + 2) L1 (st)) : XJ p l e R s m args below meth c G A LL ad Q nL cells slots P (pc) L (.ref x :: st) := fun H locs ls hP hS hl => lv_astore C.1.1 C.1.2.1 hdg hl hn hl1 (fun ls1 h1 => k H locs ls1 hP hS h1)
theorem x_astore_nN (C : Cx p s m args meth c cc nL own Ts G A LL ad) {k0 : Fin 4} {i : Nat} (hdg : decode cc pc = .ok (.astore_n k0, 1)) (hi : (k0 : Nat) = i) {L1 : List (Nat × Value)} (hn : i < nL) (hl1 : (i, Value.null) :: L.filter (fun q => !(q.1 == i) && !(q.1 + 1 == i && q.2.category == 2)) = L1) (k : XJ p l e R s m args below meth c G A LL ad Q nL cells slots P (pc + 1) L1 (st)) : XJ p l e R s m args below meth c G A LL ad Q nL cells slots P (pc) L (.null :: st) := fun H locs ls hP hS hl => lv_astore_nN C.1.1 C.1.2.1 hdg hi hl hn hl1 (fun ls1 h1 => k H locs ls1 hP hS h1)
theorem x_astoreN (C : Cx p s m args meth c cc nL own Ts G A LL ad) {i : Nat} (hdg : decode cc pc = .ok (.astore i, 2)) {L1 : List (Nat × Value)} (hn : i < nL) (hl1 : (i, Value.null) :: L.filter (fun q => !(q.1 == i) && !(q.1 + 1 == i && q.2.category == 2)) = L1) (k : XJ p l e R s m args below meth c G A LL ad Q nL cells slots P (pc + 2) L1 (st)) : XJ p l e R s m args below meth c G A LL ad Q nL cells slots P (pc) L (.null :: st) := fun H locs ls hP hS hl => lv_astoreN C.1.1 C.1.2.1 hdg hl hn hl1 (fun ls1 h1 => k H locs ls1 hP hS h1)
theorem x_lstore_n (C : Cx p s m args meth c cc nL own Ts G A LL ad) {k0 : Fin 4} {i : Nat} {x : Int64} (hdg : decode cc pc = .ok (.lstore_n k0, 1)) (hi : (k0 : Nat) = i) {L1 : List (Nat × Value)} (hn : i + 1 < nL) (hl1 : (i, Value.long x) :: L.filter (fun q => !(q.1 == i) && (!(q.1 == i + 1) && !(q.1 + 1 == i && q.2.category == 2))) = L1) (k : XJ p l e R s m args below meth c G A LL ad Q nL cells slots P (pc + 1) L1 (st)) : XJ p l e R s m args below meth c G A LL ad Q nL cells slots P (pc) L (.long x :: st) := fun H locs ls hP hS hl => lv_lstore_n C.1.1 C.1.2.1 hdg hi hl hn hl1 (fun ls1 h1 => k H locs ls1 hP hS h1)
theorem x_iinc (C : Cx p s m args meth c cc nL own Ts G A LL ad) {i : Nat} {n : Int} {x v : Int32} {L1 : List (Nat × Value)} (j : Nat) (hdg : decode cc pc = .ok (.iinc i n, 3)) (hj : L[j]? = some (i, .int x)) (hv : x + Int32.ofInt n = v) (hn : i < nL) (hl1 : (i, Value.int v) :: L.filter (fun q => !(q.1 == i) && !(q.1 + 1 == i && q.2.category == 2)) = L1) (k : XJ p l e R s m args below meth c G A LL ad Q nL cells slots P (pc + 3) L1 (st)) : XJ p l e R s m args below meth c G A LL ad Q nL cells slots P (pc) L (st) := fun H locs ls hP hS hl => lv_iinc C.1.1 C.1.2.1 hdg hl hj hv hn hl1 (fun ls1 h1 => k H locs ls1 hP hS h1)
theorem x_iadd (C : Cx p s m args meth c cc nL own Ts G A LL ad) {x y : Int32} (hdg : decode cc pc = .ok (.iadd, 1)) (k : XJ p l e R s m args below meth c G A LL ad Q nL cells slots P (pc + 1) L (.int (x + y) :: st)) : XJ p l e R s m args below meth c G A LL ad Q nL cells slots P (pc) L (.int y :: .int x :: st) := fun H locs ls hP hS hl => lv_iadd C.1.1 C.1.2.1 hdg (k H locs ls hP hS hl)
theorem x_isub (C : Cx p s m args meth c cc nL own Ts G A LL ad) {x y : Int32} (hdg : decode cc pc = .ok (.isub, 1)) (k : XJ p l e R s m args below meth c G A LL ad Q nL cells slots P (pc + 1) L (.int (x - y) :: st)) : XJ p l e R s m args below meth c G A LL ad Q nL cells slots P (pc) L (.int y :: .int x :: st) := fun H locs ls hP hS hl => lv_isub C.1.1 C.1.2.1 hdg (k H locs ls hP hS hl)
theorem x_imul (C : Cx p s m args meth c cc nL own Ts G A LL ad) {x y : Int32} (hdg : decode cc pc = .ok (.imul, 1)) (k : XJ p l e R s m args below meth c G A LL ad Q nL cells slots P (pc + 1) L (.int (x * y) :: st)) : XJ p l e R s m args below meth c G A LL ad Q nL cells slots P (pc) L (.int y :: .int x :: st) := fun H locs ls hP hS hl => lv_imul C.1.1 C.1.2.1 hdg (k H locs ls hP hS hl)
theorem x_iand (C : Cx p s m args meth c cc nL own Ts G A LL ad) {x y : Int32} (hdg : decode cc pc = .ok (.iand, 1)) (k : XJ p l e R s m args below meth c G A LL ad Q nL cells slots P (pc + 1) L (.int (x &&& y) :: st)) : XJ p l e R s m args below meth c G A LL ad Q nL cells slots P (pc) L (.int y :: .int x :: st) := fun H locs ls hP hS hl => lv_iand C.1.1 C.1.2.1 hdg (k H locs ls hP hS hl)
theorem x_ior (C : Cx p s m args meth c cc nL own Ts G A LL ad) {x y : Int32} (hdg : decode cc pc = .ok (.ior, 1)) (k : XJ p l e R s m args below meth c G A LL ad Q nL cells slots P (pc + 1) L (.int (x ||| y) :: st)) : XJ p l e R s m args below meth c G A LL ad Q nL cells slots P (pc) L (.int y :: .int x :: st) := fun H locs ls hP hS hl => lv_ior C.1.1 C.1.2.1 hdg (k H locs ls hP hS hl)
theorem x_ishl (C : Cx p s m args meth c cc nL own Ts G A LL ad) {x y : Int32} (hdg : decode cc pc = .ok (.ishl, 1)) (k : XJ p l e R s m args below meth c G A LL ad Q nL cells slots P (pc + 1) L (.int (x <<< (y &&& 31)) :: st)) : XJ p l e R s m args below meth c G A LL ad Q nL cells slots P (pc) L (.int y :: .int x :: st) := fun H locs ls hP hS hl => lv_ishl C.1.1 C.1.2.1 hdg (k H locs ls hP hS hl)
theorem x_ishr (C : Cx p s m args meth c cc nL own Ts G A LL ad) {x y : Int32} (hdg : decode cc pc = .ok (.ishr, 1)) (k : XJ p l e R s m args below meth c G A LL ad Q nL cells slots P (pc + 1) L (.int (x >>> (y &&& 31)) :: st)) : XJ p l e R s m args below meth c G A LL ad Q nL cells slots P (pc) L (.int y :: .int x :: st) := fun H locs ls hP hS hl => lv_ishr C.1.1 C.1.2.1 hdg (k H locs ls hP hS hl)
theorem x_iushr (C : Cx p s m args meth c cc nL own Ts G A LL ad) {x y : Int32} (hdg : decode cc pc = .ok (.iushr, 1)) (k : XJ p l e R s m args below meth c G A LL ad Q nL cells slots P (pc + 1) L (.int (us x y) :: st)) : XJ p l e R s m args below meth c G A LL ad Q nL cells slots P (pc) L (.int y :: .int x :: st) := fun H locs ls hP hS hl => lv_iushr C.1.1 C.1.2.1 hdg rfl (k H locs ls hP hS hl)
theorem x_idiv (C : Cx p s m args meth c cc nL own Ts G A LL ad) {x y : Int32} (hdg : decode cc pc = .ok (.idiv, 1)) (hne : ¬ y = 0) (k : XJ p l e R s m args below meth c G A LL ad Q nL cells slots P (pc + 1) L (.int (x / y) :: st)) : XJ p l e R s m args below meth c G A LL ad Q nL cells slots P (pc) L (.int y :: .int x :: st) := fun H locs ls hP hS hl => lv_idiv C.1.1 C.1.2.1 hdg hne (k H locs ls hP hS hl)
theorem x_irem (C : Cx p s m args meth c cc nL own Ts G A LL ad) {x y : Int32} (hdg : decode cc pc = .ok (.irem, 1)) (hne : ¬ y = 0) (k : XJ p l e R s m args below meth c G A LL ad Q nL cells slots P (pc + 1) L (.int (x - x / y * y) :: st)) : XJ p l e R s m args below meth c G A LL ad Q nL cells slots P (pc) L (.int y :: .int x :: st) := fun H locs ls hP hS hl => lv_irem C.1.1 C.1.2.1 hdg hne (k H locs ls hP hS hl)
theorem x_lor (C : Cx p s m args meth c cc nL own Ts G A LL ad) {x y : Int64} (hdg : decode cc pc = .ok (.lor, 1)) (k : XJ p l e R s m args below meth c G A LL ad Q nL cells slots P (pc + 1) L (.long (x ||| y) :: st)) : XJ p l e R s m args below meth c G A LL ad Q nL cells slots P (pc) L (.long y :: .long x :: st) := fun H locs ls hP hS hl => lv_lor C.1.1 C.1.2.1 hdg (k H locs ls hP hS hl)
theorem x_lshl (C : Cx p s m args meth c cc nL own Ts G A LL ad) {x : Int64} {y : Int32} (hdg : decode cc pc = .ok (.lshl, 1)) (k : XJ p l e R s m args below meth c G A LL ad Q nL cells slots P (pc + 1) L (.long (x <<< (y.toInt64 &&& 63)) :: st)) : XJ p l e R s m args below meth c G A LL ad Q nL cells slots P (pc) L (.int y :: .long x :: st) := fun H locs ls hP hS hl => lv_lshl C.1.1 C.1.2.1 hdg rfl (k H locs ls hP hS hl)
theorem x_i2l (C : Cx p s m args meth c cc nL own Ts G A LL ad) {x : Int32} (hdg : decode cc pc = .ok (.i2l, 1)) (k : XJ p l e R s m args below meth c G A LL ad Q nL cells slots P (pc + 1) L (.long x.toInt64 :: st)) : XJ p l e R s m args below meth c G A LL ad Q nL cells slots P (pc) L (.int x :: st) := fun H locs ls hP hS hl => lv_i2l C.1.1 C.1.2.1 hdg rfl (k H locs ls hP hS hl)
theorem x_i2b (C : Cx p s m args meth c cc nL own Ts G A LL ad) {x : Int32} (hdg : decode cc pc = .ok (.i2b, 1)) (k : XJ p l e R s m args below meth c G A LL ad Q nL cells slots P (pc + 1) L (.int x.toInt8.toInt32 :: st)) : XJ p l e R s m args below meth c G A LL ad Q nL cells slots P (pc) L (.int x :: st) := fun H locs ls hP hS hl => lv_i2b C.1.1 C.1.2.1 hdg rfl (k H locs ls hP hS hl)
theorem x_lcmp (C : Cx p s m args meth c cc nL own Ts G A LL ad) {x y : Int64} (hdg : decode cc pc = .ok (.lcmp, 1)) (k : XJ p l e R s m args below meth c G A LL ad Q nL cells slots P (pc + 1) L (.int (lg_cmp x y) :: st)) : XJ p l e R s m args below meth c G A LL ad Q nL cells slots P (pc) L (.long y :: .long x :: st) := fun H locs ls hP hS hl => W.lcmp C.1.1 C.1.2.1 hdg (k H locs ls hP hS hl)
theorem x_dup (C : Cx p s m args meth c cc nL own Ts G A LL ad) {v : Value} (hdg : decode cc pc = .ok (.dup, 1)) (hv : v.category = 1) (k : XJ p l e R s m args below meth c G A LL ad Q nL cells slots P (pc + 1) L (v :: v :: st)) : XJ p l e R s m args below meth c G A LL ad Q nL cells slots P (pc) L (v :: st) := fun H locs ls hP hS hl => lv_dup C.1.1 C.1.2.1 hdg hv (k H locs ls hP hS hl)
theorem x_dup2 (C : Cx p s m args meth c cc nL own Ts G A LL ad) {v1 v2 : Value} (hdg : decode cc pc = .ok (.dup2, 1)) (hv1 : v1.category = 1) (hv2 : v2.category = 1) (k : XJ p l e R s m args below meth c G A LL ad Q nL cells slots P (pc + 1) L (v1 :: v2 :: v1 :: v2 :: st)) : XJ p l e R s m args below meth c G A LL ad Q nL cells slots P (pc) L (v1 :: v2 :: st) := fun H locs ls hP hS hl => lv_dup2_11 C.1.1 C.1.2.1 hdg hv1 hv2 (k H locs ls hP hS hl)
theorem x_sub (ks : List Nat) {L1 : List (Nat × Value)} (h : lv_pick L ks = L1) (k : XJ p l e R s m args below meth c G A LL ad Q nL cells slots P (pc) L1 (st)) : XJ p l e R s m args below meth c G A LL ad Q nL cells slots P (pc) L (st) := fun H locs ls hP hS hl => k H locs ls hP hS (lv_sub hl ks h)
theorem x_pop (C : Cx p s m args meth c cc nL own Ts G A LL ad) {v : Value} (hdg : decode cc pc = .ok (.pop, 1)) (hv : v.category = 1) (k : XJ p l e R s m args below meth c G A LL ad Q nL cells slots P (pc + 1) L (st)) : XJ p l e R s m args below meth c G A LL ad Q nL cells slots P (pc) L (v :: st) := fun H locs ls hP hS hl => lv_pop C.1.1 C.1.2.1 hdg hv (k H locs ls hP hS hl)
theorem x_null (C : Cx p s m args meth c cc nL own Ts G A LL ad) (hdg : decode cc pc = .ok (.aconst_null, 1)) (k : XJ p l e R s m args below meth c G A LL ad Q nL cells slots P (pc + 1) L (.null :: st)) : XJ p l e R s m args below meth c G A LL ad Q nL cells slots P (pc) L (st) := fun H locs ls hP hS hl => lv_null C.1.1 C.1.2.1 hdg (k H locs ls hP hS hl)
theorem x_goto (C : Cx p s m args meth c cc nL own Ts G A LL ad) {off : Int} {tgt : Nat} (hdg : decode cc pc = .ok (.goto off, 3)) (ht : (pc : Int) + off = (tgt : Int)) (k : XJ p l e R s m args below meth c G A LL ad Q nL cells slots P (tgt) L (st)) : XJ p l e R s m args below meth c G A LL ad Q nL cells slots P (pc) L (st) := fun H locs ls hP hS hl => lv_goto C.1.1 C.1.2.1 hdg ht (k H locs ls hP hS hl)
theorem x_ifnullN (C : Cx p s m args meth c cc nL own Ts G A LL ad) {off : Int} {tgt : Nat} (hdg : decode cc pc = .ok (.ifnull off, 3)) (ht : (pc : Int) + off = (tgt : Int)) (k : XJ p l e R s m args below meth c G A LL ad Q nL cells slots P (tgt) L (st)) : XJ p l e R s m args below meth c G A LL ad Q nL cells slots P (pc) L (.null :: st) := fun H locs ls hP hS hl => lv_ifnullN C.1.1 C.1.2.1 hdg ht (k H locs ls hP hS hl)
theorem x_ifnull (C : Cx p s m args meth c cc nL own Ts G A LL ad) {x : Nat} {off : Int} (hdg : decode cc pc = .ok (.ifnull off, 3)) (k : XJ p l e R s m args below meth c G A LL ad Q nL cells slots P (pc + 3) L (st)) : XJ p l e R s m args below meth c G A LL ad Q nL cells slots P (pc) L (.ref x :: st) := fun H locs ls hP hS hl => lv_ifnull C.1.1 C.1.2.1 hdg (k H locs ls hP hS hl)
theorem x_ifnonnull (C : Cx p s m args meth c cc nL own Ts G A LL ad) {x : Nat} {off : Int} {tgt : Nat} (hdg : decode cc pc = .ok (.ifnonnull off, 3)) (ht : (pc : Int) + off = (tgt : Int)) (k : XJ p l e R s m args below meth c G A LL ad Q nL cells slots P (tgt) L (st)) : XJ p l e R s m args below meth c G A LL ad Q nL cells slots P (pc) L (.ref x :: st) := fun H locs ls hP hS hl => lv_ifnonnull C.1.1 C.1.2.1 hdg ht (k H locs ls hP hS hl)
theorem x_ifnonnullN (C : Cx p s m args meth c cc nL own Ts G A LL ad) {off : Int} (hdg : decode cc pc = .ok (.ifnonnull off, 3)) (k : XJ p l e R s m args below meth c G A LL ad Q nL cells slots P (pc + 3) L (st)) : XJ p l e R s m args below meth c G A LL ad Q nL cells slots P (pc) L (.null :: st) := fun H locs ls hP hS hl => lv_ifnonnullN C.1.1 C.1.2.1 hdg (k H locs ls hP hS hl)
theorem x_if_eq (C : Cx p s m args meth c cc nL own Ts G A LL ad) {x : Int32} {off : Int} {tgt : Nat} (hdg : decode cc pc = .ok (.ifCond .eq off, 3)) (ht : (pc : Int) + off = (tgt : Int)) (kt : x = 0 → XJ p l e R s m args below meth c G A LL ad Q nL cells slots P (tgt) L (st)) (kf : ¬ x = 0 → XJ p l e R s m args below meth c G A LL ad Q nL cells slots P (pc + 3) L (st)) : XJ p l e R s m args below meth c G A LL ad Q nL cells slots P (pc) L (.int x :: st) := fun H locs ls hP hS hl => lv_if_eq C.1.1 C.1.2.1 hdg ht (fun h => kt h H locs ls hP hS hl) (fun h => kf h H locs ls hP hS hl)
theorem x_icmp_eq (C : Cx p s m args meth c cc nL own Ts G A LL ad) {x y : Int32} {off : Int} {tgt : Nat} (hdg : decode cc pc = .ok (.if_icmp .eq off, 3)) (ht : (pc : Int) + off = (tgt : Int)) (kt : x = y → XJ p l e R s m args below meth c G A LL ad Q nL cells slots P (tgt) L (st)) (kf : ¬ x = y → XJ p l e R s m args below meth c G A LL ad Q nL cells slots P (pc + 3) L (st)) : XJ p l e R s m args below meth c G A LL ad Q nL cells slots P (pc) L (.int y :: .int x :: st) := fun H locs ls hP hS hl => lv_icmp_eq C.1.1 C.1.2.1 hdg ht (fun h => kt h H locs ls hP hS hl) (fun h => kf h H locs ls hP hS hl)
theorem x_if_ne (C : Cx p s m args meth c cc nL own Ts G A LL ad) {x : Int32} {off : Int} {tgt : Nat} (hdg : decode cc pc = .ok (.ifCond .ne off, 3)) (ht : (pc : Int) + off = (tgt : Int)) (kt : ¬ x = 0 → XJ p l e R s m args below meth c G A LL ad Q nL cells slots P (tgt) L (st)) (kf : x = 0 → XJ p l e R s m args below meth c G A LL ad Q nL cells slots P (pc + 3) L (st)) : XJ p l e R s m args below meth c G A LL ad Q nL cells slots P (pc) L (.int x :: st) := fun H locs ls hP hS hl => lv_if_ne C.1.1 C.1.2.1 hdg ht (fun h => kt h H locs ls hP hS hl) (fun h => kf h H locs ls hP hS hl)
theorem x_icmp_ne (C : Cx p s m args meth c cc nL own Ts G A LL ad) {x y : Int32} {off : Int} {tgt : Nat} (hdg : decode cc pc = .ok (.if_icmp .ne off, 3)) (ht : (pc : Int) + off = (tgt : Int)) (kt : ¬ x = y → XJ p l e R s m args below meth c G A LL ad Q nL cells slots P (tgt) L (st)) (kf : x = y → XJ p l e R s m args below meth c G A LL ad Q nL cells slots P (pc + 3) L (st)) : XJ p l e R s m args below meth c G A LL ad Q nL cells slots P (pc) L (.int y :: .int x :: st) := fun H locs ls hP hS hl => lv_icmp_ne C.1.1 C.1.2.1 hdg ht (fun h => kt h H locs ls hP hS hl) (fun h => kf h H locs ls hP hS hl)
theorem x_if_lt (C : Cx p s m args meth c cc nL own Ts G A LL ad) {x : Int32} {off : Int} {tgt : Nat} (hdg : decode cc pc = .ok (.ifCond .lt off, 3)) (ht : (pc : Int) + off = (tgt : Int)) (kt : x < 0 → XJ p l e R s m args below meth c G A LL ad Q nL cells slots P (tgt) L (st)) (kf : ¬ x < 0 → XJ p l e R s m args below meth c G A LL ad Q nL cells slots P (pc + 3) L (st)) : XJ p l e R s m args below meth c G A LL ad Q nL cells slots P (pc) L (.int x :: st) := fun H locs ls hP hS hl => lv_if_lt C.1.1 C.1.2.1 hdg ht (fun h => kt h H locs ls hP hS hl) (fun h => kf h H locs ls hP hS hl)
theorem x_icmp_lt (C : Cx p s m args meth c cc nL own Ts G A LL ad) {x y : Int32} {off : Int} {tgt : Nat} (hdg : decode cc pc = .ok (.if_icmp .lt off, 3)) (ht : (pc : Int) + off = (tgt : Int)) (kt : x < y → XJ p l e R s m args below meth c G A LL ad Q nL cells slots P (tgt) L (st)) (kf : ¬ x < y → XJ p l e R s m args below meth c G A LL ad Q nL cells slots P (pc + 3) L (st)) : XJ p l e R s m args below meth c G A LL ad Q nL cells slots P (pc) L (.int y :: .int x :: st) := fun H locs ls hP hS hl => lv_icmp_lt C.1.1 C.1.2.1 hdg ht (fun h => kt h H locs ls hP hS hl) (fun h => kf h H locs ls hP hS hl)
theorem x_if_ge (C : Cx p s m args meth c cc nL own Ts G A LL ad) {x : Int32} {off : Int} {tgt : Nat} (hdg : decode cc pc = .ok (.ifCond .ge off, 3)) (ht : (pc : Int) + off = (tgt : Int)) (kt : 0 ≤ x → XJ p l e R s m args below meth c G A LL ad Q nL cells slots P (tgt) L (st)) (kf : ¬ 0 ≤ x → XJ p l e R s m args below meth c G A LL ad Q nL cells slots P (pc + 3) L (st)) : XJ p l e R s m args below meth c G A LL ad Q nL cells slots P (pc) L (.int x :: st) := fun H locs ls hP hS hl => lv_if_ge C.1.1 C.1.2.1 hdg ht (fun h => kt h H locs ls hP hS hl) (fun h => kf h H locs ls hP hS hl)
theorem x_icmp_ge (C : Cx p s m args meth c cc nL own Ts G A LL ad) {x y : Int32} {off : Int} {tgt : Nat} (hdg : decode cc pc = .ok (.if_icmp .ge off, 3)) (ht : (pc : Int) + off = (tgt : Int)) (kt : y ≤ x → XJ p l e R s m args below meth c G A LL ad Q nL cells slots P (tgt) L (st)) (kf : ¬ y ≤ x → XJ p l e R s m args below meth c G A LL ad Q nL cells slots P (pc + 3) L (st)) : XJ p l e R s m args below meth c G A LL ad Q nL cells slots P (pc) L (.int y :: .int x :: st) := fun H locs ls hP hS hl => lv_icmp_ge C.1.1 C.1.2.1 hdg ht (fun h => kt h H locs ls hP hS hl) (fun h => kf h H locs ls hP hS hl)
theorem x_if_gt (C : Cx p s m args meth c cc nL own Ts G A LL ad) {x : Int32} {off : Int} {tgt : Nat} (hdg : decode cc pc = .ok (.ifCond .gt off, 3)) (ht : (pc : Int) + off = (tgt : Int)) (kt : 0 < x → XJ p l e R s m args below meth c G A LL ad Q nL cells slots P (tgt) L (st)) (kf : ¬ 0 < x → XJ p l e R s m args below meth c G A LL ad Q nL cells slots P (pc + 3) L (st)) : XJ p l e R s m args below meth c G A LL ad Q nL cells slots P (pc) L (.int x :: st) := fun H locs ls hP hS hl => lv_if_gt C.1.1 C.1.2.1 hdg ht (fun h => kt h H locs ls hP hS hl) (fun h => kf h H locs ls hP hS hl)
theorem x_icmp_gt (C : Cx p s m args meth c cc nL own Ts G A LL ad) {x y : Int32} {off : Int} {tgt : Nat} (hdg : decode cc pc = .ok (.if_icmp .gt off, 3)) (ht : (pc : Int) + off = (tgt : Int)) (kt : y < x → XJ p l e R s m args below meth c G A LL ad Q nL cells slots P (tgt) L (st)) (kf : ¬ y < x → XJ p l e R s m args below meth c G A LL ad Q nL cells slots P (pc + 3) L (st)) : XJ p l e R s m args below meth c G A LL ad Q nL cells slots P (pc) L (.int y :: .int x :: st) := fun H locs ls hP hS hl => lv_icmp_gt C.1.1 C.1.2.1 hdg ht (fun h => kt h H locs ls hP hS hl) (fun h => kf h H locs ls hP hS hl)
theorem x_if_le (C : Cx p s m args meth c cc nL own Ts G A LL ad) {x : Int32} {off : Int} {tgt : Nat} (hdg : decode cc pc = .ok (.ifCond .le off, 3)) (ht : (pc : Int) + off = (tgt : Int)) (kt : x ≤ 0 → XJ p l e R s m args below meth c G A LL ad Q nL cells slots P (tgt) L (st)) (kf : ¬ x ≤ 0 → XJ p l e R s m args below meth c G A LL ad Q nL cells slots P (pc + 3) L (st)) : XJ p l e R s m args below meth c G A LL ad Q nL cells slots P (pc) L (.int x :: st) := fun H locs ls hP hS hl => lv_if_le C.1.1 C.1.2.1 hdg ht (fun h => kt h H locs ls hP hS hl) (fun h => kf h H locs ls hP hS hl)
theorem x_icmp_le (C : Cx p s m args meth c cc nL own Ts G A LL ad) {x y : Int32} {off : Int} {tgt : Nat} (hdg : decode cc pc = .ok (.if_icmp .le off, 3)) (ht : (pc : Int) + off = (tgt : Int)) (kt : x ≤ y → XJ p l e R s m args below meth c G A LL ad Q nL cells slots P (tgt) L (st)) (kf : ¬ x ≤ y → XJ p l e R s m args below meth c G A LL ad Q nL cells slots P (pc + 3) L (st)) : XJ p l e R s m args below meth c G A LL ad Q nL cells slots P (pc) L (.int y :: .int x :: st) := fun H locs ls hP hS hl => lv_icmp_le C.1.1 C.1.2.1 hdg ht (fun h => kt h H locs ls hP hS hl) (fun h => kf h H locs ls hP hS hl)
theorem x_tableOut (C : Cx p s m args meth c cc nL own Ts G A LL ad) {dflt lo hi : Int} {offs : Array Int} {len : Nat} {x : Int32} {tgt : Nat} (hdg : decode cc pc = .ok (.tableswitch dflt lo hi offs, len)) (h : x.toInt < lo ∨ hi < x.toInt) (ht : (pc : Int) + dflt = (tgt : Int)) (k : XJ p l e R s m args below meth c G A LL ad Q nL cells slots P (tgt) L (st)) : XJ p l e R s m args below meth c G A LL ad Q nL cells slots P (pc) L (.int x :: st) := fun H locs ls hP hS hl => lv_tableOut C.1.1 C.1.2.1 hdg h ht (k H locs ls hP hS hl)
theorem x_tableIn (C : Cx p s m args meth c cc nL own Ts G A LL ad) {dflt lo hi : Int} {offs : Array Int} {len : Nat} {x : Int32} {off : Int} {tgt : Nat} (hdg : decode cc pc = .ok (.tableswitch dflt lo hi offs, len)) (h1 : ¬ x.toInt < lo) (h2 : ¬ hi < x.toInt) (ho : offs[(x.toInt - lo).toNat]? = some off) (ht : (pc : Int) + off = (tgt : Int)) (k : XJ p l e R s m args below meth c G A LL ad Q nL cells slots P (tgt) L (st)) : XJ p l e R s m args below meth c G A LL ad Q nL cells slots P (pc) L (.int x :: st) := fun H locs ls hP hS hl => lv_tableIn C.1.1 C.1.2.1 hdg h1 h2 ho ht (k H locs ls hP hS hl)
theorem x_ldc2 (C : Cx p s m args meth c cc nL own Ts G A LL ad) {index : Nat} {v : Int64} (hc : Cond.constantLong own index v ∈ Ts) (hdg : decode cc pc = .ok (.ldc2_w index, 3)) (k : XJ p l e R s m args below meth c G A LL ad Q nL cells slots P (pc + 3) L (.long v :: st)) : XJ p l e R s m args below meth c G A LL ad Q nL cells slots P (pc) L (st) := fun H locs ls hP hS hl => lv_ldc2 C.1.1 C.1.2.1 C.1.2.2.2.1 (C.1.2.2.2.2 _ hc) hdg (k H locs ls hP hS hl)
theorem x_ldc (C : Cx p s m args meth c cc nL own Ts G A LL ad) {index : Nat} {v : Int32} (hc : Cond.constant own index v ∈ Ts) (hdg : decode cc pc = .ok (.ldc index, 2)) (k : XJ p l e R s m args below meth c G A LL ad Q nL cells slots P (pc + 2) L (.int v :: st)) : XJ p l e R s m args below meth c G A LL ad Q nL cells slots P (pc) L (st) := fun H locs ls hP hS hl => lv_ldc C.1.1 C.1.2.1 C.1.2.2.2.1 (C.1.2.2.2.2 _ hc) hdg (k H locs ls hP hS hl)
theorem x_ldcS (C : Cx p s m args meth c cc nL own Ts G A LL ad) {i index : Nat} (hi : i < 9) (ho : own = RX4) (hx : tf_sidx.getD i 0 = index) (hdg : decode cc pc = .ok (.ldc index, 2)) (k : XJ p l e R s m args below meth c G A LL ad Q nL cells slots P (pc + 2) L (.ref (G.2.2.1 i) :: st)) : XJ p l e R s m args below meth c G A LL ad Q nL cells slots P (pc) L (st) := fun H locs ls hP hS hl => va_ldcS C.1.1 C.1.2.1 C.1.2.2.2.1 (tx := tf_stxt.getD i "") (by rw [ho, ← hx]; exact C.2.2.1.2.2.1 i hi) hdg (k H locs ls hP hS hl)
theorem x_get (C : Cx p s m args meth c cc nL own Ts G A LL ad) {ref Cn : String} {T : u_T} {N ci index : Nat} {fs : List Value} {v : Value} (j k0 : Nat) (hin : ∀ w ∈ u_ws Cn T N, w ∈ Ts) (hm : j ∈ LL) (hO : P j = .inr (ci, fs)) (hc : vwCl[ci]? = some (Cn, T, N)) (hk : k0 < N) (hlink : Cond.fieldLink own index ref (T k0).2.1 (T k0).2.2.1 ∈ Ts) (href : (T k0).1 = ref) (hv : fs[k0]? = some v) (hdg : decode cc pc = .ok (.getfield index, 3)) (k : XJ p l e R s m args below meth c G A LL ad Q nL cells slots P (pc + 3) L (v :: st)) : XJ p l e R s m args below meth c G A LL ad Q nL cells slots P (pc) L (.ref (ad j) :: st) := fun H locs ls hP hS hl => by
  obtain ⟨q, -, hq⟩ := wl_get (ad := ad) (P := P) hm
  rw [hO] at hq
  exact va_get (v := v) C.1.1 C.1.2.1 C.1.2.2.2.2 hin C.1.2.2.2.1 C.2.2.1.1 hP q hq hc k0 hk (C.1.2.2.2.2 _ hlink) (by rw [href]; exact fun _ h => h) hv hdg (k H locs ls hP hS hl)
theorem x_put (C : Cx p s m args meth c cc nL own Ts G A LL ad) {ref Cn : String} {T : u_T} {N ci index : Nat} {fs : List Value} {v : Value} {ty : FieldType} (j k0 : Nat) (hin : ∀ w ∈ u_ws Cn T N, w ∈ Ts) (ty0 : Nat → FieldType) (hty : ∀ k, k < N → parseFieldDescriptor (T k).2.2.1 = some (ty0 k)) (hnm : ∀ a, a < N → ∀ b, b < N → a ≠ b → (T a).2.1 ≠ (T b).2.1) (hm : j ∈ LL) (hO : P j = .inr (ci, fs)) (hc : vwCl[ci]? = some (Cn, T, N)) (hk : k0 < N) (hlink : Cond.fieldLink own index ref (T k0).2.1 (T k0).2.2.1 ∈ Ts) (href : (T k0).1 = ref) (hfin : (T k0).2.2.2 = false) (hd : parseFieldDescriptor (T k0).2.2.1 = some ty) (hn : narrow ty v = v) (hfit : fits ty v = true) (hl0 : k0 < fs.length) (hdg : decode cc pc = .ok (.putfield index, 3)) (k : XJ p l e R s m args below meth c G A LL ad Q nL cells slots (tf_u P j (.inr (ci, fs.set k0 v))) (pc + 3) L (st)) : XJ p l e R s m args below meth c G A LL ad Q nL cells slots P (pc) L (v :: .ref (ad j) :: st) := fun H locs ls hP hS hl => by
  obtain ⟨q, hq0, hq⟩ := wl_get (ad := ad) (P := P) hm
  rw [hO] at hq
  refine va_put (v := v) (ty := ty) C.1.1 C.1.2.1 C.1.2.2.2.2 hin ty0 hty hnm C.1.2.2.2.1 C.2.2.1.1 hP (C.2.2.2.1 P) hS q hq hc k0 hk (C.1.2.2.2.2 _ hlink) (by rw [href]; exact fun _ h => h) hfin hd hn hfit hl0 hdg (fun H1 locs1 hP1 hD1 hS1 => ?_)
  rw [wl_set (C.2.2.2.1 P) hq0] at hP1
  exact k H1 locs1 ls hP1 hS1 hl
theorem x_putF (C : Cx p s m args meth c cc nL own Ts G A LL ad) {ref Cn : String} {T : u_T} {N ci index : Nat} {fs : List Value} {v : Value} {ty : FieldType} (j k0 : Nat) (hin : ∀ w ∈ u_ws Cn T N, w ∈ Ts) (ty0 : Nat → FieldType) (hty : ∀ k, k < N → parseFieldDescriptor (T k).2.2.1 = some (ty0 k)) (hnm : ∀ a, a < N → ∀ b, b < N → a ≠ b → (T a).2.1 ≠ (T b).2.1) (hm : j ∈ LL) (hO : P j = .inr (ci, fs)) (hc : vwCl[ci]? = some (Cn, T, N)) (hk : k0 < N) (hlink : Cond.fieldLink own index ref (T k0).2.1 (T k0).2.2.1 ∈ Ts) (href : (T k0).1 = ref) (hfin : (T k0).2.2.2 = true) (hin0 : meth.name = "<init>") (hown0 : (T k0).1 = own) (hd : parseFieldDescriptor (T k0).2.2.1 = some ty) (hn : narrow ty v = v) (hfit : fits ty v = true) (hl0 : k0 < fs.length) (hdg : decode cc pc = .ok (.putfield index, 3)) (k : XJ p l e R s m args below meth c G A LL ad Q nL cells slots (tf_u P j (.inr (ci, fs.set k0 v))) (pc + 3) L (st)) : XJ p l e R s m args below meth c G A LL ad Q nL cells slots P (pc) L (v :: .ref (ad j) :: st) := fun H locs ls hP hS hl => by
  obtain ⟨q, hq0, hq⟩ := wl_get (ad := ad) (P := P) hm
  rw [hO] at hq
  refine va_putF (v := v) (ty := ty) C.1.1 C.1.2.1 C.1.2.2.2.2 hin ty0 hty hnm C.1.2.2.2.1 C.2.2.1.1 hP (C.2.2.2.1 P) hS q hq hc k0 hk (C.1.2.2.2.2 _ hlink) (by rw [href]; exact fun _ h => h) hfin hin0 hown0 hd hn hfit hl0 hdg (fun H1 locs1 hP1 hD1 hS1 => ?_)
  rw [wl_set (C.2.2.2.1 P) hq0] at hP1
  exact k H1 locs1 ls hP1 hS1 hl
theorem x_iald (C : Cx p s m args meth c cc nL own Ts G A LL ad) {n : Nat} {f : Nat → Int32} {i : Int32} {kk : Nat} (j : Nat) (hm : j ∈ LL) (hO : P j = .inl (G.2.1 0, n, .inl f)) (hin : vp_in i n) (hkk : i.toNatClampNeg = kk) (hdg : decode cc pc = .ok (.iaload, 1)) (k : XJ p l e R s m args below meth c G A LL ad Q nL cells slots P (pc + 1) L (.int (f kk) :: st)) : XJ p l e R s m args below meth c G A LL ad Q nL cells slots P (pc) L (.int i :: .ref (ad j) :: st) := fun H locs ls hP hS hl => by
  subst hkk
  obtain ⟨q, -, hq⟩ := wl_get (ad := ad) (P := P) hm
  rw [hO] at hq
  exact va_iald C.1.1 C.1.2.1 C.2.2.1.1 hP q 0 hq rfl hin hdg (k H locs ls hP hS hl)
theorem x_bald (C : Cx p s m args meth c cc nL own Ts G A LL ad) {n : Nat} {f : Nat → Int32} {i : Int32} {kk : Nat} (j : Nat) (hm : j ∈ LL) (hO : P j = .inl (G.2.1 1, n, .inl f)) (hin : vp_in i n) (hkk : i.toNatClampNeg = kk) (hdg : decode cc pc = .ok (.baload, 1)) (k : XJ p l e R s m args below meth c G A LL ad Q nL cells slots P (pc + 1) L (.int (f kk) :: st)) : XJ p l e R s m args below meth c G A LL ad Q nL cells slots P (pc) L (.int i :: .ref (ad j) :: st) := fun H locs ls hP hS hl => by
  subst hkk
  obtain ⟨q, -, hq⟩ := wl_get (ad := ad) (P := P) hm
  rw [hO] at hq
  exact va_bald C.1.1 C.1.2.1 C.2.2.1.1 hP q 1 hq rfl hin hdg (k H locs ls hP hS hl)
theorem x_zald (C : Cx p s m args meth c cc nL own Ts G A LL ad) {n : Nat} {f : Nat → Int32} {i : Int32} {kk : Nat} (j : Nat) (hm : j ∈ LL) (hO : P j = .inl (G.2.1 2, n, .inl f)) (hin : vp_in i n) (hkk : i.toNatClampNeg = kk) (hdg : decode cc pc = .ok (.baload, 1)) (k : XJ p l e R s m args below meth c G A LL ad Q nL cells slots P (pc + 1) L (.int (f kk) :: st)) : XJ p l e R s m args below meth c G A LL ad Q nL cells slots P (pc) L (.int i :: .ref (ad j) :: st) := fun H locs ls hP hS hl => by
  subst hkk
  obtain ⟨q, -, hq⟩ := wl_get (ad := ad) (P := P) hm
  rw [hO] at hq
  exact va_zald C.1.1 C.1.2.1 C.2.2.1.1 hP q 2 hq rfl hin hdg (k H locs ls hP hS hl)
theorem x_iast (C : Cx p s m args meth c cc nL own Ts G A LL ad) {n : Nat} {f : Nat → Int32} {i x : Int32} (j : Nat) (hm : j ∈ LL) (hO : P j = .inl (G.2.1 0, n, .inl f)) (hin : vp_in i n) (hdg : decode cc pc = .ok (.iastore, 1)) (k : XJ p l e R s m args below meth c G A LL ad Q nL cells slots (tf_u P j (.inl (G.2.1 0, n, .inl (upd f i.toNatClampNeg x)))) (pc + 1) L (st)) : XJ p l e R s m args below meth c G A LL ad Q nL cells slots P (pc) L (.int x :: .int i :: .ref (ad j) :: st) := fun H locs ls hP hS hl => by
  obtain ⟨q, hq0, hq⟩ := wl_get (ad := ad) (P := P) hm
  rw [hO] at hq
  refine va_iast C.1.1 C.1.2.1 C.2.2.1.1 hP (C.2.2.2.1 P) hS q 0 hq rfl hin hdg (fun H1 locs1 hP1 hD1 hS1 => ?_)
  rw [wl_set (C.2.2.2.1 P) hq0] at hP1
  exact k H1 locs1 ls hP1 hS1 hl
theorem x_bast (C : Cx p s m args meth c cc nL own Ts G A LL ad) {n : Nat} {f : Nat → Int32} {i x : Int32} (j : Nat) (hm : j ∈ LL) (hO : P j = .inl (G.2.1 1, n, .inl f)) (hin : vp_in i n) (hdg : decode cc pc = .ok (.bastore, 1)) (k : XJ p l e R s m args below meth c G A LL ad Q nL cells slots (tf_u P j (.inl (G.2.1 1, n, .inl (upd f i.toNatClampNeg (vp_nar .byte x))))) (pc + 1) L (st)) : XJ p l e R s m args below meth c G A LL ad Q nL cells slots P (pc) L (.int x :: .int i :: .ref (ad j) :: st) := fun H locs ls hP hS hl => by
  obtain ⟨q, hq0, hq⟩ := wl_get (ad := ad) (P := P) hm
  rw [hO] at hq
  refine va_bast C.1.1 C.1.2.1 C.2.2.1.1 hP (C.2.2.2.1 P) hS q 1 hq rfl hin hdg (fun H1 locs1 hP1 hD1 hS1 => ?_)
  rw [wl_set (C.2.2.2.1 P) hq0] at hP1
  exact k H1 locs1 ls hP1 hS1 hl
theorem x_zast (C : Cx p s m args meth c cc nL own Ts G A LL ad) {n : Nat} {f : Nat → Int32} {i x : Int32} (j : Nat) (hm : j ∈ LL) (hO : P j = .inl (G.2.1 2, n, .inl f)) (hin : vp_in i n) (hdg : decode cc pc = .ok (.bastore, 1)) (k : XJ p l e R s m args below meth c G A LL ad Q nL cells slots (tf_u P j (.inl (G.2.1 2, n, .inl (upd f i.toNatClampNeg (vp_nar .boolean x))))) (pc + 1) L (st)) : XJ p l e R s m args below meth c G A LL ad Q nL cells slots P (pc) L (.int x :: .int i :: .ref (ad j) :: st) := fun H locs ls hP hS hl => by
  obtain ⟨q, hq0, hq⟩ := wl_get (ad := ad) (P := P) hm
  rw [hO] at hq
  refine va_zast C.1.1 C.1.2.1 C.2.2.1.1 hP (C.2.2.2.1 P) hS q 2 hq rfl hin hdg (fun H1 locs1 hP1 hD1 hS1 => ?_)
  rw [wl_set (C.2.2.2.1 P) hq0] at hP1
  exact k H1 locs1 ls hP1 hS1 hl
theorem x_aald (C : Cx p s m args meth c cc nL own Ts G A LL ad) {n : Nat} {f : Nat → Option Nat} {i : Int32} {cA : ClassId} {Cn : String} (j t0 : Nat) (hm : j ∈ LL) (hO : P j = .inl (cA, n, .inr (.inr (.inr (.inr f))))) (ht : (tf_tys G.2.1)[t0]? = some (cA, .object Cn)) (hin : vp_in i n) (hdg : decode cc pc = .ok (.aaload, 1)) (k : XJ p l e R s m args below meth c G A LL ad Q nL cells slots P (pc + 1) L (va_rf (f i.toNatClampNeg) :: st)) : XJ p l e R s m args below meth c G A LL ad Q nL cells slots P (pc) L (.int i :: .ref (ad j) :: st) := fun H locs ls hP hS hl => by
  obtain ⟨q, -, hq⟩ := wl_get (ad := ad) (P := P) hm
  rw [hO] at hq
  exact va_aldq C.1.1 C.1.2.1 C.2.2.1.1 hP q t0 hq ht hin hdg (k H locs ls hP hS hl)
theorem x_aaldS (C : Cx p s m args meth c cc nL own Ts G A LL ad) {n : Nat} {f : Nat → Option Nat} {i : Int32} {cA : ClassId} {Cn : String} {kk a : Nat} (j t0 : Nat) (hm : j ∈ LL) (hO : P j = .inl (cA, n, .inr (.inr (.inr (.inr f))))) (ht : (tf_tys G.2.1)[t0]? = some (cA, .object Cn)) (hin : vp_in i n) (hkk : i.toNatClampNeg = kk) (hf : f kk = some a) (hdg : decode cc pc = .ok (.aaload, 1)) (k : XJ p l e R s m args below meth c G A LL ad Q nL cells slots P (pc + 1) L (.ref a :: st)) : XJ p l e R s m args below meth c G A LL ad Q nL cells slots P (pc) L (.int i :: .ref (ad j) :: st) := by
  subst hkk
  refine x_aald C j t0 hm hO ht hin hdg ?_
  rw [hf]
  exact k
theorem x_aast (C : Cx p s m args meth c cc nL own Ts G A LL ad) {n : Nat} {f : Nat → Option Nat} {i : Int32} {cA : ClassId} {r : vw_C} {ci : Nat} {vs : List Value} (j jv t0 : Nat) (hm : j ∈ LL) (hmv : jv ∈ LL) (hO : P j = .inl (cA, n, .inr (.inr (.inr (.inr f))))) (ht : (tf_tys G.2.1)[t0]? = some (cA, .object r.1)) (hOv : P jv = .inr (ci, vs)) (hc : vwCl[ci]? = some r) (hin : vp_in i n) (hdg : decode cc pc = .ok (.aastore, 1)) (k : XJ p l e R s m args below meth c G A LL ad Q nL cells slots (tf_u P j (.inl (cA, n, .inr (.inr (.inr (.inr (va_up f i.toNatClampNeg (some (ad jv))))))))) (pc + 1) L (st)) : XJ p l e R s m args below meth c G A LL ad Q nL cells slots P (pc) L (.ref (ad jv) :: .int i :: .ref (ad j) :: st) := fun H locs ls hP hS hl => by
  obtain ⟨q, hq0, hq⟩ := wl_get (ad := ad) (P := P) hm
  obtain ⟨qv, -, hqv⟩ := wl_get (ad := ad) (P := P) hmv
  rw [hO] at hq
  rw [hOv] at hqv
  refine va_astq C.1.1 C.1.2.1 C.2.2.1.1 hP (C.2.2.2.1 P) hS q t0 qv ci hq ht hqv hc hin hdg (fun H1 locs1 hP1 hD1 hS1 => ?_)
  rw [wl_set (C.2.2.2.1 P) hq0] at hP1
  exact k H1 locs1 ls hP1 hS1 hl
theorem x_alen (C : Cx p s m args meth c cc nL own Ts G A LL ad) {cA : ClassId} {a : vp_A} {ty : FieldType} {v : Int32} (j t0 : Nat) (hm : j ∈ LL) (hO : P j = .inl (cA, a)) (ht : (tf_tys G.2.1)[t0]? = some (cA, ty)) (hv : Int32.ofNat a.1 = v) (hdg : decode cc pc = .ok (.arraylength, 1)) (k : XJ p l e R s m args below meth c G A LL ad Q nL cells slots P (pc + 1) L (.int v :: st)) : XJ p l e R s m args below meth c G A LL ad Q nL cells slots P (pc) L (.ref (ad j) :: st) := fun H locs ls hP hS hl => by
  obtain ⟨q, -, hq⟩ := wl_get (ad := ad) (P := P) hm
  rw [hO] at hq
  exact va_alen C.1.1 C.1.2.1 C.2.2.1.1 hP q t0 hq ht hv hdg (k H locs ls hP hS hl)
theorem x_mmax (C : Cx p s m args meth c cc nL own Ts G A LL ad) {index : Nat} {x y : Int32} (hlink : Cond.methodLink own index Lib.Math.max.name ∈ Ts) (hstat : Cond.static Lib.Math.max.name ∈ Ts) (hini : Cond.initialized "java/lang/Math" ∈ Ts) (hcode : Cond.code Lib.Math.max.name Lib.Math.max.code 2 (some .int) ∈ Ts) (hframes : 1 ≤ R.frames) (hlocals : (st.map fun v => v.category).sum + 13 ≤ R.locals) (hc : cells ≤ R.cells) (hs : slots ≤ R.slots) (hdg : decode cc pc = .ok (.invokestatic index, 3)) (k : XJ p l e R s m args below meth c G A LL ad Q nL cells slots P (pc + 3) L (.int (if x < y then y else x) :: st)) : XJ p l e R s m args below meth c G A LL ad Q nL cells slots P (pc) L (.int y :: .int x :: st) := fun H locs ls hP hS hl => va_mmax C.1.1 C.1.2.1 (C.1.2.2.1.trans hl.1.symm) C.1.2.2.2.1 (C.1.2.2.2.2 _ hlink) (C.1.2.2.2.2 _ hstat) (C.1.2.2.2.2 _ hini) (C.1.2.2.2.2 _ hcode) hframes hlocals hc hs hdg (k H locs ls hP hS hl)
theorem x_mmin (C : Cx p s m args meth c cc nL own Ts G A LL ad) {index : Nat} {x y : Int32} (hlink : Cond.methodLink own index Lib.Math.min.name ∈ Ts) (hstat : Cond.static Lib.Math.min.name ∈ Ts) (hini : Cond.initialized "java/lang/Math" ∈ Ts) (hcode : Cond.code Lib.Math.min.name Lib.Math.min.code 2 (some .int) ∈ Ts) (hframes : 1 ≤ R.frames) (hlocals : (st.map fun v => v.category).sum + 13 ≤ R.locals) (hc : cells ≤ R.cells) (hs : slots ≤ R.slots) (hdg : decode cc pc = .ok (.invokestatic index, 3)) (k : XJ p l e R s m args below meth c G A LL ad Q nL cells slots P (pc + 3) L (.int (if y < x then y else x) :: st)) : XJ p l e R s m args below meth c G A LL ad Q nL cells slots P (pc) L (.int y :: .int x :: st) := fun H locs ls hP hS hl => va_mmin C.1.1 C.1.2.1 (C.1.2.2.1.trans hl.1.symm) C.1.2.2.2.1 (C.1.2.2.2.2 _ hlink) (C.1.2.2.2.2 _ hstat) (C.1.2.2.2.2 _ hini) (C.1.2.2.2.2 _ hcode) hframes hlocals hc hs hdg (k H locs ls hP hS hl)
end XR
/-! CONTRACTS over the pool: a method takes the pool P, gives the pool w u -/
def tf_B {σ : Type} (G : tf_G) (LL : List Nat) (ad : Nat → Nat) (w : σ → Nat → va_E) (u : σ) (t : State) : Prop := va_P G.1 vwCl (wl LL ad (w u)) t.heap
def tf_P (G : tf_G) (LL : List Nat) (ad : Nat → Nat) (P : Nat → va_E) (sz : Nat) (U : State) : Prop := U.heap.size = sz ∧ va_P G.1 vwCl (wl LL ad P) U.heap ∧ va_D tf_tr (wl LL ad P) ∧ tf_E G (va_A (wl LL ad P) sz) U U.heap
theorem tf_blind {G : tf_G} {LL : List Nat} {ad : Nat → Nat} {P : Nat → va_E} {sz : Nat} {av : List Value} : FrameBlind (va_Pc av (tf_P G LL ad P sz)) := fun a U g mk q => by
  obtain ⟨q0, q1, q2, q3, q4⟩ := q
  exact ⟨q0, q1, q2, q3, q4.same rfl⟩
section XC
variable {p : Program} {l : Launch} {e : Env} {R : Room} {s : State} {m : MethodId} {args : Array Value} {below : List Frame} {meth : Method} {c : Code} {G : tf_G} {A : Nat → Prop} {LL : List Nat} {ad : Nat → Nat} {Q : State → Prop} {nL cells slots : Nat} {P : Nat → va_E} {cc : ByteArray} {own : String} {Ts : List Cond} {pc : Nat} {L : List (Nat × Value)} {st : List Value}
variable {σ : Type} {w : σ → Nat → va_E} {av As st0 : List Value} {y : MethodName} {ws ws' : List Cond} {rm : Room} {maxL : Nat} {ret : Option FieldType} {bytes : ByteArray} {n index : Nat} {Cn host : String} {T : u_T} {N ci : Nat} {fs : List Value}
theorem tf_pre (C : Cx p s m args meth c cc nL own Ts G A LL ad) {H : Heap} {locs : List Loc} (hP : va_P G.1 vwCl (wl LL ad P) H) (hS : va_S A s.heap H locs) {U : State} (hU : U.heap = H) (hW : s.WarmedH U.vm) : tf_P G LL ad P H.size U := by
  have hF := wl_A (C.2.2.2.1 P) C.2.2.2.2 hS.1
  refine ⟨by rw [hU], by rw [hU]; exact hP, (C.2.2.2.1 P).weaken (fun _ _ _ _ => trivial), ?_⟩
  rw [hU]
  exact ((C.2.2.1.kept hS.2.1).narrow hF).warm hW

def Ci {σ : Type} (l : Launch) (y : MethodName) (ws : List Cond) (rm : Room) (G : tf_G) (LL : List Nat) (ad : Nat → Nat) (w : σ → Nat → va_E) (P : Nat → va_E) (av : List Value) (post : Int32 → σ → Prop) : Prop := ∀ sz : Nat, Met l y ws rm (va_Pc av (tf_P G LL ad P sz)) (va_Qi post (tf_B G LL ad w) (va_A (wl LL ad P) sz)) rm.cells rm.slots (va_A (wl LL ad P) sz)
theorem ci_of {post : Int32 → σ → Prop} (hy : plainName y.cls = true) (hw : ws = Cond.code y cc maxL ret :: ws') (hfit : (lg_sl av).length ≤ maxL) (body : ∀ (p : Program) (e : Env) (s : State) (m : MethodId) (args : Array Value) (below : List Frame) (meth : Method) (c : Code) (A : Nat → Prop), Cx p s m args meth c cc maxL y.cls ws G A LL ad → meth.sig.returnType = ret → meth.name = y.name → XJ p l e rm s m args below meth c G A LL ad (MQ below (va_Qi post (tf_B G LL ad w) A) args s rm.cells rm.slots A) maxL 0 0 P 0 (lv_args 0 av) []) : Ci l y ws rm G LL ad w P av post := by
  intro sz
  refine Met.ofW (cc := cc) (maxL := maxL) (ret := ret) hy hw ?_
  intro p e s m args below meth c s₁ B hml hv
  obtain ⟨rfl, hsz, hP, hD0, hE⟩ := hv
  have hown : s.vm.findClass y.cls = some m.cls := findClass_of_methodNamed B.named
  subst hsz
  have hD : ∀ P', va_D (va_A (wl LL ad P) s.heap.size) (wl LL ad P') := fun P' => wl_self hD0
  have hA : ∀ q : Nat, s.heap.size ≤ q → va_A (wl LL ad P) s.heap.size q := fun q h => Or.inr h
  have hl := lv_entry av (n := maxL) hfit
  rw [lg_entry_eq]
  exact body p e s m av.toArray below meth c (va_A (wl LL ad P) s.heap.size) ⟨⟨B.exec, B.bytes, hml, hown, atoms_spec (ws := ws) B.pre⟩, B.notSynchronized, hE, hD, hA⟩ B.returns (name_of_methodNamed B.named B.method).1 s.heap [] _ hP va_S.rf hl
theorem x_Vi {post : Int32 → σ → Prop} (j : Nat) (C : Cx p s m args meth c cc nL own Ts G A LL ad) (hc : Ci l y ws rm G LL ad w P (.ref (ad j) :: As) post) (hG : GoodIn Ts (wsV own index Cn y ws)) (hw : ws = Cond.code y bytes maxL ret :: ws') (hd : y.cls = Cn ∧ y.cls ≠ "java/lang/invoke/MethodHandle" ∧ y.cls ≠ "java/lang/invoke/VarHandle" ∧ (parseMethodDescriptor y.desc).map (fun d => d.parameters.length) = some n) (hR : rm.frames + 1 ≤ R.frames ∧ 8 + (maxL + 11) + rm.locals ≤ R.locals) (hrm : cells + rm.cells ≤ R.cells ∧ slots + rm.slots ≤ R.slots) (hm : j ∈ LL) (hO : P j = .inr (ci, fs)) (hcl : vwCl[ci]? = some (Cn, T, N)) (hn : As.length = n) (hcat : (st.map fun v => v.category).sum ≤ 8) (hst : st0 = As.reverse ++ .ref (ad j) :: st) (hdg : decode cc pc = .ok (.invokevirtual index, 3)) (k : ∀ (r : Int32) (u : σ), post r u → XJ p l e R s m args below meth c G A LL ad Q nL (cells + rm.cells) (slots + rm.slots) (w u) (pc + 3) L (.int r :: st)) : XJ p l e R s m args below meth c G A LL ad Q nL cells slots P (pc) L (st0) := fun H locs ls hP hS hl => by
  subst hst
  obtain ⟨q, -, hq⟩ := wl_get (ad := ad) (P := P) hm
  rw [hO] at hq
  have hF := wl_A (C.2.2.2.1 P) C.2.2.2.2 hS.1
  refine va_calli (va_runV (As := As) (rest := st) C.1 (hc H.size) (cwV n C.1.2.2.2.2 hG hw rfl rfl hd hR) ⟨tf_blind, va_recv C.2.2.1.1 hP hcl hq, fun U hU hW => ⟨rfl, tf_pre C hP hS hU hW⟩⟩ rfl hn hl.1 rfl (lv_room hcat) hdg hrm) hS (fun q _ h => hF q h) hF (fun r u t H1 locs1 ht hvm hw1 hB hz1 hk1 hS1 => ?_)
  exact k r u hw1 H1 locs1 ls (by rw [← ht]; exact hB) hS1 hl
theorem x_Si {post : Int32 → σ → Prop} (C : Cx p s m args meth c cc nL own Ts G A LL ad) (hc : Ci l y ws rm G LL ad w P As post) (hG : GoodIn Ts (va_wsS own index y ws)) (hw : ws = Cond.code y bytes maxL ret :: ws') (hd : y.cls ≠ "java/lang/invoke/MethodHandle" ∧ y.cls ≠ "java/lang/invoke/VarHandle" ∧ (parseMethodDescriptor y.desc).map (fun d => d.parameters.length) = some n) (hR : rm.frames + 1 ≤ R.frames ∧ 8 + (maxL + 11) + rm.locals ≤ R.locals) (hrm : cells + rm.cells ≤ R.cells ∧ slots + rm.slots ≤ R.slots) (hn : As.length = n) (hcat : (st.map fun v => v.category).sum ≤ 8) (hst : st0 = As.reverse ++ st) (hdg : decode cc pc = .ok (.invokestatic index, 3)) (k : ∀ (r : Int32) (u : σ), post r u → XJ p l e R s m args below meth c G A LL ad Q nL (cells + rm.cells) (slots + rm.slots) (w u) (pc + 3) L (.int r :: st)) : XJ p l e R s m args below meth c G A LL ad Q nL cells slots P (pc) L (st0) := fun H locs ls hP hS hl => by
  subst hst
  have hF := wl_A (C.2.2.2.1 P) C.2.2.2.2 hS.1
  refine va_calli (va_runS (As := As) (rest := st) C.1 (hc H.size) (va_cwS n C.1.2.2.2.2 hG hw rfl rfl hd hR) ⟨tf_blind, fun U hU hW => ⟨rfl, tf_pre C hP hS hU hW⟩⟩ rfl hn hl.1 rfl (lv_room hcat) hdg hrm) hS (fun q _ h => hF q h) hF (fun r u t H1 locs1 ht hvm hw1 hB hz1 hk1 hS1 => ?_)
  exact k r u hw1 H1 locs1 ls (by rw [← ht]; exact hB) hS1 hl
theorem x_Ni {post : Int32 → σ → Prop} (C : Cx p s m args meth c cc nL own Ts G A LL ad) (hc : Ci l y ws rm G LL ad w P As post) (hG : GoodIn Ts ws) (hw : ws = Cond.code y bytes maxL ret :: ws') (hd : y.cls ≠ "java/lang/invoke/MethodHandle" ∧ y.cls ≠ "java/lang/invoke/VarHandle" ∧ (parseMethodDescriptor y.desc).map (fun d => d.parameters.length) = some n) (hnest : va_Nw (.methodLinkNest own index y host) s) (hini : Cond.initialized y.cls ∈ Ts) (hstat : Cond.static y ∈ Ts) (hR : rm.frames + 1 ≤ R.frames ∧ 8 + (maxL + 11) + rm.locals ≤ R.locals) (hrm : cells + rm.cells ≤ R.cells ∧ slots + rm.slots ≤ R.slots) (hn : As.length = n) (hcat : (st.map fun v => v.category).sum ≤ 8) (hst : st0 = As.reverse ++ st) (hdg : decode cc pc = .ok (.invokestatic index, 3)) (k : ∀ (r : Int32) (u : σ), post r u → XJ p l e R s m args below meth c G A LL ad Q nL (cells + rm.cells) (slots + rm.slots) (w u) (pc + 3) L (.int r :: st)) : XJ p l e R s m args below meth c G A LL ad Q nL cells slots P (pc) L (st0) := fun H locs ls hP hS hl => by
  subst hst
  have hF := wl_A (C.2.2.2.1 P) C.2.2.2.2 hS.1
  refine va_calli (va_runSN (As := As) (rest := st) C.1 (hc H.size) ⟨va_cnB n C.1.2.2.2.2 hG hw rfl rfl hnest (C.1.2.2.2.2 _ hini) hd hR, C.1.2.2.2.2 _ hstat, trivial⟩ ⟨tf_blind, fun U hU hW => ⟨rfl, tf_pre C hP hS hU hW⟩⟩ rfl hn hl.1 rfl (lv_room hcat) hdg hrm) hS (fun q _ h => hF q h) hF (fun r u t H1 locs1 ht hvm hw1 hB hz1 hk1 hS1 => ?_)
  exact k r u hw1 H1 locs1 ls (by rw [← ht]; exact hB) hS1 hl
def Cl {σ : Type} (l : Launch) (y : MethodName) (ws : List Cond) (rm : Room) (G : tf_G) (LL : List Nat) (ad : Nat → Nat) (w : σ → Nat → va_E) (P : Nat → va_E) (av : List Value) (post : Int64 → σ → Prop) : Prop := ∀ sz : Nat, Met l y ws rm (va_Pc av (tf_P G LL ad P sz)) (va_Ql post (tf_B G LL ad w) (va_A (wl LL ad P) sz)) rm.cells rm.slots (va_A (wl LL ad P) sz)
theorem cl_of {post : Int64 → σ → Prop} (hy : plainName y.cls = true) (hw : ws = Cond.code y cc maxL ret :: ws') (hfit : (lg_sl av).length ≤ maxL) (body : ∀ (p : Program) (e : Env) (s : State) (m : MethodId) (args : Array Value) (below : List Frame) (meth : Method) (c : Code) (A : Nat → Prop), Cx p s m args meth c cc maxL y.cls ws G A LL ad → meth.sig.returnType = ret → meth.name = y.name → XJ p l e rm s m args below meth c G A LL ad (MQ below (va_Ql post (tf_B G LL ad w) A) args s rm.cells rm.slots A) maxL 0 0 P 0 (lv_args 0 av) []) : Cl l y ws rm G LL ad w P av post := by
  intro sz
  refine Met.ofW (cc := cc) (maxL := maxL) (ret := ret) hy hw ?_
  intro p e s m args below meth c s₁ B hml hv
  obtain ⟨rfl, hsz, hP, hD0, hE⟩ := hv
  have hown : s.vm.findClass y.cls = some m.cls := findClass_of_methodNamed B.named
  subst hsz
  have hD : ∀ P', va_D (va_A (wl LL ad P) s.heap.size) (wl LL ad P') := fun P' => wl_self hD0
  have hA : ∀ q : Nat, s.heap.size ≤ q → va_A (wl LL ad P) s.heap.size q := fun q h => Or.inr h
  have hl := lv_entry av (n := maxL) hfit
  rw [lg_entry_eq]
  exact body p e s m av.toArray below meth c (va_A (wl LL ad P) s.heap.size) ⟨⟨B.exec, B.bytes, hml, hown, atoms_spec (ws := ws) B.pre⟩, B.notSynchronized, hE, hD, hA⟩ B.returns (name_of_methodNamed B.named B.method).1 s.heap [] _ hP va_S.rf hl
theorem x_Vl {post : Int64 → σ → Prop} (j : Nat) (C : Cx p s m args meth c cc nL own Ts G A LL ad) (hc : Cl l y ws rm G LL ad w P (.ref (ad j) :: As) post) (hG : GoodIn Ts (wsV own index Cn y ws)) (hw : ws = Cond.code y bytes maxL ret :: ws') (hd : y.cls = Cn ∧ y.cls ≠ "java/lang/invoke/MethodHandle" ∧ y.cls ≠ "java/lang/invoke/VarHandle" ∧ (parseMethodDescriptor y.desc).map (fun d => d.parameters.length) = some n) (hR : rm.frames + 1 ≤ R.frames ∧ 8 + (maxL + 11) + rm.locals ≤ R.locals) (hrm : cells + rm.cells ≤ R.cells ∧ slots + rm.slots ≤ R.slots) (hm : j ∈ LL) (hO : P j = .inr (ci, fs)) (hcl : vwCl[ci]? = some (Cn, T, N)) (hn : As.length = n) (hcat : (st.map fun v => v.category).sum ≤ 8) (hst : st0 = As.reverse ++ .ref (ad j) :: st) (hdg : decode cc pc = .ok (.invokevirtual index, 3)) (k : ∀ (r : Int64) (u : σ), post r u → XJ p l e R s m args below meth c G A LL ad Q nL (cells + rm.cells) (slots + rm.slots) (w u) (pc + 3) L (.long r :: st)) : XJ p l e R s m args below meth c G A LL ad Q nL cells slots P (pc) L (st0) := fun H locs ls hP hS hl => by
  subst hst
  obtain ⟨q, -, hq⟩ := wl_get (ad := ad) (P := P) hm
  rw [hO] at hq
  have hF := wl_A (C.2.2.2.1 P) C.2.2.2.2 hS.1
  refine va_calll (va_runV (As := As) (rest := st) C.1 (hc H.size) (cwV n C.1.2.2.2.2 hG hw rfl rfl hd hR) ⟨tf_blind, va_recv C.2.2.1.1 hP hcl hq, fun U hU hW => ⟨rfl, tf_pre C hP hS hU hW⟩⟩ rfl hn hl.1 rfl (lv_room hcat) hdg hrm) hS (fun q _ h => hF q h) hF (fun r u t H1 locs1 ht hvm hw1 hB hz1 hk1 hS1 => ?_)
  exact k r u hw1 H1 locs1 ls (by rw [← ht]; exact hB) hS1 hl
theorem x_Sl {post : Int64 → σ → Prop} (C : Cx p s m args meth c cc nL own Ts G A LL ad) (hc : Cl l y ws rm G LL ad w P As post) (hG : GoodIn Ts (va_wsS own index y ws)) (hw : ws = Cond.code y bytes maxL ret :: ws') (hd : y.cls ≠ "java/lang/invoke/MethodHandle" ∧ y.cls ≠ "java/lang/invoke/VarHandle" ∧ (parseMethodDescriptor y.desc).map (fun d => d.parameters.length) = some n) (hR : rm.frames + 1 ≤ R.frames ∧ 8 + (maxL + 11) + rm.locals ≤ R.locals) (hrm : cells + rm.cells ≤ R.cells ∧ slots + rm.slots ≤ R.slots) (hn : As.length = n) (hcat : (st.map fun v => v.category).sum ≤ 8) (hst : st0 = As.reverse ++ st) (hdg : decode cc pc = .ok (.invokestatic index, 3)) (k : ∀ (r : Int64) (u : σ), post r u → XJ p l e R s m args below meth c G A LL ad Q nL (cells + rm.cells) (slots + rm.slots) (w u) (pc + 3) L (.long r :: st)) : XJ p l e R s m args below meth c G A LL ad Q nL cells slots P (pc) L (st0) := fun H locs ls hP hS hl => by
  subst hst
  have hF := wl_A (C.2.2.2.1 P) C.2.2.2.2 hS.1
  refine va_calll (va_runS (As := As) (rest := st) C.1 (hc H.size) (va_cwS n C.1.2.2.2.2 hG hw rfl rfl hd hR) ⟨tf_blind, fun U hU hW => ⟨rfl, tf_pre C hP hS hU hW⟩⟩ rfl hn hl.1 rfl (lv_room hcat) hdg hrm) hS (fun q _ h => hF q h) hF (fun r u t H1 locs1 ht hvm hw1 hB hz1 hk1 hS1 => ?_)
  exact k r u hw1 H1 locs1 ls (by rw [← ht]; exact hB) hS1 hl
theorem x_Nl {post : Int64 → σ → Prop} (C : Cx p s m args meth c cc nL own Ts G A LL ad) (hc : Cl l y ws rm G LL ad w P As post) (hG : GoodIn Ts ws) (hw : ws = Cond.code y bytes maxL ret :: ws') (hd : y.cls ≠ "java/lang/invoke/MethodHandle" ∧ y.cls ≠ "java/lang/invoke/VarHandle" ∧ (parseMethodDescriptor y.desc).map (fun d => d.parameters.length) = some n) (hnest : va_Nw (.methodLinkNest own index y host) s) (hini : Cond.initialized y.cls ∈ Ts) (hstat : Cond.static y ∈ Ts) (hR : rm.frames + 1 ≤ R.frames ∧ 8 + (maxL + 11) + rm.locals ≤ R.locals) (hrm : cells + rm.cells ≤ R.cells ∧ slots + rm.slots ≤ R.slots) (hn : As.length = n) (hcat : (st.map fun v => v.category).sum ≤ 8) (hst : st0 = As.reverse ++ st) (hdg : decode cc pc = .ok (.invokestatic index, 3)) (k : ∀ (r : Int64) (u : σ), post r u → XJ p l e R s m args below meth c G A LL ad Q nL (cells + rm.cells) (slots + rm.slots) (w u) (pc + 3) L (.long r :: st)) : XJ p l e R s m args below meth c G A LL ad Q nL cells slots P (pc) L (st0) := fun H locs ls hP hS hl => by
  subst hst
  have hF := wl_A (C.2.2.2.1 P) C.2.2.2.2 hS.1
  refine va_calll (va_runSN (As := As) (rest := st) C.1 (hc H.size) ⟨va_cnB n C.1.2.2.2.2 hG hw rfl rfl hnest (C.1.2.2.2.2 _ hini) hd hR, C.1.2.2.2.2 _ hstat, trivial⟩ ⟨tf_blind, fun U hU hW => ⟨rfl, tf_pre C hP hS hU hW⟩⟩ rfl hn hl.1 rfl (lv_room hcat) hdg hrm) hS (fun q _ h => hF q h) hF (fun r u t H1 locs1 ht hvm hw1 hB hz1 hk1 hS1 => ?_)
  exact k r u hw1 H1 locs1 ls (by rw [← ht]; exact hB) hS1 hl
def Cq {σ : Type} (l : Launch) (y : MethodName) (ws : List Cond) (rm : Room) (G : tf_G) (LL : List Nat) (ad : Nat → Nat) (w : σ → Nat → va_E) (P : Nat → va_E) (av : List Value) (post : Option Nat → σ → Prop) : Prop := ∀ sz : Nat, Met l y ws rm (va_Pc av (tf_P G LL ad P sz)) (va_Qq post (tf_B G LL ad w) (va_A (wl LL ad P) sz)) rm.cells rm.slots (va_A (wl LL ad P) sz)
theorem cq_of {post : Option Nat → σ → Prop} (hy : plainName y.cls = true) (hw : ws = Cond.code y cc maxL ret :: ws') (hfit : (lg_sl av).length ≤ maxL) (body : ∀ (p : Program) (e : Env) (s : State) (m : MethodId) (args : Array Value) (below : List Frame) (meth : Method) (c : Code) (A : Nat → Prop), Cx p s m args meth c cc maxL y.cls ws G A LL ad → meth.sig.returnType = ret → meth.name = y.name → XJ p l e rm s m args below meth c G A LL ad (MQ below (va_Qq post (tf_B G LL ad w) A) args s rm.cells rm.slots A) maxL 0 0 P 0 (lv_args 0 av) []) : Cq l y ws rm G LL ad w P av post := by
  intro sz
  refine Met.ofW (cc := cc) (maxL := maxL) (ret := ret) hy hw ?_
  intro p e s m args below meth c s₁ B hml hv
  obtain ⟨rfl, hsz, hP, hD0, hE⟩ := hv
  have hown : s.vm.findClass y.cls = some m.cls := findClass_of_methodNamed B.named
  subst hsz
  have hD : ∀ P', va_D (va_A (wl LL ad P) s.heap.size) (wl LL ad P') := fun P' => wl_self hD0
  have hA : ∀ q : Nat, s.heap.size ≤ q → va_A (wl LL ad P) s.heap.size q := fun q h => Or.inr h
  have hl := lv_entry av (n := maxL) hfit
  rw [lg_entry_eq]
  exact body p e s m av.toArray below meth c (va_A (wl LL ad P) s.heap.size) ⟨⟨B.exec, B.bytes, hml, hown, atoms_spec (ws := ws) B.pre⟩, B.notSynchronized, hE, hD, hA⟩ B.returns (name_of_methodNamed B.named B.method).1 s.heap [] _ hP va_S.rf hl
theorem x_Vq {post : Option Nat → σ → Prop} (j : Nat) (C : Cx p s m args meth c cc nL own Ts G A LL ad) (hc : Cq l y ws rm G LL ad w P (.ref (ad j) :: As) post) (hG : GoodIn Ts (wsV own index Cn y ws)) (hw : ws = Cond.code y bytes maxL ret :: ws') (hd : y.cls = Cn ∧ y.cls ≠ "java/lang/invoke/MethodHandle" ∧ y.cls ≠ "java/lang/invoke/VarHandle" ∧ (parseMethodDescriptor y.desc).map (fun d => d.parameters.length) = some n) (hR : rm.frames + 1 ≤ R.frames ∧ 8 + (maxL + 11) + rm.locals ≤ R.locals) (hrm : cells + rm.cells ≤ R.cells ∧ slots + rm.slots ≤ R.slots) (hm : j ∈ LL) (hO : P j = .inr (ci, fs)) (hcl : vwCl[ci]? = some (Cn, T, N)) (hn : As.length = n) (hcat : (st.map fun v => v.category).sum ≤ 8) (hst : st0 = As.reverse ++ .ref (ad j) :: st) (hdg : decode cc pc = .ok (.invokevirtual index, 3)) (k : ∀ (r : Option Nat) (u : σ), post r u → XJ p l e R s m args below meth c G A LL ad Q nL (cells + rm.cells) (slots + rm.slots) (w u) (pc + 3) L (va_rf r :: st)) : XJ p l e R s m args below meth c G A LL ad Q nL cells slots P (pc) L (st0) := fun H locs ls hP hS hl => by
  subst hst
  obtain ⟨q, -, hq⟩ := wl_get (ad := ad) (P := P) hm
  rw [hO] at hq
  have hF := wl_A (C.2.2.2.1 P) C.2.2.2.2 hS.1
  refine va_callq (va_runV (As := As) (rest := st) C.1 (hc H.size) (cwV n C.1.2.2.2.2 hG hw rfl rfl hd hR) ⟨tf_blind, va_recv C.2.2.1.1 hP hcl hq, fun U hU hW => ⟨rfl, tf_pre C hP hS hU hW⟩⟩ rfl hn hl.1 rfl (lv_room hcat) hdg hrm) hS (fun q _ h => hF q h) hF (fun r u t H1 locs1 ht hvm hw1 hB hz1 hk1 hS1 => ?_)
  exact k r u hw1 H1 locs1 ls (by rw [← ht]; exact hB) hS1 hl
theorem x_Sq {post : Option Nat → σ → Prop} (C : Cx p s m args meth c cc nL own Ts G A LL ad) (hc : Cq l y ws rm G LL ad w P As post) (hG : GoodIn Ts (va_wsS own index y ws)) (hw : ws = Cond.code y bytes maxL ret :: ws') (hd : y.cls ≠ "java/lang/invoke/MethodHandle" ∧ y.cls ≠ "java/lang/invoke/VarHandle" ∧ (parseMethodDescriptor y.desc).map (fun d => d.parameters.length) = some n) (hR : rm.frames + 1 ≤ R.frames ∧ 8 + (maxL + 11) + rm.locals ≤ R.locals) (hrm : cells + rm.cells ≤ R.cells ∧ slots + rm.slots ≤ R.slots) (hn : As.length = n) (hcat : (st.map fun v => v.category).sum ≤ 8) (hst : st0 = As.reverse ++ st) (hdg : decode cc pc = .ok (.invokestatic index, 3)) (k : ∀ (r : Option Nat) (u : σ), post r u → XJ p l e R s m args below meth c G A LL ad Q nL (cells + rm.cells) (slots + rm.slots) (w u) (pc + 3) L (va_rf r :: st)) : XJ p l e R s m args below meth c G A LL ad Q nL cells slots P (pc) L (st0) := fun H locs ls hP hS hl => by
  subst hst
  have hF := wl_A (C.2.2.2.1 P) C.2.2.2.2 hS.1
  refine va_callq (va_runS (As := As) (rest := st) C.1 (hc H.size) (va_cwS n C.1.2.2.2.2 hG hw rfl rfl hd hR) ⟨tf_blind, fun U hU hW => ⟨rfl, tf_pre C hP hS hU hW⟩⟩ rfl hn hl.1 rfl (lv_room hcat) hdg hrm) hS (fun q _ h => hF q h) hF (fun r u t H1 locs1 ht hvm hw1 hB hz1 hk1 hS1 => ?_)
  exact k r u hw1 H1 locs1 ls (by rw [← ht]; exact hB) hS1 hl
theorem x_Nq {post : Option Nat → σ → Prop} (C : Cx p s m args meth c cc nL own Ts G A LL ad) (hc : Cq l y ws rm G LL ad w P As post) (hG : GoodIn Ts ws) (hw : ws = Cond.code y bytes maxL ret :: ws') (hd : y.cls ≠ "java/lang/invoke/MethodHandle" ∧ y.cls ≠ "java/lang/invoke/VarHandle" ∧ (parseMethodDescriptor y.desc).map (fun d => d.parameters.length) = some n) (hnest : va_Nw (.methodLinkNest own index y host) s) (hini : Cond.initialized y.cls ∈ Ts) (hstat : Cond.static y ∈ Ts) (hR : rm.frames + 1 ≤ R.frames ∧ 8 + (maxL + 11) + rm.locals ≤ R.locals) (hrm : cells + rm.cells ≤ R.cells ∧ slots + rm.slots ≤ R.slots) (hn : As.length = n) (hcat : (st.map fun v => v.category).sum ≤ 8) (hst : st0 = As.reverse ++ st) (hdg : decode cc pc = .ok (.invokestatic index, 3)) (k : ∀ (r : Option Nat) (u : σ), post r u → XJ p l e R s m args below meth c G A LL ad Q nL (cells + rm.cells) (slots + rm.slots) (w u) (pc + 3) L (va_rf r :: st)) : XJ p l e R s m args below meth c G A LL ad Q nL cells slots P (pc) L (st0) := fun H locs ls hP hS hl => by
  subst hst
  have hF := wl_A (C.2.2.2.1 P) C.2.2.2.2 hS.1
  refine va_callq (va_runSN (As := As) (rest := st) C.1 (hc H.size) ⟨va_cnB n C.1.2.2.2.2 hG hw rfl rfl hnest (C.1.2.2.2.2 _ hini) hd hR, C.1.2.2.2.2 _ hstat, trivial⟩ ⟨tf_blind, fun U hU hW => ⟨rfl, tf_pre C hP hS hU hW⟩⟩ rfl hn hl.1 rfl (lv_room hcat) hdg hrm) hS (fun q _ h => hF q h) hF (fun r u t H1 locs1 ht hvm hw1 hB hz1 hk1 hS1 => ?_)
  exact k r u hw1 H1 locs1 ls (by rw [← ht]; exact hB) hS1 hl
def Cv {σ : Type} (l : Launch) (y : MethodName) (ws : List Cond) (rm : Room) (G : tf_G) (LL : List Nat) (ad : Nat → Nat) (w : σ → Nat → va_E) (P : Nat → va_E) (av : List Value) (post : σ → Prop) : Prop := ∀ sz : Nat, Met l y ws rm (va_Pc av (tf_P G LL ad P sz)) (va_Qv post (tf_B G LL ad w) (va_A (wl LL ad P) sz)) rm.cells rm.slots (va_A (wl LL ad P) sz)
theorem cv_of {post : σ → Prop} (hy : plainName y.cls = true) (hw : ws = Cond.code y cc maxL ret :: ws') (hfit : (lg_sl av).length ≤ maxL) (body : ∀ (p : Program) (e : Env) (s : State) (m : MethodId) (args : Array Value) (below : List Frame) (meth : Method) (c : Code) (A : Nat → Prop), Cx p s m args meth c cc maxL y.cls ws G A LL ad → meth.sig.returnType = ret → meth.name = y.name → XJ p l e rm s m args below meth c G A LL ad (MQ below (va_Qv post (tf_B G LL ad w) A) args s rm.cells rm.slots A) maxL 0 0 P 0 (lv_args 0 av) []) : Cv l y ws rm G LL ad w P av post := by
  intro sz
  refine Met.ofW (cc := cc) (maxL := maxL) (ret := ret) hy hw ?_
  intro p e s m args below meth c s₁ B hml hv
  obtain ⟨rfl, hsz, hP, hD0, hE⟩ := hv
  have hown : s.vm.findClass y.cls = some m.cls := findClass_of_methodNamed B.named
  subst hsz
  have hD : ∀ P', va_D (va_A (wl LL ad P) s.heap.size) (wl LL ad P') := fun P' => wl_self hD0
  have hA : ∀ q : Nat, s.heap.size ≤ q → va_A (wl LL ad P) s.heap.size q := fun q h => Or.inr h
  have hl := lv_entry av (n := maxL) hfit
  rw [lg_entry_eq]
  exact body p e s m av.toArray below meth c (va_A (wl LL ad P) s.heap.size) ⟨⟨B.exec, B.bytes, hml, hown, atoms_spec (ws := ws) B.pre⟩, B.notSynchronized, hE, hD, hA⟩ B.returns (name_of_methodNamed B.named B.method).1 s.heap [] _ hP va_S.rf hl
theorem x_Vv {post : σ → Prop} (j : Nat) (C : Cx p s m args meth c cc nL own Ts G A LL ad) (hc : Cv l y ws rm G LL ad w P (.ref (ad j) :: As) post) (hG : GoodIn Ts (wsV own index Cn y ws)) (hw : ws = Cond.code y bytes maxL ret :: ws') (hd : y.cls = Cn ∧ y.cls ≠ "java/lang/invoke/MethodHandle" ∧ y.cls ≠ "java/lang/invoke/VarHandle" ∧ (parseMethodDescriptor y.desc).map (fun d => d.parameters.length) = some n) (hR : rm.frames + 1 ≤ R.frames ∧ 8 + (maxL + 11) + rm.locals ≤ R.locals) (hrm : cells + rm.cells ≤ R.cells ∧ slots + rm.slots ≤ R.slots) (hm : j ∈ LL) (hO : P j = .inr (ci, fs)) (hcl : vwCl[ci]? = some (Cn, T, N)) (hn : As.length = n) (hcat : (st.map fun v => v.category).sum ≤ 8) (hst : st0 = As.reverse ++ .ref (ad j) :: st) (hdg : decode cc pc = .ok (.invokevirtual index, 3)) (k : ∀ (u : σ), post u → XJ p l e R s m args below meth c G A LL ad Q nL (cells + rm.cells) (slots + rm.slots) (w u) (pc + 3) L (st)) : XJ p l e R s m args below meth c G A LL ad Q nL cells slots P (pc) L (st0) := fun H locs ls hP hS hl => by
  subst hst
  obtain ⟨q, -, hq⟩ := wl_get (ad := ad) (P := P) hm
  rw [hO] at hq
  have hF := wl_A (C.2.2.2.1 P) C.2.2.2.2 hS.1
  refine va_callv (va_runV (As := As) (rest := st) C.1 (hc H.size) (cwV n C.1.2.2.2.2 hG hw rfl rfl hd hR) ⟨tf_blind, va_recv C.2.2.1.1 hP hcl hq, fun U hU hW => ⟨rfl, tf_pre C hP hS hU hW⟩⟩ rfl hn hl.1 rfl (lv_room hcat) hdg hrm) hS (fun q _ h => hF q h) hF (fun u t H1 locs1 ht hvm hw1 hB hz1 hk1 hS1 => ?_)
  exact k u hw1 H1 locs1 ls (by rw [← ht]; exact hB) hS1 hl
theorem x_Sv {post : σ → Prop} (C : Cx p s m args meth c cc nL own Ts G A LL ad) (hc : Cv l y ws rm G LL ad w P As post) (hG : GoodIn Ts (va_wsS own index y ws)) (hw : ws = Cond.code y bytes maxL ret :: ws') (hd : y.cls ≠ "java/lang/invoke/MethodHandle" ∧ y.cls ≠ "java/lang/invoke/VarHandle" ∧ (parseMethodDescriptor y.desc).map (fun d => d.parameters.length) = some n) (hR : rm.frames + 1 ≤ R.frames ∧ 8 + (maxL + 11) + rm.locals ≤ R.locals) (hrm : cells + rm.cells ≤ R.cells ∧ slots + rm.slots ≤ R.slots) (hn : As.length = n) (hcat : (st.map fun v => v.category).sum ≤ 8) (hst : st0 = As.reverse ++ st) (hdg : decode cc pc = .ok (.invokestatic index, 3)) (k : ∀ (u : σ), post u → XJ p l e R s m args below meth c G A LL ad Q nL (cells + rm.cells) (slots + rm.slots) (w u) (pc + 3) L (st)) : XJ p l e R s m args below meth c G A LL ad Q nL cells slots P (pc) L (st0) := fun H locs ls hP hS hl => by
  subst hst
  have hF := wl_A (C.2.2.2.1 P) C.2.2.2.2 hS.1
  refine va_callv (va_runS (As := As) (rest := st) C.1 (hc H.size) (va_cwS n C.1.2.2.2.2 hG hw rfl rfl hd hR) ⟨tf_blind, fun U hU hW => ⟨rfl, tf_pre C hP hS hU hW⟩⟩ rfl hn hl.1 rfl (lv_room hcat) hdg hrm) hS (fun q _ h => hF q h) hF (fun u t H1 locs1 ht hvm hw1 hB hz1 hk1 hS1 => ?_)
  exact k u hw1 H1 locs1 ls (by rw [← ht]; exact hB) hS1 hl
theorem x_Nv {post : σ → Prop} (C : Cx p s m args meth c cc nL own Ts G A LL ad) (hc : Cv l y ws rm G LL ad w P As post) (hG : GoodIn Ts ws) (hw : ws = Cond.code y bytes maxL ret :: ws') (hd : y.cls ≠ "java/lang/invoke/MethodHandle" ∧ y.cls ≠ "java/lang/invoke/VarHandle" ∧ (parseMethodDescriptor y.desc).map (fun d => d.parameters.length) = some n) (hnest : va_Nw (.methodLinkNest own index y host) s) (hini : Cond.initialized y.cls ∈ Ts) (hstat : Cond.static y ∈ Ts) (hR : rm.frames + 1 ≤ R.frames ∧ 8 + (maxL + 11) + rm.locals ≤ R.locals) (hrm : cells + rm.cells ≤ R.cells ∧ slots + rm.slots ≤ R.slots) (hn : As.length = n) (hcat : (st.map fun v => v.category).sum ≤ 8) (hst : st0 = As.reverse ++ st) (hdg : decode cc pc = .ok (.invokestatic index, 3)) (k : ∀ (u : σ), post u → XJ p l e R s m args below meth c G A LL ad Q nL (cells + rm.cells) (slots + rm.slots) (w u) (pc + 3) L (st)) : XJ p l e R s m args below meth c G A LL ad Q nL cells slots P (pc) L (st0) := fun H locs ls hP hS hl => by
  subst hst
  have hF := wl_A (C.2.2.2.1 P) C.2.2.2.2 hS.1
  refine va_callv (va_runSN (As := As) (rest := st) C.1 (hc H.size) ⟨va_cnB n C.1.2.2.2.2 hG hw rfl rfl hnest (C.1.2.2.2.2 _ hini) hd hR, C.1.2.2.2.2 _ hstat, trivial⟩ ⟨tf_blind, fun U hU hW => ⟨rfl, tf_pre C hP hS hU hW⟩⟩ rfl hn hl.1 rfl (lv_room hcat) hdg hrm) hS (fun q _ h => hF q h) hF (fun u t H1 locs1 ht hvm hw1 hB hz1 hk1 hS1 => ?_)
  exact k u hw1 H1 locs1 ls (by rw [← ht]; exact hB) hS1 hl
theorem x_iret {post : Int32 → σ → Prop} (C : Cx p s m args meth c cc nL own Ts G A LL ad) {r : Int32} (hr : meth.sig.returnType = some .int) (u : σ) (hq : post r u) (hw : P = w u) (hdg : decode cc pc = .ok (.ireturn, 1)) : XJ p l e R s m args below meth c G A LL ad (MQ below (va_Qi post (tf_B G LL ad w) A) args s cells slots A) nL cells slots P pc L [.int r] := fun H locs ls hP hS hl => by
  subst hw
  exact W.iret (v := r) C.1.1 C.1.2.1 hr (fun t ht hW => ⟨⟨r, u, rfl, hq, by show va_P _ _ _ t.heap; rw [ht]; exact hP⟩, hS.F ht⟩) hS.2.2 hdg C.2.1
theorem x_zret {post : Int32 → σ → Prop} (C : Cx p s m args meth c cc nL own Ts G A LL ad) {r : Int32} (hr : meth.sig.returnType = some .boolean) (hz : r = 0 ∨ r = 1) (u : σ) (hq : post r u) (hw : P = w u) (hdg : decode cc pc = .ok (.ireturn, 1)) : XJ p l e R s m args below meth c G A LL ad (MQ below (va_Qi post (tf_B G LL ad w) A) args s cells slots A) nL cells slots P pc L [.int r] := fun H locs ls hP hS hl => by
  subst hw
  exact W.zret (v := r) C.1.1 C.1.2.1 hr (by rcases hz with rfl | rfl <;> rfl) (fun t ht hW => ⟨⟨r, u, rfl, hq, by show va_P _ _ _ t.heap; rw [ht]; exact hP⟩, hS.F ht⟩) hS.2.2 hdg C.2.1
theorem x_lret {post : Int64 → σ → Prop} (C : Cx p s m args meth c cc nL own Ts G A LL ad) {r : Int64} (hr : meth.sig.returnType = some .long) (u : σ) (hq : post r u) (hw : P = w u) (hdg : decode cc pc = .ok (.lreturn, 1)) : XJ p l e R s m args below meth c G A LL ad (MQ below (va_Ql post (tf_B G LL ad w) A) args s cells slots A) nL cells slots P pc L [.long r] := fun H locs ls hP hS hl => by
  subst hw
  exact W.lret (v := r) C.1.1 C.1.2.1 hr (fun t ht hW => ⟨⟨r, u, rfl, hq, by show va_P _ _ _ t.heap; rw [ht]; exact hP⟩, hS.F ht⟩) hS.2.2 hdg C.2.1
theorem x_vret {post : σ → Prop} (C : Cx p s m args meth c cc nL own Ts G A LL ad) (hr : meth.sig.returnType = none) (u : σ) (hq : post u) (hw : P = w u) (hdg : decode cc pc = .ok (.return_, 1)) : XJ p l e R s m args below meth c G A LL ad (MQ below (va_Qv post (tf_B G LL ad w) A) args s cells slots A) nL cells slots P pc L [] := fun H locs ls hP hS hl => by
  subst hw
  exact W.vret C.1.1 C.1.2.1 hr (fun t ht hW => ⟨⟨u, rfl, hq, by show va_P _ _ _ t.heap; rw [ht]; exact hP⟩, hS.F ht⟩) hS.2.2 hdg C.2.1
theorem x_aret {post : Option Nat → σ → Prop} (C : Cx p s m args meth c cc nL own Ts G A LL ad) {r : Option Nat} {rt : FieldType} (hr : meth.sig.returnType = some rt) (hrt : (∃ n, rt = .object n) ∨ ∃ t, rt = .array t) (u : σ) (hq : post r u) (hw : P = w u) (hdg : decode cc pc = .ok (.areturn, 1)) : XJ p l e R s m args below meth c G A LL ad (MQ below (va_Qq post (tf_B G LL ad w) A) args s cells slots A) nL cells slots P pc L [va_rf r] := fun H locs ls hP hS hl => by
  subst hw
  exact W.aret (v := va_rf r) C.1.1 C.1.2.1 hr hrt (by cases r with | none => exact Or.inl rfl | some a => exact Or.inr ⟨a, rfl⟩) (fun t ht hW => ⟨⟨r, u, rfl, hq, by show va_P _ _ _ t.heap; rw [ht]; exact hP⟩, hS.F ht⟩) hS.2.2 hdg C.2.1
end XC
end
section
/-! WHAT A CELL HOLDS, by its id: 0 the class's object and 1 to 25 what hangs on it; 30 the reference's object, 30 + k the row of its field k; 100 + i squadron i, 200 + i, 300 + i its rows; 400 + t statute t, 500 + t its row -/
def tf_c1 (G : tf_G) (nR : Nat) (ad : Nat → Nat) (j : Nat) (f : Nat → Int32) : va_E := if j = 0 then .inr (9, [.ref (ad 1), .ref (ad 7), .ref (ad 10), .ref (ad 12), .ref (ad 13), .ref (ad 17), .ref (ad 21), .int (f 7), .int (f 8)]) else if j = 1 then .inr (0, [.int (f 0), .ref (ad 2), .ref (ad 3), .ref (ad 4), .ref (ad 5), .ref (ad 6), .int (f 6), .int (f 7), .int (f 8)]) else if j = 2 then .inl (G.2.1 0, 12, .inl f) else if j = 3 then .inl (G.2.1 0, 12, .inl f) else if j = 4 then .inl (G.2.1 0, 4, .inl f) else if j = 5 then .inl (G.2.1 0, 4, .inl f) else if j = 6 then .inl (G.2.1 0, 4, .inl f) else if j = 7 then .inr (3, [.ref (ad 8), .ref (ad 9), .int (f 2)]) else if j = 8 then .inl (G.2.1 3, 12, .inr (.inr (.inr (.inr (fun i => if f i = 0 then none else some (ad (100 + i))))))) else if j = 9 then .inl (G.2.1 0, 12, .inl f) else if j = 10 then .inr (8, [.ref (ad 11), .int (f 1)]) else if j = 11 then .inl (G.2.1 1, 400, .inl f) else if j = 12 then .inr (4, [.ref (ad 10), .int (f 1), .int (f 2), .int (f 3), .int (f 4)]) else if j = 13 then .inr (1, [.ref (ad 14), .ref (ad 15), .int (f 2)]) else if j = 14 then .inl (G.2.1 4, 10, .inr (.inr (.inr (.inr (fun i => if f i = 0 then none else some (ad (400 + i))))))) else if j = 15 then .inr (7, [.int (f 0), .int (f 1), .ref (ad 16), .int (f 3), .int (f 4), .int (f 5), .int (f 6)]) else if j = 16 then .inl (G.2.1 0, nR, .inl f) else if j = 17 then .inr (2, [.ref (ad 18), .ref (ad 19), .ref (ad 20), .int (f 3)]) else if j = 18 then .inl (G.2.1 0, 6, .inl f) else if j = 19 then .inl (G.2.1 0, 6, .inl f) else if j = 20 then .inl (G.2.1 0, 6, .inl f) else if j = 21 then .inr (5, [.ref (ad 22), .ref (ad 23), .ref (ad 24), .ref (ad 25), .int (f 4), .int (f 5)]) else if j = 22 then .inl (G.2.1 0, 6, .inl f) else if j = 23 then .inl (G.2.1 0, 6, .inl f) else if j = 24 then .inl (G.2.1 0, 6, .inl f) else if j = 25 then .inl (G.2.1 0, 64, .inl f) else .inr (0, [])
def tf_c2 (G : tf_G) (ad : Nat → Nat) (j : Nat) (f : Nat → Int32) : va_E := if j = 30 then .inr (10, [.int (f 0), .ref (ad 31), .ref (ad 32), .int (f 3), .int (f 4), .int (f 5), .int (f 6), .int (f 7), .int (f 8), .ref (ad 39), .ref (ad 40), .ref (ad 41), .ref (ad 42), .ref (ad 43), .ref (ad 44), .ref (ad 45), .ref (ad 46), .ref (ad 47), .ref (ad 48), .ref (ad 49), .ref (ad 50), .ref (ad 51), .ref (ad 52), .ref (ad 53), .ref (ad 54), .ref (ad 55), .ref (ad 56), .ref (ad 57), .ref (ad 58), .int (f 29), .int (f 30), .int (f 31), .int (f 32), .int (f 33), .ref (ad 64), .ref (ad 65), .ref (ad 66), .ref (ad 67), .ref (ad 68), .int (f 39), .int (f 40), .ref (ad 71), .ref (ad 72), .ref (ad 73), .ref (ad 74)]) else if j = 31 then .inl (G.2.1 0, 12, .inl f) else if j = 32 then .inl (G.2.1 0, 11, .inl f) else if j = 39 then .inl (G.2.1 0, 4, .inl f) else if j = 40 then .inl (G.2.1 0, 4, .inl f) else if j = 41 then .inl (G.2.1 0, 4, .inl f) else if j = 42 then .inl (G.2.1 0, 12, .inl f) else if j = 43 then .inl (G.2.1 0, 12, .inl f) else if j = 44 then .inl (G.2.1 0, 12, .inl f) else if j = 45 then .inl (G.2.1 0, 12, .inl f) else if j = 46 then .inl (G.2.1 0, 12, .inl f) else if j = 47 then .inl (G.2.1 0, 12, .inl f) else if j = 48 then .inl (G.2.1 0, 12, .inl f) else if j = 49 then .inl (G.2.1 0, 12, .inl f) else if j = 50 then .inl (G.2.1 0, 12, .inl f) else if j = 51 then .inl (G.2.1 2, 12, .inl f) else if j = 52 then .inl (G.2.1 0, 144, .inl f) else if j = 53 then .inl (G.2.1 0, 60, .inl f) else if j = 54 then .inl (G.2.1 0, 6, .inl f) else if j = 55 then .inl (G.2.1 0, 6, .inl f) else if j = 56 then .inl (G.2.1 0, 6, .inl f) else if j = 57 then .inl (G.2.1 1, 400, .inl f) else if j = 58 then .inl (G.2.1 1, 400, .inl f) else if j = 64 then .inl (G.2.1 0, 11, .inl f) else if j = 65 then .inl (G.2.1 0, 11, .inl f) else if j = 66 then .inl (G.2.1 0, 176, .inl f) else if j = 67 then .inl (G.2.1 0, 176, .inl f) else if j = 68 then .inl (G.2.1 0, 176, .inl f) else if j = 71 then .inl (G.2.1 2, 12, .inl f) else if j = 72 then .inl (G.2.1 0, 6, .inl f) else if j = 73 then .inl (G.2.1 0, 6, .inl f) else if j = 74 then .inl (G.2.1 0, 6, .inl f) else .inr (0, [])
def pf (G : tf_G) (nR : Nat) (ad : Nat → Nat) (j : Nat) (f : Nat → Int32) : va_E := if j < 26 then tf_c1 G nR ad j f else if j < 100 then tf_c2 G ad j f else if j < 200 then .inr (6, [.int (f 0), .int (f 1), .int (f 2), .int (f 3), .ref (ad (j + 100)), .ref (ad (j + 200)), .int (f 6), .int (f 7), .int (f 8), .int (f 9), .int (f 10), .int (f 11)]) else if j < 300 then .inl (G.2.1 0, nR, .inl f) else if j < 400 then .inl (G.2.1 0, 4, .inl f) else if j < 500 then .inr (7, [.int (f 0), .int (f 1), .ref (ad (j + 100)), .int (f 3), .int (f 4), .int (f 5), .int (f 6)]) else .inl (G.2.1 0, nR, .inl f)
def tf_fix : List Nat := [0, 1, 2, 3, 4, 5, 6, 7, 8, 9, 10, 11, 12, 13, 14, 15, 16, 17, 18, 19, 20, 21, 22, 23, 24, 25, 30, 31, 32, 39, 40, 41, 42, 43, 44, 45, 46, 47, 48, 49, 50, 51, 52, 53, 54, 55, 56, 57, 58, 64, 65, 66, 67, 68, 71, 72, 73, 74]
theorem pf_0 (G : tf_G) (nR : Nat) (ad : Nat → Nat) (f : Nat → Int32) : pf G nR ad 0 f = .inr (9, [.ref (ad 1), .ref (ad 7), .ref (ad 10), .ref (ad 12), .ref (ad 13), .ref (ad 17), .ref (ad 21), .int (f 7), .int (f 8)]) := rfl
theorem pf_1 (G : tf_G) (nR : Nat) (ad : Nat → Nat) (f : Nat → Int32) : pf G nR ad 1 f = .inr (0, [.int (f 0), .ref (ad 2), .ref (ad 3), .ref (ad 4), .ref (ad 5), .ref (ad 6), .int (f 6), .int (f 7), .int (f 8)]) := rfl
theorem pf_2 (G : tf_G) (nR : Nat) (ad : Nat → Nat) (f : Nat → Int32) : pf G nR ad 2 f = .inl (G.2.1 0, 12, .inl f) := rfl
theorem pf_3 (G : tf_G) (nR : Nat) (ad : Nat → Nat) (f : Nat → Int32) : pf G nR ad 3 f = .inl (G.2.1 0, 12, .inl f) := rfl
theorem pf_4 (G : tf_G) (nR : Nat) (ad : Nat → Nat) (f : Nat → Int32) : pf G nR ad 4 f = .inl (G.2.1 0, 4, .inl f) := rfl
theorem pf_5 (G : tf_G) (nR : Nat) (ad : Nat → Nat) (f : Nat → Int32) : pf G nR ad 5 f = .inl (G.2.1 0, 4, .inl f) := rfl
theorem pf_6 (G : tf_G) (nR : Nat) (ad : Nat → Nat) (f : Nat → Int32) : pf G nR ad 6 f = .inl (G.2.1 0, 4, .inl f) := rfl
theorem pf_7 (G : tf_G) (nR : Nat) (ad : Nat → Nat) (f : Nat → Int32) : pf G nR ad 7 f = .inr (3, [.ref (ad 8), .ref (ad 9), .int (f 2)]) := rfl
theorem pf_8 (G : tf_G) (nR : Nat) (ad : Nat → Nat) (f : Nat → Int32) : pf G nR ad 8 f = .inl (G.2.1 3, 12, .inr (.inr (.inr (.inr (fun i => if f i = 0 then none else some (ad (100 + i))))))) := rfl
theorem pf_9 (G : tf_G) (nR : Nat) (ad : Nat → Nat) (f : Nat → Int32) : pf G nR ad 9 f = .inl (G.2.1 0, 12, .inl f) := rfl
theorem pf_10 (G : tf_G) (nR : Nat) (ad : Nat → Nat) (f : Nat → Int32) : pf G nR ad 10 f = .inr (8, [.ref (ad 11), .int (f 1)]) := rfl
theorem pf_11 (G : tf_G) (nR : Nat) (ad : Nat → Nat) (f : Nat → Int32) : pf G nR ad 11 f = .inl (G.2.1 1, 400, .inl f) := rfl
theorem pf_12 (G : tf_G) (nR : Nat) (ad : Nat → Nat) (f : Nat → Int32) : pf G nR ad 12 f = .inr (4, [.ref (ad 10), .int (f 1), .int (f 2), .int (f 3), .int (f 4)]) := rfl
theorem pf_13 (G : tf_G) (nR : Nat) (ad : Nat → Nat) (f : Nat → Int32) : pf G nR ad 13 f = .inr (1, [.ref (ad 14), .ref (ad 15), .int (f 2)]) := rfl
theorem pf_14 (G : tf_G) (nR : Nat) (ad : Nat → Nat) (f : Nat → Int32) : pf G nR ad 14 f = .inl (G.2.1 4, 10, .inr (.inr (.inr (.inr (fun i => if f i = 0 then none else some (ad (400 + i))))))) := rfl
theorem pf_15 (G : tf_G) (nR : Nat) (ad : Nat → Nat) (f : Nat → Int32) : pf G nR ad 15 f = .inr (7, [.int (f 0), .int (f 1), .ref (ad 16), .int (f 3), .int (f 4), .int (f 5), .int (f 6)]) := rfl
theorem pf_16 (G : tf_G) (nR : Nat) (ad : Nat → Nat) (f : Nat → Int32) : pf G nR ad 16 f = .inl (G.2.1 0, nR, .inl f) := rfl
theorem pf_17 (G : tf_G) (nR : Nat) (ad : Nat → Nat) (f : Nat → Int32) : pf G nR ad 17 f = .inr (2, [.ref (ad 18), .ref (ad 19), .ref (ad 20), .int (f 3)]) := rfl
theorem pf_18 (G : tf_G) (nR : Nat) (ad : Nat → Nat) (f : Nat → Int32) : pf G nR ad 18 f = .inl (G.2.1 0, 6, .inl f) := rfl
theorem pf_19 (G : tf_G) (nR : Nat) (ad : Nat → Nat) (f : Nat → Int32) : pf G nR ad 19 f = .inl (G.2.1 0, 6, .inl f) := rfl
theorem pf_20 (G : tf_G) (nR : Nat) (ad : Nat → Nat) (f : Nat → Int32) : pf G nR ad 20 f = .inl (G.2.1 0, 6, .inl f) := rfl
theorem pf_21 (G : tf_G) (nR : Nat) (ad : Nat → Nat) (f : Nat → Int32) : pf G nR ad 21 f = .inr (5, [.ref (ad 22), .ref (ad 23), .ref (ad 24), .ref (ad 25), .int (f 4), .int (f 5)]) := rfl
theorem pf_22 (G : tf_G) (nR : Nat) (ad : Nat → Nat) (f : Nat → Int32) : pf G nR ad 22 f = .inl (G.2.1 0, 6, .inl f) := rfl
theorem pf_23 (G : tf_G) (nR : Nat) (ad : Nat → Nat) (f : Nat → Int32) : pf G nR ad 23 f = .inl (G.2.1 0, 6, .inl f) := rfl
theorem pf_24 (G : tf_G) (nR : Nat) (ad : Nat → Nat) (f : Nat → Int32) : pf G nR ad 24 f = .inl (G.2.1 0, 6, .inl f) := rfl
theorem pf_25 (G : tf_G) (nR : Nat) (ad : Nat → Nat) (f : Nat → Int32) : pf G nR ad 25 f = .inl (G.2.1 0, 64, .inl f) := rfl
theorem pf_30 (G : tf_G) (nR : Nat) (ad : Nat → Nat) (f : Nat → Int32) : pf G nR ad 30 f = .inr (10, [.int (f 0), .ref (ad 31), .ref (ad 32), .int (f 3), .int (f 4), .int (f 5), .int (f 6), .int (f 7), .int (f 8), .ref (ad 39), .ref (ad 40), .ref (ad 41), .ref (ad 42), .ref (ad 43), .ref (ad 44), .ref (ad 45), .ref (ad 46), .ref (ad 47), .ref (ad 48), .ref (ad 49), .ref (ad 50), .ref (ad 51), .ref (ad 52), .ref (ad 53), .ref (ad 54), .ref (ad 55), .ref (ad 56), .ref (ad 57), .ref (ad 58), .int (f 29), .int (f 30), .int (f 31), .int (f 32), .int (f 33), .ref (ad 64), .ref (ad 65), .ref (ad 66), .ref (ad 67), .ref (ad 68), .int (f 39), .int (f 40), .ref (ad 71), .ref (ad 72), .ref (ad 73), .ref (ad 74)]) := rfl
theorem pf_31 (G : tf_G) (nR : Nat) (ad : Nat → Nat) (f : Nat → Int32) : pf G nR ad 31 f = .inl (G.2.1 0, 12, .inl f) := rfl
theorem pf_32 (G : tf_G) (nR : Nat) (ad : Nat → Nat) (f : Nat → Int32) : pf G nR ad 32 f = .inl (G.2.1 0, 11, .inl f) := rfl
theorem pf_39 (G : tf_G) (nR : Nat) (ad : Nat → Nat) (f : Nat → Int32) : pf G nR ad 39 f = .inl (G.2.1 0, 4, .inl f) := rfl
theorem pf_40 (G : tf_G) (nR : Nat) (ad : Nat → Nat) (f : Nat → Int32) : pf G nR ad 40 f = .inl (G.2.1 0, 4, .inl f) := rfl
theorem pf_41 (G : tf_G) (nR : Nat) (ad : Nat → Nat) (f : Nat → Int32) : pf G nR ad 41 f = .inl (G.2.1 0, 4, .inl f) := rfl
theorem pf_42 (G : tf_G) (nR : Nat) (ad : Nat → Nat) (f : Nat → Int32) : pf G nR ad 42 f = .inl (G.2.1 0, 12, .inl f) := rfl
theorem pf_43 (G : tf_G) (nR : Nat) (ad : Nat → Nat) (f : Nat → Int32) : pf G nR ad 43 f = .inl (G.2.1 0, 12, .inl f) := rfl
theorem pf_44 (G : tf_G) (nR : Nat) (ad : Nat → Nat) (f : Nat → Int32) : pf G nR ad 44 f = .inl (G.2.1 0, 12, .inl f) := rfl
theorem pf_45 (G : tf_G) (nR : Nat) (ad : Nat → Nat) (f : Nat → Int32) : pf G nR ad 45 f = .inl (G.2.1 0, 12, .inl f) := rfl
theorem pf_46 (G : tf_G) (nR : Nat) (ad : Nat → Nat) (f : Nat → Int32) : pf G nR ad 46 f = .inl (G.2.1 0, 12, .inl f) := rfl
theorem pf_47 (G : tf_G) (nR : Nat) (ad : Nat → Nat) (f : Nat → Int32) : pf G nR ad 47 f = .inl (G.2.1 0, 12, .inl f) := rfl
theorem pf_48 (G : tf_G) (nR : Nat) (ad : Nat → Nat) (f : Nat → Int32) : pf G nR ad 48 f = .inl (G.2.1 0, 12, .inl f) := rfl
theorem pf_49 (G : tf_G) (nR : Nat) (ad : Nat → Nat) (f : Nat → Int32) : pf G nR ad 49 f = .inl (G.2.1 0, 12, .inl f) := rfl
theorem pf_50 (G : tf_G) (nR : Nat) (ad : Nat → Nat) (f : Nat → Int32) : pf G nR ad 50 f = .inl (G.2.1 0, 12, .inl f) := rfl
theorem pf_51 (G : tf_G) (nR : Nat) (ad : Nat → Nat) (f : Nat → Int32) : pf G nR ad 51 f = .inl (G.2.1 2, 12, .inl f) := rfl
theorem pf_52 (G : tf_G) (nR : Nat) (ad : Nat → Nat) (f : Nat → Int32) : pf G nR ad 52 f = .inl (G.2.1 0, 144, .inl f) := rfl
theorem pf_53 (G : tf_G) (nR : Nat) (ad : Nat → Nat) (f : Nat → Int32) : pf G nR ad 53 f = .inl (G.2.1 0, 60, .inl f) := rfl
theorem pf_54 (G : tf_G) (nR : Nat) (ad : Nat → Nat) (f : Nat → Int32) : pf G nR ad 54 f = .inl (G.2.1 0, 6, .inl f) := rfl
theorem pf_55 (G : tf_G) (nR : Nat) (ad : Nat → Nat) (f : Nat → Int32) : pf G nR ad 55 f = .inl (G.2.1 0, 6, .inl f) := rfl
theorem pf_56 (G : tf_G) (nR : Nat) (ad : Nat → Nat) (f : Nat → Int32) : pf G nR ad 56 f = .inl (G.2.1 0, 6, .inl f) := rfl
theorem pf_57 (G : tf_G) (nR : Nat) (ad : Nat → Nat) (f : Nat → Int32) : pf G nR ad 57 f = .inl (G.2.1 1, 400, .inl f) := rfl
theorem pf_58 (G : tf_G) (nR : Nat) (ad : Nat → Nat) (f : Nat → Int32) : pf G nR ad 58 f = .inl (G.2.1 1, 400, .inl f) := rfl
theorem pf_64 (G : tf_G) (nR : Nat) (ad : Nat → Nat) (f : Nat → Int32) : pf G nR ad 64 f = .inl (G.2.1 0, 11, .inl f) := rfl
theorem pf_65 (G : tf_G) (nR : Nat) (ad : Nat → Nat) (f : Nat → Int32) : pf G nR ad 65 f = .inl (G.2.1 0, 11, .inl f) := rfl
theorem pf_66 (G : tf_G) (nR : Nat) (ad : Nat → Nat) (f : Nat → Int32) : pf G nR ad 66 f = .inl (G.2.1 0, 176, .inl f) := rfl
theorem pf_67 (G : tf_G) (nR : Nat) (ad : Nat → Nat) (f : Nat → Int32) : pf G nR ad 67 f = .inl (G.2.1 0, 176, .inl f) := rfl
theorem pf_68 (G : tf_G) (nR : Nat) (ad : Nat → Nat) (f : Nat → Int32) : pf G nR ad 68 f = .inl (G.2.1 0, 176, .inl f) := rfl
theorem pf_71 (G : tf_G) (nR : Nat) (ad : Nat → Nat) (f : Nat → Int32) : pf G nR ad 71 f = .inl (G.2.1 2, 12, .inl f) := rfl
theorem pf_72 (G : tf_G) (nR : Nat) (ad : Nat → Nat) (f : Nat → Int32) : pf G nR ad 72 f = .inl (G.2.1 0, 6, .inl f) := rfl
theorem pf_73 (G : tf_G) (nR : Nat) (ad : Nat → Nat) (f : Nat → Int32) : pf G nR ad 73 f = .inl (G.2.1 0, 6, .inl f) := rfl
theorem pf_74 (G : tf_G) (nR : Nat) (ad : Nat → Nat) (f : Nat → Int32) : pf G nR ad 74 f = .inl (G.2.1 0, 6, .inl f) := rfl
theorem pf_sq (G : tf_G) (nR : Nat) (ad : Nat → Nat) (f : Nat → Int32) {i : Nat} (hi : i < 100) : pf G nR ad (100 + i) f = .inr (6, [.int (f 0), .int (f 1), .int (f 2), .int (f 3), .ref (ad (200 + i)), .ref (ad (300 + i)), .int (f 6), .int (f 7), .int (f 8), .int (f 9), .int (f 10), .int (f 11)]) := by
  have h1 : ¬ 100 + i < 26 := by omega
  have h2 : ¬ 100 + i < 100 := by omega
  have h3 : 100 + i < 200 := by omega
  rw [pf, if_neg h1, if_neg h2, if_pos h3, show 100 + i + 100 = 200 + i by omega, show 100 + i + 200 = 300 + i by omega]
theorem pf_sd (G : tf_G) (nR : Nat) (ad : Nat → Nat) (f : Nat → Int32) {i : Nat} (hi : i < 100) : pf G nR ad (200 + i) f = .inl (G.2.1 0, nR, .inl f) := by
  rw [pf, if_neg (by omega), if_neg (by omega), if_neg (by omega), if_pos (by omega)]
theorem pf_sc (G : tf_G) (nR : Nat) (ad : Nat → Nat) (f : Nat → Int32) {i : Nat} (hi : i < 100) : pf G nR ad (300 + i) f = .inl (G.2.1 0, 4, .inl f) := by
  rw [pf, if_neg (by omega), if_neg (by omega), if_neg (by omega), if_neg (by omega), if_pos (by omega)]
theorem pf_st (G : tf_G) (nR : Nat) (ad : Nat → Nat) (f : Nat → Int32) {i : Nat} (hi : i < 100) : pf G nR ad (400 + i) f = .inr (7, [.int (f 0), .int (f 1), .ref (ad (500 + i)), .int (f 3), .int (f 4), .int (f 5), .int (f 6)]) := by
  rw [pf, if_neg (by omega), if_neg (by omega), if_neg (by omega), if_neg (by omega), if_neg (by omega), if_pos (by omega), show 400 + i + 100 = 500 + i by omega]
theorem pf_sa (G : tf_G) (nR : Nat) (ad : Nat → Nat) (f : Nat → Int32) {i : Nat} (hi : i < 100) : pf G nR ad (500 + i) f = .inl (G.2.1 0, nR, .inl f) := by
  rw [pf, if_neg (by omega), if_neg (by omega), if_neg (by omega), if_neg (by omega), if_neg (by omega), if_neg (by omega)]
theorem sw_3 (x : Int32) : x = 0 ∨ x = 1 ∨ x = 2 ∨ x = 3 ∨ ((x.toInt < 0 ∨ 3 < x.toInt) ∧ ¬ x = 0 ∧ ¬ x = 1 ∧ ¬ x = 2 ∧ ¬ x = 3) := by
  have key : ∀ k : Int32, x.toInt = k.toInt → x = k := fun k h => Int32.toInt_inj.mp h
  have h9 : x.toInt = 0 ∨ x.toInt = 1 ∨ x.toInt = 2 ∨ x.toInt = 3 ∨ (x.toInt < 0 ∨ 3 < x.toInt) := by omega
  rcases h9 with h | h | h | h | h
  · exact Or.inl (key 0 h)
  · exact Or.inr (Or.inl (key 1 h))
  · exact Or.inr (Or.inr (Or.inl (key 2 h)))
  · exact Or.inr (Or.inr (Or.inr (Or.inl (key 3 h))))
  · exact Or.inr (Or.inr (Or.inr (Or.inr (⟨h, fun q => by rw [q] at h; revert h; decide, fun q => by rw [q] at h; revert h; decide, fun q => by rw [q] at h; revert h; decide, fun q => by rw [q] at h; revert h; decide⟩))))
theorem sw_4 (x : Int32) : x = 0 ∨ x = 1 ∨ x = 2 ∨ x = 3 ∨ x = 4 ∨ ((x.toInt < 0 ∨ 4 < x.toInt) ∧ ¬ x = 0 ∧ ¬ x = 1 ∧ ¬ x = 2 ∧ ¬ x = 3 ∧ ¬ x = 4) := by
  have key : ∀ k : Int32, x.toInt = k.toInt → x = k := fun k h => Int32.toInt_inj.mp h
  have h9 : x.toInt = 0 ∨ x.toInt = 1 ∨ x.toInt = 2 ∨ x.toInt = 3 ∨ x.toInt = 4 ∨ (x.toInt < 0 ∨ 4 < x.toInt) := by omega
  rcases h9 with h | h | h | h | h | h
  · exact Or.inl (key 0 h)
  · exact Or.inr (Or.inl (key 1 h))
  · exact Or.inr (Or.inr (Or.inl (key 2 h)))
  · exact Or.inr (Or.inr (Or.inr (Or.inl (key 3 h))))
  · exact Or.inr (Or.inr (Or.inr (Or.inr (Or.inl (key 4 h)))))
  · exact Or.inr (Or.inr (Or.inr (Or.inr (Or.inr (⟨h, fun q => by rw [q] at h; revert h; decide, fun q => by rw [q] at h; revert h; decide, fun q => by rw [q] at h; revert h; decide, fun q => by rw [q] at h; revert h; decide, fun q => by rw [q] at h; revert h; decide⟩)))))
theorem sw_5 (x : Int32) : x = 0 ∨ x = 1 ∨ x = 2 ∨ x = 3 ∨ x = 4 ∨ x = 5 ∨ ((x.toInt < 0 ∨ 5 < x.toInt) ∧ ¬ x = 0 ∧ ¬ x = 1 ∧ ¬ x = 2 ∧ ¬ x = 3 ∧ ¬ x = 4 ∧ ¬ x = 5) := by
  have key : ∀ k : Int32, x.toInt = k.toInt → x = k := fun k h => Int32.toInt_inj.mp h
  have h9 : x.toInt = 0 ∨ x.toInt = 1 ∨ x.toInt = 2 ∨ x.toInt = 3 ∨ x.toInt = 4 ∨ x.toInt = 5 ∨ (x.toInt < 0 ∨ 5 < x.toInt) := by omega
  rcases h9 with h | h | h | h | h | h | h
  · exact Or.inl (key 0 h)
  · exact Or.inr (Or.inl (key 1 h))
  · exact Or.inr (Or.inr (Or.inl (key 2 h)))
  · exact Or.inr (Or.inr (Or.inr (Or.inl (key 3 h))))
  · exact Or.inr (Or.inr (Or.inr (Or.inr (Or.inl (key 4 h)))))
  · exact Or.inr (Or.inr (Or.inr (Or.inr (Or.inr (Or.inl (key 5 h))))))
  · exact Or.inr (Or.inr (Or.inr (Or.inr (Or.inr (Or.inr (⟨h, fun q => by rw [q] at h; revert h; decide, fun q => by rw [q] at h; revert h; decide, fun q => by rw [q] at h; revert h; decide, fun q => by rw [q] at h; revert h; decide, fun q => by rw [q] at h; revert h; decide, fun q => by rw [q] at h; revert h; decide⟩))))))
theorem sw_6 (x : Int32) : x = 0 ∨ x = 1 ∨ x = 2 ∨ x = 3 ∨ x = 4 ∨ x = 5 ∨ x = 6 ∨ ((x.toInt < 0 ∨ 6 < x.toInt) ∧ ¬ x = 0 ∧ ¬ x = 1 ∧ ¬ x = 2 ∧ ¬ x = 3 ∧ ¬ x = 4 ∧ ¬ x = 5 ∧ ¬ x = 6) := by
  have key : ∀ k : Int32, x.toInt = k.toInt → x = k := fun k h => Int32.toInt_inj.mp h
  have h9 : x.toInt = 0 ∨ x.toInt = 1 ∨ x.toInt = 2 ∨ x.toInt = 3 ∨ x.toInt = 4 ∨ x.toInt = 5 ∨ x.toInt = 6 ∨ (x.toInt < 0 ∨ 6 < x.toInt) := by omega
  rcases h9 with h | h | h | h | h | h | h | h
  · exact Or.inl (key 0 h)
  · exact Or.inr (Or.inl (key 1 h))
  · exact Or.inr (Or.inr (Or.inl (key 2 h)))
  · exact Or.inr (Or.inr (Or.inr (Or.inl (key 3 h))))
  · exact Or.inr (Or.inr (Or.inr (Or.inr (Or.inl (key 4 h)))))
  · exact Or.inr (Or.inr (Or.inr (Or.inr (Or.inr (Or.inl (key 5 h))))))
  · exact Or.inr (Or.inr (Or.inr (Or.inr (Or.inr (Or.inr (Or.inl (key 6 h)))))))
  · exact Or.inr (Or.inr (Or.inr (Or.inr (Or.inr (Or.inr (Or.inr (⟨h, fun q => by rw [q] at h; revert h; decide, fun q => by rw [q] at h; revert h; decide, fun q => by rw [q] at h; revert h; decide, fun q => by rw [q] at h; revert h; decide, fun q => by rw [q] at h; revert h; decide, fun q => by rw [q] at h; revert h; decide, fun q => by rw [q] at h; revert h; decide⟩)))))))
theorem sw_23 (x : Int32) : x = 0 ∨ x = 1 ∨ x = 2 ∨ x = 3 ∨ x = 4 ∨ x = 5 ∨ x = 6 ∨ x = 7 ∨ x = 8 ∨ x = 9 ∨ x = 10 ∨ x = 11 ∨ x = 12 ∨ x = 13 ∨ x = 14 ∨ x = 15 ∨ x = 16 ∨ x = 17 ∨ x = 18 ∨ x = 19 ∨ x = 20 ∨ x = 21 ∨ x = 22 ∨ x = 23 ∨ ((x.toInt < 0 ∨ 23 < x.toInt) ∧ ¬ x = 0 ∧ ¬ x = 1 ∧ ¬ x = 2 ∧ ¬ x = 3 ∧ ¬ x = 4 ∧ ¬ x = 5 ∧ ¬ x = 6 ∧ ¬ x = 7 ∧ ¬ x = 8 ∧ ¬ x = 9 ∧ ¬ x = 10 ∧ ¬ x = 11 ∧ ¬ x = 12 ∧ ¬ x = 13 ∧ ¬ x = 14 ∧ ¬ x = 15 ∧ ¬ x = 16 ∧ ¬ x = 17 ∧ ¬ x = 18 ∧ ¬ x = 19 ∧ ¬ x = 20 ∧ ¬ x = 21 ∧ ¬ x = 22 ∧ ¬ x = 23) := by
  have key : ∀ k : Int32, x.toInt = k.toInt → x = k := fun k h => Int32.toInt_inj.mp h
  have h9 : x.toInt = 0 ∨ x.toInt = 1 ∨ x.toInt = 2 ∨ x.toInt = 3 ∨ x.toInt = 4 ∨ x.toInt = 5 ∨ x.toInt = 6 ∨ x.toInt = 7 ∨ x.toInt = 8 ∨ x.toInt = 9 ∨ x.toInt = 10 ∨ x.toInt = 11 ∨ x.toInt = 12 ∨ x.toInt = 13 ∨ x.toInt = 14 ∨ x.toInt = 15 ∨ x.toInt = 16 ∨ x.toInt = 17 ∨ x.toInt = 18 ∨ x.toInt = 19 ∨ x.toInt = 20 ∨ x.toInt = 21 ∨ x.toInt = 22 ∨ x.toInt = 23 ∨ (x.toInt < 0 ∨ 23 < x.toInt) := by omega
  rcases h9 with h | h | h | h | h | h | h | h | h | h | h | h | h | h | h | h | h | h | h | h | h | h | h | h | h
  · exact Or.inl (key 0 h)
  · exact Or.inr (Or.inl (key 1 h))
  · exact Or.inr (Or.inr (Or.inl (key 2 h)))
  · exact Or.inr (Or.inr (Or.inr (Or.inl (key 3 h))))
  · exact Or.inr (Or.inr (Or.inr (Or.inr (Or.inl (key 4 h)))))
  · exact Or.inr (Or.inr (Or.inr (Or.inr (Or.inr (Or.inl (key 5 h))))))
  · exact Or.inr (Or.inr (Or.inr (Or.inr (Or.inr (Or.inr (Or.inl (key 6 h)))))))
  · exact Or.inr (Or.inr (Or.inr (Or.inr (Or.inr (Or.inr (Or.inr (Or.inl (key 7 h))))))))
  · exact Or.inr (Or.inr (Or.inr (Or.inr (Or.inr (Or.inr (Or.inr (Or.inr (Or.inl (key 8 h)))))))))
  · exact Or.inr (Or.inr (Or.inr (Or.inr (Or.inr (Or.inr (Or.inr (Or.inr (Or.inr (Or.inl (key 9 h))))))))))
  · exact Or.inr (Or.inr (Or.inr (Or.inr (Or.inr (Or.inr (Or.inr (Or.inr (Or.inr (Or.inr (Or.inl (key 10 h)))))))))))
  · exact Or.inr (Or.inr (Or.inr (Or.inr (Or.inr (Or.inr (Or.inr (Or.inr (Or.inr (Or.inr (Or.inr (Or.inl (key 11 h))))))))))))
  · exact Or.inr (Or.inr (Or.inr (Or.inr (Or.inr (Or.inr (Or.inr (Or.inr (Or.inr (Or.inr (Or.inr (Or.inr (Or.inl (key 12 h)))))))))))))
  · exact Or.inr (Or.inr (Or.inr (Or.inr (Or.inr (Or.inr (Or.inr (Or.inr (Or.inr (Or.inr (Or.inr (Or.inr (Or.inr (Or.inl (key 13 h))))))))))))))
  · exact Or.inr (Or.inr (Or.inr (Or.inr (Or.inr (Or.inr (Or.inr (Or.inr (Or.inr (Or.inr (Or.inr (Or.inr (Or.inr (Or.inr (Or.inl (key 14 h)))))))))))))))
  · exact Or.inr (Or.inr (Or.inr (Or.inr (Or.inr (Or.inr (Or.inr (Or.inr (Or.inr (Or.inr (Or.inr (Or.inr (Or.inr (Or.inr (Or.inr (Or.inl (key 15 h))))))))))))))))
  · exact Or.inr (Or.inr (Or.inr (Or.inr (Or.inr (Or.inr (Or.inr (Or.inr (Or.inr (Or.inr (Or.inr (Or.inr (Or.inr (Or.inr (Or.inr (Or.inr (Or.inl (key 16 h)))))))))))))))))
  · exact Or.inr (Or.inr (Or.inr (Or.inr (Or.inr (Or.inr (Or.inr (Or.inr (Or.inr (Or.inr (Or.inr (Or.inr (Or.inr (Or.inr (Or.inr (Or.inr (Or.inr (Or.inl (key 17 h))))))))))))))))))
  · exact Or.inr (Or.inr (Or.inr (Or.inr (Or.inr (Or.inr (Or.inr (Or.inr (Or.inr (Or.inr (Or.inr (Or.inr (Or.inr (Or.inr (Or.inr (Or.inr (Or.inr (Or.inr (Or.inl (key 18 h)))))))))))))))))))
  · exact Or.inr (Or.inr (Or.inr (Or.inr (Or.inr (Or.inr (Or.inr (Or.inr (Or.inr (Or.inr (Or.inr (Or.inr (Or.inr (Or.inr (Or.inr (Or.inr (Or.inr (Or.inr (Or.inr (Or.inl (key 19 h))))))))))))))))))))
  · exact Or.inr (Or.inr (Or.inr (Or.inr (Or.inr (Or.inr (Or.inr (Or.inr (Or.inr (Or.inr (Or.inr (Or.inr (Or.inr (Or.inr (Or.inr (Or.inr (Or.inr (Or.inr (Or.inr (Or.inr (Or.inl (key 20 h)))))))))))))))))))))
  · exact Or.inr (Or.inr (Or.inr (Or.inr (Or.inr (Or.inr (Or.inr (Or.inr (Or.inr (Or.inr (Or.inr (Or.inr (Or.inr (Or.inr (Or.inr (Or.inr (Or.inr (Or.inr (Or.inr (Or.inr (Or.inr (Or.inl (key 21 h))))))))))))))))))))))
  · exact Or.inr (Or.inr (Or.inr (Or.inr (Or.inr (Or.inr (Or.inr (Or.inr (Or.inr (Or.inr (Or.inr (Or.inr (Or.inr (Or.inr (Or.inr (Or.inr (Or.inr (Or.inr (Or.inr (Or.inr (Or.inr (Or.inr (Or.inl (key 22 h)))))))))))))))))))))))
  · exact Or.inr (Or.inr (Or.inr (Or.inr (Or.inr (Or.inr (Or.inr (Or.inr (Or.inr (Or.inr (Or.inr (Or.inr (Or.inr (Or.inr (Or.inr (Or.inr (Or.inr (Or.inr (Or.inr (Or.inr (Or.inr (Or.inr (Or.inr (Or.inl (key 23 h))))))))))))))))))))))))
  · exact Or.inr (Or.inr (Or.inr (Or.inr (Or.inr (Or.inr (Or.inr (Or.inr (Or.inr (Or.inr (Or.inr (Or.inr (Or.inr (Or.inr (Or.inr (Or.inr (Or.inr (Or.inr (Or.inr (Or.inr (Or.inr (Or.inr (Or.inr (Or.inr (⟨h, fun q => by rw [q] at h; revert h; decide, fun q => by rw [q] at h; revert h; decide, fun q => by rw [q] at h; revert h; decide, fun q => by rw [q] at h; revert h; decide, fun q => by rw [q] at h; revert h; decide, fun q => by rw [q] at h; revert h; decide, fun q => by rw [q] at h; revert h; decide, fun q => by rw [q] at h; revert h; decide, fun q => by rw [q] at h; revert h; decide, fun q => by rw [q] at h; revert h; decide, fun q => by rw [q] at h; revert h; decide, fun q => by rw [q] at h; revert h; decide, fun q => by rw [q] at h; revert h; decide, fun q => by rw [q] at h; revert h; decide, fun q => by rw [q] at h; revert h; decide, fun q => by rw [q] at h; revert h; decide, fun q => by rw [q] at h; revert h; decide, fun q => by rw [q] at h; revert h; decide, fun q => by rw [q] at h; revert h; decide, fun q => by rw [q] at h; revert h; decide, fun q => by rw [q] at h; revert h; decide, fun q => by rw [q] at h; revert h; decide, fun q => by rw [q] at h; revert h; decide, fun q => by rw [q] at h; revert h; decide⟩))))))))))))))))))))))))
abbrev tf_M : Type := Nat → Nat → Int32
def pw (G : tf_G) (nR : Nat) (ad : Nat → Nat) (S : tf_M) : Nat → va_E := fun j => pf G nR ad j (S j)
def s2 (S : tf_M) (j k : Nat) (v : Int32) : tf_M := tf_u S j (upd (S j) k v)
theorem pw_up {G : tf_G} {nR : Nat} {ad : Nat → Nat} {S : tf_M} {j k : Nat} {v : Int32} {x : va_E} (h : pf G nR ad j (upd (S j) k v) = x) : tf_u (pw G nR ad S) j x = pw G nR ad (s2 S j k v) := by
  funext i
  by_cases hi : i = j
  · subst hi
    simp [tf_u, pw, s2, h]
  · simp [tf_u, pw, s2, hi]
def bI (b : Bool) : Int32 := if b = true then 1 else 0
theorem bI_t : bI true = 1 := rfl
theorem bI_f : bI false = 0 := rfl
theorem bI_0 {b : Bool} : (bI b = 0) = (b = false) := by cases b <;> simp [bI]
theorem bI_z {b : Bool} (h : bI b = 0) : b = false := by cases b <;> simp_all [bI]
theorem bI_nz {b : Bool} (h : ¬ bI b = 0) : b = true := by cases b <;> simp_all [bI]
theorem bI_01 (b : Bool) : bI b = 0 ∨ bI b = 1 := by cases b <;> simp [bI]
section XS
variable {p : Program} {l : Launch} {e : Env} {R : Room} {s : State} {m : MethodId} {args : Array Value} {below : List Frame} {meth : Method} {c : Code} {G : tf_G} {A : Nat → Prop} {LL : List Nat} {ad : Nat → Nat} {Q : State → Prop} {nL cells slots : Nat} {cc : ByteArray} {own : String} {Ts : List Cond} {pc : Nat} {L : List (Nat × Value)} {st : List Value} {nR : Nat} {S : tf_M}

theorem y_put (C : Cx p s m args meth c cc nL own Ts G A LL ad) {ref Cn : String} {T : u_T} {N ci index : Nat} {fs : List Value} {v : Int32} {ty : FieldType} (j k0 : Nat) (hin : ∀ w ∈ u_ws Cn T N, w ∈ Ts) (ty0 : Nat → FieldType) (hty : ∀ k, k < N → parseFieldDescriptor (T k).2.2.1 = some (ty0 k)) (hnm : ∀ a, a < N → ∀ b, b < N → a ≠ b → (T a).2.1 ≠ (T b).2.1) (hm : j ∈ LL) (hO : pf G nR ad j (S j) = .inr (ci, fs)) (hO2 : pf G nR ad j (upd (S j) k0 v) = .inr (ci, fs.set k0 (.int v))) (hc : vwCl[ci]? = some (Cn, T, N)) (hk : k0 < N) (hlink : Cond.fieldLink own index ref (T k0).2.1 (T k0).2.2.1 ∈ Ts) (href : (T k0).1 = ref) (hfin : (T k0).2.2.2 = false) (hd : parseFieldDescriptor (T k0).2.2.1 = some ty) (hn : narrow ty (.int v) = .int v) (hfit : fits ty (.int v) = true) (hl0 : k0 < fs.length) (hdg : decode cc pc = .ok (.putfield index, 3)) (k : XJ p l e R s m args below meth c G A LL ad Q nL cells slots (pw G nR ad (s2 S j k0 v)) (pc + 3) L (st)) : XJ p l e R s m args below meth c G A LL ad Q nL cells slots (pw G nR ad S) (pc) L (.int v :: .ref (ad j) :: st) := by
  refine x_put C j k0 hin ty0 hty hnm hm hO hc hk hlink href hfin hd hn hfit hl0 hdg ?_
  rw [pw_up hO2]
  exact k
theorem y_iast (C : Cx p s m args meth c cc nL own Ts G A LL ad) {n : Nat} {i x : Int32} {kk : Nat} (j : Nat) (hm : j ∈ LL) (hO : ∀ f, pf G nR ad j f = .inl (G.2.1 0, n, .inl f)) (hin : vp_in i n) (hkk : i.toNatClampNeg = kk) (hdg : decode cc pc = .ok (.iastore, 1)) (k : XJ p l e R s m args below meth c G A LL ad Q nL cells slots (pw G nR ad (s2 S j kk x)) (pc + 1) L (st)) : XJ p l e R s m args below meth c G A LL ad Q nL cells slots (pw G nR ad S) (pc) L (.int x :: .int i :: .ref (ad j) :: st) := by
  subst hkk
  refine x_iast C j hm (hO (S j)) hin hdg ?_
  rw [pw_up (hO _)]
  exact k
theorem y_bast (C : Cx p s m args meth c cc nL own Ts G A LL ad) {n : Nat} {i x : Int32} {kk : Nat} (j : Nat) (hm : j ∈ LL) (hO : ∀ f, pf G nR ad j f = .inl (G.2.1 1, n, .inl f)) (hin : vp_in i n) (hkk : i.toNatClampNeg = kk) (hdg : decode cc pc = .ok (.bastore, 1)) (k : XJ p l e R s m args below meth c G A LL ad Q nL cells slots (pw G nR ad (s2 S j kk (vp_nar .byte x))) (pc + 1) L (st)) : XJ p l e R s m args below meth c G A LL ad Q nL cells slots (pw G nR ad S) (pc) L (.int x :: .int i :: .ref (ad j) :: st) := by
  subst hkk
  refine x_bast C j hm (hO (S j)) hin hdg ?_
  rw [pw_up (hO _)]
  exact k
theorem y_zast (C : Cx p s m args meth c cc nL own Ts G A LL ad) {n : Nat} {i x : Int32} {kk : Nat} (j : Nat) (hm : j ∈ LL) (hO : ∀ f, pf G nR ad j f = .inl (G.2.1 2, n, .inl f)) (hin : vp_in i n) (hkk : i.toNatClampNeg = kk) (hdg : decode cc pc = .ok (.bastore, 1)) (k : XJ p l e R s m args below meth c G A LL ad Q nL cells slots (pw G nR ad (s2 S j kk (vp_nar .boolean x))) (pc + 1) L (st)) : XJ p l e R s m args below meth c G A LL ad Q nL cells slots (pw G nR ad S) (pc) L (.int x :: .int i :: .ref (ad j) :: st) := by
  subst hkk
  refine x_zast C j hm (hO (S j)) hin hdg ?_
  rw [pw_up (hO _)]
  exact k
theorem y_aast8 (C : Cx p s m args meth c cc nL own Ts G A LL ad) {i : Int32} {kk ci : Nat} {r : vw_C} {vs : List Value} (hm : 8 ∈ LL) (hmv : 100 + kk ∈ LL) (ht : (tf_tys G.2.1)[3]? = some (G.2.1 3, .object r.1)) (hOv : pf G nR ad (100 + kk) (S (100 + kk)) = .inr (ci, vs)) (hc : vwCl[ci]? = some r) (hin : vp_in i 12) (hkk : i.toNatClampNeg = kk) (hdg : decode cc pc = .ok (.aastore, 1)) (k : XJ p l e R s m args below meth c G A LL ad Q nL cells slots (pw G nR ad (s2 S 8 kk 1)) (pc + 1) L (st)) : XJ p l e R s m args below meth c G A LL ad Q nL cells slots (pw G nR ad S) (pc) L (.ref (ad (100 + kk)) :: .int i :: .ref (ad 8) :: st) := by
  subst hkk
  refine x_aast C 8 (100 + i.toNatClampNeg) 3 hm hmv (pf_8 G nR ad _) ht hOv hc hin hdg ?_
  rw [pw_up (S := S) (k := i.toNatClampNeg) (v := 1)]
  · exact k
  · rw [pf_8]
    congr 7
    funext q
    by_cases hq : q = i.toNatClampNeg
    · subst hq; simp [upd, va_up]
    · simp [upd, va_up, hq]
theorem y_aast14 (C : Cx p s m args meth c cc nL own Ts G A LL ad) {i : Int32} {kk ci : Nat} {r : vw_C} {vs : List Value} (hm : 14 ∈ LL) (hmv : 400 + kk ∈ LL) (ht : (tf_tys G.2.1)[4]? = some (G.2.1 4, .object r.1)) (hOv : pf G nR ad (400 + kk) (S (400 + kk)) = .inr (ci, vs)) (hc : vwCl[ci]? = some r) (hin : vp_in i 10) (hkk : i.toNatClampNeg = kk) (hdg : decode cc pc = .ok (.aastore, 1)) (k : XJ p l e R s m args below meth c G A LL ad Q nL cells slots (pw G nR ad (s2 S 14 kk 1)) (pc + 1) L (st)) : XJ p l e R s m args below meth c G A LL ad Q nL cells slots (pw G nR ad S) (pc) L (.ref (ad (400 + kk)) :: .int i :: .ref (ad 14) :: st) := by
  subst hkk
  refine x_aast C 14 (400 + i.toNatClampNeg) 4 hm hmv (pf_14 G nR ad _) ht hOv hc hin hdg ?_
  rw [pw_up (S := S) (k := i.toNatClampNeg) (v := 1)]
  · exact k
  · rw [pf_14]
    congr 7
    funext q
    by_cases hq : q = i.toNatClampNeg
    · subst hq; simp [upd, va_up]
    · simp [upd, va_up, hq]
end XS
end
section
/-! rows for text constants and statics -/
section XE
variable {p : Program} {l : Launch} {e : Env} {R : Room} {s : State} {m : MethodId} {args : Array Value} {below : List Frame} {meth : Method} {c : Code} {G : tf_G} {A : Nat → Prop} {LL : List Nat} {ad : Nat → Nat} {Q : State → Prop} {nL cells slots : Nat} {P : Nat → va_E} {cc : ByteArray} {own : String} {Ts : List Cond} {pc : Nat} {L : List (Nat × Value)} {st : List Value}
theorem x_gets (C : Cx p s m args meth c cc nL own Ts G A LL ad) {Cn n d : String} {v : Value} {index : Nat} (hZ : va_Z Cn n d v A s s.heap) (hlink : Cond.fieldLink own index Cn n d ∈ Ts) (hdg : decode cc pc = .ok (.getstatic index, 3)) (k : XJ p l e R s m args below meth c G A LL ad Q nL cells slots P (pc + 3) L (v :: st)) : XJ p l e R s m args below meth c G A LL ad Q nL cells slots P (pc) L (st) := fun H locs ls hP hS hl => va_gets C.1.1 C.1.2.1 hZ hS C.1.2.2.2.1 (C.1.2.2.2.2 _ hlink) (fun _ h => h) hdg (k H locs ls hP hS hl)
theorem x_strf (C : Cx p s m args meth c cc nL own Ts G A LL ad) {o n d : String} {v : Value} {index q : Nat} (hE : va_OF o n d v q A s s.heap) (hlink : Cond.fieldLink own index o n d ∈ Ts) (hdg : decode cc pc = .ok (.getfield index, 3)) (k : XJ p l e R s m args below meth c G A LL ad Q nL cells slots P (pc + 3) L (v :: st)) : XJ p l e R s m args below meth c G A LL ad Q nL cells slots P (pc) L (.ref q :: st) := fun H locs ls hP hS hl => vk_getf C.1.1 C.1.2.1 hE hS C.1.2.2.2.1 (C.1.2.2.2.2 _ hlink) (fun _ h => h) hdg (k H locs ls hP hS hl)
theorem x_tlen (C : Cx p s m args meth c cc nL own Ts G A LL ad) {t N : Nat} {f : Nat → Value} {ty : FieldType} {v : Int32} (hT : va_T ty t N f A s s.heap) (hv : Int32.ofNat N = v) (hdg : decode cc pc = .ok (.arraylength, 1)) (k : XJ p l e R s m args below meth c G A LL ad Q nL cells slots P (pc + 1) L (.int v :: st)) : XJ p l e R s m args below meth c G A LL ad Q nL cells slots P (pc) L (.ref t :: st) := fun H locs ls hP hS hl => va_tlen C.1.1 C.1.2.1 hT hS hv hdg (k H locs ls hP hS hl)
theorem x_tb (C : Cx p s m args meth c cc nL own Ts G A LL ad) {t N : Nat} {f : Nat → Value} {i : Int32} {v : Value} (hT : va_T .byte t N f A s s.heap) (hin : vp_in i N) (hv : f i.toNatClampNeg = v) (hdg : decode cc pc = .ok (.baload, 1)) (k : XJ p l e R s m args below meth c G A LL ad Q nL cells slots P (pc + 1) L (v :: st)) : XJ p l e R s m args below meth c G A LL ad Q nL cells slots P (pc) L (.int i :: .ref t :: st) := fun H locs ls hP hS hl => va_tb C.1.1 C.1.2.1 hT hS hin hv hdg (k H locs ls hP hS hl)
theorem x_i2c (C : Cx p s m args meth c cc nL own Ts G A LL ad) {x v : Int32} (hdg : decode cc pc = .ok (.i2c, 1)) (hv : (x.toUInt32 % 65536).toInt32 = v) (k : XJ p l e R s m args below meth c G A LL ad Q nL cells slots P (pc + 1) L (.int v :: st)) : XJ p l e R s m args below meth c G A LL ad Q nL cells slots P (pc) L (.int x :: st) := fun H locs ls hP hS hl => lv_i2c C.1.1 C.1.2.1 hdg hv (k H locs ls hP hS hl)
theorem x_ldc_w (C : Cx p s m args meth c cc nL own Ts G A LL ad) {index : Nat} {v : Int32} (hc : Cond.constant own index v ∈ Ts) (hdg : decode cc pc = .ok (.ldc_w index, 3)) (k : XJ p l e R s m args below meth c G A LL ad Q nL cells slots P (pc + 3) L (.int v :: st)) : XJ p l e R s m args below meth c G A LL ad Q nL cells slots P (pc) L (st) := fun H locs ls hP hS hl => lv_ldcw C.1.1 C.1.2.1 C.1.2.2.2.1 (C.1.2.2.2.2 _ hc) hdg (k H locs ls hP hS hl)
variable {σ : Type} {w : σ → Nat → va_E} {av As st0 : List Value} {y : MethodName} {ws ws' : List Cond} {rm : Room} {maxL : Nat} {ret : Option FieldType} {bytes : ByteArray} {n index : Nat} {Cn host : String}
theorem x_Wi {post : Int32 → σ → Prop} (i : Nat) (C : Cx p s m args meth c cc nL own Ts G A LL ad) (hi : i < 9) (hc : Ci l y ws rm G LL ad w P (.ref (G.2.2.1 i) :: As) post) (hG : GoodIn Ts (wsV own index "java/lang/String" y ws)) (hw : ws = Cond.code y bytes maxL ret :: ws') (hd : y.cls = "java/lang/String" ∧ y.cls ≠ "java/lang/invoke/MethodHandle" ∧ y.cls ≠ "java/lang/invoke/VarHandle" ∧ (parseMethodDescriptor y.desc).map (fun d => d.parameters.length) = some n) (hR : rm.frames + 1 ≤ R.frames ∧ 8 + (maxL + 11) + rm.locals ≤ R.locals) (hrm : cells + rm.cells ≤ R.cells ∧ slots + rm.slots ≤ R.slots) (hn : As.length = n) (hcat : (st.map fun v => v.category).sum ≤ 8) (hst : st0 = As.reverse ++ .ref (G.2.2.1 i) :: st) (hdg : decode cc pc = .ok (.invokevirtual index, 3)) (k : ∀ (r : Int32) (u : σ), post r u → XJ p l e R s m args below meth c G A LL ad Q nL (cells + rm.cells) (slots + rm.slots) (w u) (pc + 3) L (.int r :: st)) : XJ p l e R s m args below meth c G A LL ad Q nL cells slots P (pc) L (st0) := fun H locs ls hP hS hl => by
  subst hst
  have hF := wl_A (C.2.2.2.1 P) C.2.2.2.2 hS.1
  refine va_calli (va_runV (As := As) (rest := st) C.1 (hc H.size) (cwV n C.1.2.2.2.2 hG hw rfl rfl hd hR) ⟨tf_blind, vk_recv C.2.2.1.2.2.2.1.1 hi hS, fun U hU hW => ⟨rfl, tf_pre C hP hS hU hW⟩⟩ rfl hn hl.1 rfl (lv_room hcat) hdg hrm) hS (fun q _ h => hF q h) hF (fun r u t H1 locs1 ht hvm hw1 hB hz1 hk1 hS1 => ?_)
  exact k r u hw1 H1 locs1 ls (by rw [← ht]; exact hB) hS1 hl
theorem x_tret {post : Int32 → σ → Prop} (C : Cx p s m args meth c cc nL own Ts G A LL ad) {r : Int32} {ty : FieldType} (hr : meth.sig.returnType = some ty) (hz : narrow ty (.int r) = .int r) (u : σ) (hq : post r u) (hw : P = w u) (hdg : decode cc pc = .ok (.ireturn, 1)) : XJ p l e R s m args below meth c G A LL ad (MQ below (va_Qi post (tf_B G LL ad w) A) args s cells slots A) nL cells slots P pc L [.int r] := fun H locs ls hP hS hl => by
  subst hw
  exact W.zret (v := r) C.1.1 C.1.2.1 hr hz (fun t ht hW => ⟨⟨r, u, rfl, hq, by show va_P _ _ _ t.heap; rw [ht]; exact hP⟩, hS.F ht⟩) hS.2.2 hdg C.2.1
end XE
end
section
/-! methods that make cells -/
section XA
variable {p : Program} {l : Launch} {e : Env} {R : Room} {s : State} {m : MethodId} {args : Array Value} {below : List Frame} {meth : Method} {c : Code} {G : tf_G} {A : Nat → Prop} {LL : List Nat} {ad : Nat → Nat} {Q : State → Prop} {nL cells slots : Nat} {P : Nat → va_E} {cc : ByteArray} {own : String} {Ts : List Cond} {pc : Nat} {L : List (Nat × Value)} {st : List Value}
theorem Cx.to (C : Cx p s m args meth c cc nL own Ts G A LL ad) {LL1 : List Nat} {ad1 : Nat → Nat} {P1 : Nat → va_E} (h : va_D A (wl LL1 ad1 P1)) : Cx p s m args meth c cc nL own Ts G A LL1 ad1 := ⟨C.1, C.2.1, C.2.2.1, fun _ => wl_D h, C.2.2.2.2⟩
theorem x_obj (C : Cx p s m args meth c cc nL own Ts G A LL ad) {index j : Nat} (hlink : Cond.methodLink own index objectInit ∈ Ts) (hi : Cond.instanceMethod objectInit ∈ Ts) (hc : Cond.code objectInit ⟨#[0xb1]⟩ 1 none ∈ Ts) (hfr : 1 ≤ R.frames) (hloc : (st.map fun v => v.category).sum + 12 ≤ R.locals) (hdg : decode cc pc = .ok (.invokespecial index, 3)) (k : XJ p l e R s m args below meth c G A LL ad Q nL cells slots P (pc + 3) L (st)) : XJ p l e R s m args below meth c G A LL ad Q nL cells slots P (pc) L (.ref (ad j) :: st) := fun H locs ls hP hS hl => by
  refine W.objInit C.1.1 C.1.2.1 C.1.2.2.2.1 (C.1.2.2.2.2 _ hlink) (C.1.2.2.2.2 _ hi) (C.1.2.2.2.2 _ hc) rfl (hl.1.trans C.1.2.2.1.symm) rfl hdg hfr (by show 2 * 0 + _ + 12 ≤ _; omega) ?_
  exact k H locs ls hP hS hl
theorem x_new (C : Cx p s m args meth c cc nL own Ts G A LL ad) {Cn : String} {T : u_T} {N ci index : Nat} {fs : List Value} (j : Nat) (hin : ∀ w ∈ u_ws Cn T N, w ∈ Ts) (ty : Nat → FieldType) (hty : ∀ k, k < N → parseFieldDescriptor (T k).2.2.1 = some (ty k)) (hcl : Cond.classLink own index Cn ∈ Ts) (hinst : Cond.instantiable Cn N ∈ Ts) (hini : Cond.initialized Cn ∈ Ts) (hj : j ∉ LL) (hc : vwCl[ci]? = some (Cn, T, N)) (hfs : ∀ i, i < N → defaultValue (ty i) = vp_V fs i) (hcells : cells + 1 ≤ R.cells) (hslots : slots + N ≤ R.slots) (hdg : decode cc pc = .ok (.new index, 3)) (k : ∀ q : Nat, Cx p s m args meth c cc nL own Ts G A (LL ++ [j]) (tf_u ad j q) → XJ p l e R s m args below meth c G A (LL ++ [j]) (tf_u ad j q) Q nL (cells + 1) (slots + N) (tf_u P j (.inr (ci, fs))) (pc + 3) L (.ref (tf_u ad j q j) :: st)) : XJ p l e R s m args below meth c G A LL ad Q nL cells slots P (pc) L (st) := fun H locs ls hP hS hl => by
  refine va_new C.1.1 C.1.2.1 C.1.2.2.2.2 hin ty hty C.1.2.2.2.1 (C.1.2.2.2.2 _ hcl) (C.1.2.2.2.2 _ hinst) (C.1.2.2.2.2 _ hini) C.2.2.1.1 hP (C.2.2.2.1 P) hS C.2.2.2.2 hc hfs hcells hslots hdg (fun q H1 hP1 hD1 hS1 => ?_)
  rw [wl_push _ hj] at hP1 hD1
  have h9 := k q (C.to hD1) H1 locs ls hP1 hS1 hl
  rwa [show tf_u ad j q j = q by simp [tf_u]] at h9
theorem x_newa (C : Cx p s m args meth c cc nL own Ts G A LL ad) {atype : ArrayType} {ty : FieldType} {t0 : Nat} {cA : ClassId} {n : Int32} {N' : Nat} {f : Nat → Int32} (j : Nat) (harr : Cond.arrayClass (newarray.typeOf atype) ∈ Ts) (hty : newarray.typeOf atype = ty) (ht : (tf_tys G.2.1)[t0]? = some (cA, ty)) (hj : j ∉ LL) (ha : ∀ cA : ClassId, vp_cell cA (N', .inl f) = arrV cA N' (fun _ => defaultValue ty)) (hn : ¬ n < 0) (hN : n.toNatClampNeg = N') (hbytes : N' * componentBytes ty ≤ 536870912) (hcells : cells + 1 ≤ R.cells) (hslots : slots + N' ≤ R.slots) (hdg : decode cc pc = .ok (.newarray atype, 2)) (k : ∀ q : Nat, Cx p s m args meth c cc nL own Ts G A (LL ++ [j]) (tf_u ad j q) → XJ p l e R s m args below meth c G A (LL ++ [j]) (tf_u ad j q) Q nL (cells + 1) (slots + N') (tf_u P j (.inl (cA, N', .inl f))) (pc + 2) L (.ref (tf_u ad j q j) :: st)) : XJ p l e R s m args below meth c G A LL ad Q nL cells slots P (pc) L (.int n :: st) := fun H locs ls hP hS hl => by
  refine va_newa C.1.1 C.1.2.1 (C.1.2.2.2.2 _ harr) hty C.2.2.1.1 hP (C.2.2.2.1 P) hS C.2.2.2.2 ha hn hN hbytes hcells hslots hdg (fun q cB H1 hK1 hP1 hD1 hS1 => ?_)
  have e1 := (hK1.2 (tf_tys G.2.1).length (cB, ty) (by simp)).2
  have e2 := (C.2.2.1.1.2 t0 (cA, ty) ht).2
  have hcc : cB = cA := by
    unfold va_RA at e1 e2
    cases ty with
    | object Cn =>
      obtain ⟨_, _, _, _, _, g1⟩ := e1
      obtain ⟨_, _, _, _, _, g2⟩ := e2
      exact Option.some.inj (g1.symm.trans g2)
    | _ => exact Option.some.inj (e1.symm.trans e2)
  subst hcc
  rw [wl_push _ hj] at hP1 hD1
  have h9 := k q (C.to hD1) H1 locs ls hP1 hS1 hl
  rwa [show tf_u ad j q j = q by simp [tf_u]] at h9
theorem x_newq (C : Cx p s m args meth c cc nL own Ts G A LL ad) {Cn : String} {index t0 : Nat} {cA : ClassId} {n : Int32} {N' : Nat} (j : Nat) (hcl : Cond.classLink own index Cn ∈ Ts) (hover : va_AO Cn s) (ht : (tf_tys G.2.1)[t0]? = some (cA, .object Cn)) (hj : j ∉ LL) (hn : ¬ n < 0) (hN : n.toNatClampNeg = N') (hbytes : N' * 4 ≤ 536870912) (hcells : cells + 1 ≤ R.cells) (hslots : slots + N' ≤ R.slots) (hdg : decode cc pc = .ok (.anewarray index, 3)) (k : ∀ q : Nat, Cx p s m args meth c cc nL own Ts G A (LL ++ [j]) (tf_u ad j q) → XJ p l e R s m args below meth c G A (LL ++ [j]) (tf_u ad j q) Q nL (cells + 1) (slots + N') (tf_u P j (.inl (cA, N', .inr (.inr (.inr (.inr (fun _ => none))))))) (pc + 3) L (.ref (tf_u ad j q j) :: st)) : XJ p l e R s m args below meth c G A LL ad Q nL cells slots P (pc) L (.int n :: st) := fun H locs ls hP hS hl => by
  refine va_newq C.1.1 C.1.2.1 C.1.2.2.2.1 (C.1.2.2.2.2 _ hcl) hover C.2.2.1.1 hP (C.2.2.2.1 P) hS C.2.2.2.2 hn hN hbytes hcells hslots hdg (fun q cB H1 hK1 hP1 hD1 hS1 => ?_)
  obtain ⟨_, _, _, _, _, g1⟩ := (hK1.2 (tf_tys G.2.1).length (cB, .object Cn) (by simp)).2
  obtain ⟨_, _, _, _, _, g2⟩ := (C.2.2.1.1.2 t0 (cA, .object Cn) ht).2
  have hcc : cB = cA := Option.some.inj (g1.symm.trans g2)
  subst hcc
  rw [wl_push _ hj] at hP1 hD1
  have h9 := k q (C.to hD1) H1 locs ls hP1 hS1 hl
  rwa [show tf_u ad j q j = q by simp [tf_u]] at h9
def tf_BA (G : tf_G) (A : Nat → Prop) (LL : List Nat) (u : (Nat → Nat) × (Nat → va_E)) (t : State) : Prop := va_P G.1 vwCl (wl LL u.1 u.2) t.heap ∧ va_D A (wl LL u.1 u.2)
variable {y : MethodName} {ws ws' : List Cond} {rm : Room} {maxL : Nat} {ret : Option FieldType} {bytes : ByteArray} {n index : Nat} {Cn host : String} {T : u_T} {N ci : Nat} {fs : List Value} {av As st0 : List Value} {LL1 : List Nat}
def Dv (l : Launch) (y : MethodName) (ws : List Cond) (rm : Room) (G : tf_G) (LL : List Nat) (ad : Nat → Nat) (P : Nat → va_E) (av : List Value) (LL1 : List Nat) (post : (Nat → Nat) × (Nat → va_E) → Prop) : Prop := ∀ sz : Nat, Met l y ws rm (va_Pc av (tf_P G LL ad P sz)) (va_Qv post (tf_BA G (va_A (wl LL ad P) sz) LL1) (va_A (wl LL ad P) sz)) rm.cells rm.slots (va_A (wl LL ad P) sz)
theorem dv_of {post : (Nat → Nat) × (Nat → va_E) → Prop} (hy : plainName y.cls = true) (hw : ws = Cond.code y cc maxL ret :: ws') (hfit : (lg_sl av).length ≤ maxL) (body : ∀ (p : Program) (e : Env) (s : State) (m : MethodId) (args : Array Value) (below : List Frame) (meth : Method) (c : Code) (A : Nat → Prop), Cx p s m args meth c cc maxL y.cls ws G A LL ad → meth.sig.returnType = ret → meth.name = y.name → XJ p l e rm s m args below meth c G A LL ad (MQ below (va_Qv post (tf_BA G A LL1) A) args s rm.cells rm.slots A) maxL 0 0 P 0 (lv_args 0 av) []) : Dv l y ws rm G LL ad P av LL1 post := by
  intro sz
  refine Met.ofW (cc := cc) (maxL := maxL) (ret := ret) hy hw ?_
  intro p e s m args below meth c s₁ B hml hv
  obtain ⟨rfl, hsz, hP, hD0, hE⟩ := hv
  have hown : s.vm.findClass y.cls = some m.cls := findClass_of_methodNamed B.named
  subst hsz
  have hD : ∀ P', va_D (va_A (wl LL ad P) s.heap.size) (wl LL ad P') := fun P' => wl_self hD0
  have hA : ∀ q : Nat, s.heap.size ≤ q → va_A (wl LL ad P) s.heap.size q := fun q h => Or.inr h
  have hl := lv_entry av (n := maxL) hfit
  rw [lg_entry_eq]
  exact body p e s m av.toArray below meth c (va_A (wl LL ad P) s.heap.size) ⟨⟨B.exec, B.bytes, hml, hown, atoms_spec (ws := ws) B.pre⟩, B.notSynchronized, hE, hD, hA⟩ B.returns (name_of_methodNamed B.named B.method).1 s.heap [] _ hP va_S.rf hl
theorem x_I {post : (Nat → Nat) × (Nat → va_E) → Prop} (j : Nat) (C : Cx p s m args meth c cc nL own Ts G A LL ad) (hc : Dv l y ws rm G LL ad P (.ref (ad j) :: As) LL1 post) (hG : GoodIn Ts ws) (hw : ws = Cond.code y bytes maxL none :: ws') (hini : Cond.initialized y.cls ∈ Ts) (hlink : Cond.methodLink own index y ∈ Ts) (hins : Cond.instanceMethod y ∈ Ts) (hy1 : y.name = "<init>") (hd : y.cls ≠ "java/lang/invoke/MethodHandle" ∧ y.cls ≠ "java/lang/invoke/VarHandle" ∧ (parseMethodDescriptor y.desc).map (fun d => d.parameters.length) = some n) (hR : rm.frames + 1 ≤ R.frames ∧ 8 + (maxL + 11) + rm.locals ≤ R.locals) (hrm : cells + rm.cells ≤ R.cells ∧ slots + rm.slots ≤ R.slots) (hn : As.length = n) (hcat : (st.map fun v => v.category).sum ≤ 8) (hst : st0 = As.reverse ++ .ref (ad j) :: st) (hdg : decode cc pc = .ok (.invokespecial index, 3)) (k : ∀ (ad1 : Nat → Nat) (P1 : Nat → va_E), post (ad1, P1) → Cx p s m args meth c cc nL own Ts G A LL1 ad1 → XJ p l e R s m args below meth c G A LL1 ad1 Q nL (cells + rm.cells) (slots + rm.slots) P1 (pc + 3) L (st)) : XJ p l e R s m args below meth c G A LL ad Q nL cells slots P (pc) L (st0) := fun H locs ls hP hS hl => by
  subst hst
  have hF := wl_A (C.2.2.2.1 P) C.2.2.2.2 hS.1
  refine va_callv (va_runI (As := As) (rest := st) C.1 (hc H.size) (cwI n C.1.2.2.2.2 hG hw rfl rfl (C.1.2.2.2.2 _ hini) (C.1.2.2.2.2 _ hlink) (C.1.2.2.2.2 _ hins) hy1 hd hR) ⟨tf_blind, fun U hU hW => ⟨rfl, tf_pre C hP hS hU hW⟩⟩ rfl hn hl.1 rfl (lv_room hcat) hdg hrm) hS (fun q _ h => hF q h) hF (fun u t H1 locs1 ht hvm hw1 hB hz1 hk1 hS1 => ?_)
  exact k u.1 u.2 hw1 (C.to (hB.2.weaken (fun _ q _ h => hF q.1 h))) H1 locs1 ls (by rw [← ht]; exact hB.1) hS1 hl
theorem x_VAv {post : (Nat → Nat) × (Nat → va_E) → Prop} (j : Nat) (C : Cx p s m args meth c cc nL own Ts G A LL ad) (hc : Dv l y ws rm G LL ad P (.ref (ad j) :: As) LL1 post) (hG : GoodIn Ts (wsV own index Cn y ws)) (hw : ws = Cond.code y bytes maxL ret :: ws') (hd : y.cls = Cn ∧ y.cls ≠ "java/lang/invoke/MethodHandle" ∧ y.cls ≠ "java/lang/invoke/VarHandle" ∧ (parseMethodDescriptor y.desc).map (fun d => d.parameters.length) = some n) (hR : rm.frames + 1 ≤ R.frames ∧ 8 + (maxL + 11) + rm.locals ≤ R.locals) (hrm : cells + rm.cells ≤ R.cells ∧ slots + rm.slots ≤ R.slots) (hm : j ∈ LL) (hO : P j = .inr (ci, fs)) (hcl : vwCl[ci]? = some (Cn, T, N)) (hn : As.length = n) (hcat : (st.map fun v => v.category).sum ≤ 8) (hst : st0 = As.reverse ++ .ref (ad j) :: st) (hdg : decode cc pc = .ok (.invokevirtual index, 3)) (k : ∀ (ad1 : Nat → Nat) (P1 : Nat → va_E), post (ad1, P1) → Cx p s m args meth c cc nL own Ts G A LL1 ad1 → XJ p l e R s m args below meth c G A LL1 ad1 Q nL (cells + rm.cells) (slots + rm.slots) P1 (pc + 3) L (st)) : XJ p l e R s m args below meth c G A LL ad Q nL cells slots P (pc) L (st0) := fun H locs ls hP hS hl => by
  subst hst
  obtain ⟨q, -, hq⟩ := wl_get (ad := ad) (P := P) hm
  rw [hO] at hq
  have hF := wl_A (C.2.2.2.1 P) C.2.2.2.2 hS.1
  refine va_callv (va_runV (As := As) (rest := st) C.1 (hc H.size) (cwV n C.1.2.2.2.2 hG hw rfl rfl hd hR) ⟨tf_blind, va_recv C.2.2.1.1 hP hcl hq, fun U hU hW => ⟨rfl, tf_pre C hP hS hU hW⟩⟩ rfl hn hl.1 rfl (lv_room hcat) hdg hrm) hS (fun q _ h => hF q h) hF (fun u t H1 locs1 ht hvm hw1 hB hz1 hk1 hS1 => ?_)
  exact k u.1 u.2 hw1 (C.to (hB.2.weaken (fun _ q _ h => hF q.1 h))) H1 locs1 ls (by rw [← ht]; exact hB.1) hS1 hl
def Di (l : Launch) (y : MethodName) (ws : List Cond) (rm : Room) (G : tf_G) (LL : List Nat) (ad : Nat → Nat) (P : Nat → va_E) (av : List Value) (LL1 : List Nat) (post : Int32 → (Nat → Nat) × (Nat → va_E) → Prop) : Prop := ∀ sz : Nat, Met l y ws rm (va_Pc av (tf_P G LL ad P sz)) (va_Qi post (tf_BA G (va_A (wl LL ad P) sz) LL1) (va_A (wl LL ad P) sz)) rm.cells rm.slots (va_A (wl LL ad P) sz)
theorem di_of {post : Int32 → (Nat → Nat) × (Nat → va_E) → Prop} (hy : plainName y.cls = true) (hw : ws = Cond.code y cc maxL ret :: ws') (hfit : (lg_sl av).length ≤ maxL) (body : ∀ (p : Program) (e : Env) (s : State) (m : MethodId) (args : Array Value) (below : List Frame) (meth : Method) (c : Code) (A : Nat → Prop), Cx p s m args meth c cc maxL y.cls ws G A LL ad → meth.sig.returnType = ret → meth.name = y.name → XJ p l e rm s m args below meth c G A LL ad (MQ below (va_Qi post (tf_BA G A LL1) A) args s rm.cells rm.slots A) maxL 0 0 P 0 (lv_args 0 av) []) : Di l y ws rm G LL ad P av LL1 post := by
  intro sz
  refine Met.ofW (cc := cc) (maxL := maxL) (ret := ret) hy hw ?_
  intro p e s m args below meth c s₁ B hml hv
  obtain ⟨rfl, hsz, hP, hD0, hE⟩ := hv
  have hown : s.vm.findClass y.cls = some m.cls := findClass_of_methodNamed B.named
  subst hsz
  have hD : ∀ P', va_D (va_A (wl LL ad P) s.heap.size) (wl LL ad P') := fun P' => wl_self hD0
  have hA : ∀ q : Nat, s.heap.size ≤ q → va_A (wl LL ad P) s.heap.size q := fun q h => Or.inr h
  have hl := lv_entry av (n := maxL) hfit
  rw [lg_entry_eq]
  exact body p e s m av.toArray below meth c (va_A (wl LL ad P) s.heap.size) ⟨⟨B.exec, B.bytes, hml, hown, atoms_spec (ws := ws) B.pre⟩, B.notSynchronized, hE, hD, hA⟩ B.returns (name_of_methodNamed B.named B.method).1 s.heap [] _ hP va_S.rf hl
theorem x_VAi {post : Int32 → (Nat → Nat) × (Nat → va_E) → Prop} (j : Nat) (C : Cx p s m args meth c cc nL own Ts G A LL ad) (hc : Di l y ws rm G LL ad P (.ref (ad j) :: As) LL1 post) (hG : GoodIn Ts (wsV own index Cn y ws)) (hw : ws = Cond.code y bytes maxL ret :: ws') (hd : y.cls = Cn ∧ y.cls ≠ "java/lang/invoke/MethodHandle" ∧ y.cls ≠ "java/lang/invoke/VarHandle" ∧ (parseMethodDescriptor y.desc).map (fun d => d.parameters.length) = some n) (hR : rm.frames + 1 ≤ R.frames ∧ 8 + (maxL + 11) + rm.locals ≤ R.locals) (hrm : cells + rm.cells ≤ R.cells ∧ slots + rm.slots ≤ R.slots) (hm : j ∈ LL) (hO : P j = .inr (ci, fs)) (hcl : vwCl[ci]? = some (Cn, T, N)) (hn : As.length = n) (hcat : (st.map fun v => v.category).sum ≤ 8) (hst : st0 = As.reverse ++ .ref (ad j) :: st) (hdg : decode cc pc = .ok (.invokevirtual index, 3)) (k : ∀ (r : Int32) (ad1 : Nat → Nat) (P1 : Nat → va_E), post r (ad1, P1) → Cx p s m args meth c cc nL own Ts G A LL1 ad1 → XJ p l e R s m args below meth c G A LL1 ad1 Q nL (cells + rm.cells) (slots + rm.slots) P1 (pc + 3) L (.int r :: st)) : XJ p l e R s m args below meth c G A LL ad Q nL cells slots P (pc) L (st0) := fun H locs ls hP hS hl => by
  subst hst
  obtain ⟨q, -, hq⟩ := wl_get (ad := ad) (P := P) hm
  rw [hO] at hq
  have hF := wl_A (C.2.2.2.1 P) C.2.2.2.2 hS.1
  refine va_calli (va_runV (As := As) (rest := st) C.1 (hc H.size) (cwV n C.1.2.2.2.2 hG hw rfl rfl hd hR) ⟨tf_blind, va_recv C.2.2.1.1 hP hcl hq, fun U hU hW => ⟨rfl, tf_pre C hP hS hU hW⟩⟩ rfl hn hl.1 rfl (lv_room hcat) hdg hrm) hS (fun q _ h => hF q h) hF (fun r u t H1 locs1 ht hvm hw1 hB hz1 hk1 hS1 => ?_)
  exact k r u.1 u.2 hw1 (C.to (hB.2.weaken (fun _ q _ h => hF q.1 h))) H1 locs1 ls (by rw [← ht]; exact hB.1) hS1 hl
theorem x_vretA {post : (Nat → Nat) × (Nat → va_E) → Prop} (C : Cx p s m args meth c cc nL own Ts G A LL ad) (hr : meth.sig.returnType = none) (hq : post (ad, P)) (hdg : decode cc pc = .ok (.return_, 1)) : XJ p l e R s m args below meth c G A LL ad (MQ below (va_Qv post (tf_BA G A LL) A) args s cells slots A) nL cells slots P pc L [] := fun H locs ls hP hS hl => by
  exact W.vret C.1.1 C.1.2.1 hr (fun t ht hW => ⟨⟨(ad, P), rfl, hq, ⟨by rw [ht]; exact hP, C.2.2.2.1 P⟩⟩, hS.F ht⟩) hS.2.2 hdg C.2.1
theorem x_iretA {post : Int32 → (Nat → Nat) × (Nat → va_E) → Prop} (C : Cx p s m args meth c cc nL own Ts G A LL ad) {r : Int32} (hr : meth.sig.returnType = some .int) (hq : post r (ad, P)) (hdg : decode cc pc = .ok (.ireturn, 1)) : XJ p l e R s m args below meth c G A LL ad (MQ below (va_Qi post (tf_BA G A LL) A) args s cells slots A) nL cells slots P pc L [.int r] := fun H locs ls hP hS hl => by
  exact W.iret (v := r) C.1.1 C.1.2.1 hr (fun t ht hW => ⟨⟨r, (ad, P), rfl, hq, ⟨by rw [ht]; exact hP, C.2.2.2.1 P⟩⟩, hS.F ht⟩) hS.2.2 hdg C.2.1
theorem x_widen {k n : Nat} (h1 : cells ≤ k) (h2 : slots ≤ n) (kk : XJ p l e R s m args below meth c G A LL ad Q nL k n P (pc) L (st)) : XJ p l e R s m args below meth c G A LL ad Q nL cells slots P (pc) L (st) := fun H locs ls hP hS hl => W.widen h1 h2 (kk H locs ls hP hS hl)
/-- cells no longer spoken of -/
theorem x_drop {LLx : List Nat} (C : Cx p s m args meth c cc nL own Ts G A (LL ++ LLx) ad) {ad1 : Nat → Nat} {P1 : Nat → va_E} (h : ∀ j ∈ LL, ad1 j = ad j ∧ P1 j = P j) (k : Cx p s m args meth c cc nL own Ts G A LL ad1 → XJ p l e R s m args below meth c G A LL ad1 Q nL cells slots P1 (pc) L (st)) : XJ p l e R s m args below meth c G A (LL ++ LLx) ad Q nL cells slots P (pc) L (st) := fun H locs ls hP hS hl => by
  have e1 : wl LL ad1 P1 = wl LL ad P := wl_congr h
  have key : ∀ (i : Nat) (q : Nat × va_E), (wl LL ad P)[i]? = some q → (wl (LL ++ LLx) ad P)[i]? = some q := by
    intro i q hq
    have hi : i < (wl LL ad P).length := (List.getElem?_eq_some_iff.mp hq).1
    unfold wl at hq hi ⊢
    rw [List.map_append, List.getElem?_append_left hi]
    exact hq
  have hP1 : va_P G.1 vwCl (wl LL ad1 P1) H := by rw [e1]; exact fun i q hq => hP i q (key i q hq)
  have hD1 : va_D A (wl LL ad1 P1) := by
    rw [e1]
    exact ⟨fun i i2 x y hx hy hxy => (C.2.2.2.1 P).1 i i2 x y (key i x hx) (key i2 y hy) hxy, fun i q hq => (C.2.2.2.1 P).2 i q (key i q hq)⟩
  exact k (C.to hD1) H locs ls hP1 hS hl
end XA
end
section
theorem zz_last : True := trivial
end
