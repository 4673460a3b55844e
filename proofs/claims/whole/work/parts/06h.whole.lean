/-- from the entry, for every script of at most 3073 ints, the law comes to its end with true -/
theorem whole_start {p : Program} {e : Env} {s : State} {m : MethodId} {below : List Frame} {meth : Method} {c : Code} (l : Launch) (hflags : l.flags = flags0) {b L : Nat} {xs : Nat → Int32} (hL : L ≤ 3073) (C0 : lw_At p s m meth c b L xs) : W p l e room_1 s m #[Value.ref b] below meth c s.heap [] 0 0 (lw_Z below #[Value.ref b] s) (entryFrame m ([Value.ref b] : List Value).toArray 4) := by
  obtain ⟨G, hE⟩ := law_E C0
  obtain ⟨hx9, hb, hr, hml, hown, hts, hX, hbl, hlocks, hgv⟩ := id C0
  have hbA : ¬ (fun q : Nat => s.heap.size ≤ q) b := Nat.not_le.mpr hbl
  have C : Cx p s m #[Value.ref b] meth c cL_law 4 RL wsL_law G (fun q => s.heap.size ≤ q) [] (fun _ => 0) := ⟨⟨hx9, hb, hml, hown, fun w h => hts w (wsL_law_in w h)⟩, hlocks, hE, fun P => ⟨fun i j x y h => by simp [wl] at h, fun k q h => by simp [wl] at h⟩, fun q h => h⟩
  have hl := lv_entry [.ref b] (n := 4) (Nat.le_of_ble_eq_true rfl)
  rw [lg_entry_eq]
  exact law_start l hX hbl hbA hL (fun q h => h) hr C s.heap [] _ (fun k q h => by simp [wl] at h) va_S.rf hl
