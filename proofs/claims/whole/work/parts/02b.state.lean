/-! WHAT A CELL HOLDS, by its id: 0 the class's object and 1 to 25 what hangs on it; 30 the reference's object, 30 + k the row of its field k; 100 + i squadron i, 200 + i, 300 + i its rows; 400 + t statute t, 500 + t its row -/
def tf_c1 (G : tf_G) (nR : Nat) (ad : Nat → Nat) (j : Nat) (f : Nat → Int32) : va_E := if j = 0 then .inr (9, [.ref (ad 1), .ref (ad 7), .ref (ad 10), .ref (ad 12), .ref (ad 13), .ref (ad 17), .ref (ad 21), .int (f 7), .int (f 8)]) else if j = 1 then .inr (0, [.int (f 0), .ref (ad 2), .ref (ad 3), .ref (ad 4), .ref (ad 5), .ref (ad 6), .int (f 6), .int (f 7), .int (f 8)]) else if j = 2 then .inl (G.2.1 0, 12, .inl f) else if j = 3 then .inl (G.2.1 0, 12, .inl f) else if j = 4 then .inl (G.2.1 0, 4, .inl f) else if j = 5 then .inl (G.2.1 0, 4, .inl f) else if j = 6 then .inl (G.2.1 0, 4, .inl f) else if j = 7 then .inr (3, [.ref (ad 8), .ref (ad 9), .int (f 2)]) else if j = 8 then .inl (G.2.1 3, 12, .inr (.inr (.inr (.inr (fun i => if f i = 0 then none else some (ad (100 + i))))))) else if j = 9 then .inl (G.2.1 0, 12, .inl f) else if j = 10 then .inr (8, [.ref (ad 11), .int (f 1)]) else if j = 11 then .inl (G.2.1 1, 400, .inl f) else if j = 12 then .inr (4, [.ref (ad 10), .int (f 1), .int (f 2), .int (f 3), .int (f 4)]) else if j = 13 then .inr (1, [.ref (ad 14), .ref (ad 15), .int (f 2)]) else if j = 14 then .inl (G.2.1 4, 10, .inr (.inr (.inr (.inr (fun i => if f i = 0 then none else some (ad (400 + i))))))) else if j = 15 then .inr (7, [.int (f 0), .int (f 1), .ref (ad 16), .int (f 3), .int (f 4), .int (f 5), .int (f 6)]) else if j = 16 then .inl (G.2.1 0, nR, .inl f) else if j = 17 then .inr (2, [.ref (ad 18), .ref (ad 19), .ref (ad 20), .int (f 3)]) else if j = 18 then .inl (G.2.1 0, 6, .inl f) else if j = 19 then .inl (G.2.1 0, 6, .inl f) else if j = 20 then .inl (G.2.1 0, 6, .inl f) else if j = 21 then .inr (5, [.ref (ad 22), .ref (ad 23), .ref (ad 24), .ref (ad 25), .int (f 4), .int (f 5)]) else if j = 22 then .inl (G.2.1 0, 6, .inl f) else if j = 23 then .inl (G.2.1 0, 6, .inl f) else if j = 24 then .inl (G.2.1 0, 6, .inl f) else if j = 25 then .inl (G.2.1 0, 64, .inl f) else .inr (0, [])
def tf_c2 (G : tf_G) (ad : Nat → Nat) (j : Nat) (f : Nat → Int32) : va_E := if j = 30 then .inr (10, [.int (f 0), .ref (ad 31), .ref (ad 32), .int (f 3), .int (f 4), .int (f 5), .int (f 6), .int (f 7), .int (f 8), .ref (ad 39), .ref (ad 40), .ref (ad 41), .ref (ad 42), .ref (ad 43), .ref (ad 44), .ref (ad 45), .ref (ad 46), .ref (ad 47), .ref (ad 48), .ref (ad 49), .ref (ad 50), .ref (ad 51), .ref (ad 52), .ref (ad 53), .ref (ad 54), .ref (ad 55), .ref (ad 56), .ref (ad 57), .ref (ad 58), .int (f 29), .int (f 30), .int (f 31), .int (f 32), .int (f 33), .ref (ad 64), .ref (ad 65), .ref (ad 66), .ref (ad 67), .ref (ad 68), .int (f 39), .int (f 40), .ref (ad 71), .ref (ad 72), .ref (ad 73), .ref (ad 74)]) else if j = 31 then .inl (G.2.1 0, 12, .inl f) else if j = 32 then .inl (G.2.1 0, 11, .inl f) else if j = 39 then .inl (G.2.1 0, 4, .inl f) else if j = 40 then .inl (G.2.1 0, 4, .inl f) else if j = 41 then .inl (G.2.1 0, 4, .inl f) else if j = 42 then .inl (G.2.1 0, 12, .inl f) else if j = 43 then .inl (G.2.1 0, 12, .inl f) else if j = 44 then .inl (G.2.1 0, 12, .inl f) else if j = 45 then .inl (G.2.1 0, 12, .inl f) else if j = 46 then .inl (G.2.1 0, 12, .inl f) else if j = 47 then .inl (G.2.1 0, 12, .inl f) else if j = 48 then .inl (G.2.1 0, 12, .inl f) else if j = 49 then .inl (G.2.1 0, 12, .inl f) else if j = 50 then .inl (G.2.1 0, 12, .inl f) else if j = 51 then .inl (G.2.1 2, 12, .inl f) else if j = 52 then .inl (G.2.1 0, 144, .inl f) else if j = 53 then .inl (G.2.1 0, 60, .inl f) else if j = 54 then .inl (G.2.1 0, 6, .inl f) else if j = 55 then .inl (G.2.1 0, 6, .inl f) else if j = 56 then .inl (G.2.1 0, 6, .inl f) else if j = 57 then .inl (G.2.1 1, 400, .inl f) else if j = 58 then .inl (G.2.1 1, 400, .inl f) else if j = 64 then .inl (G.2.1 0, 11, .inl f) else if j = 65 then .inl (G.2.1 0, 11, .inl f) else if j = 66 then .inl (G.2.1 0, 176, .inl f) else if j = 67 then .inl (G.2.1 0, 176, .inl f) else if j = 68 then .inl (G.2.1 0, 176, .inl f) else if j = 71 then .inl (G.2.1 2, 12, .inl f) else if j = 72 then .inl (G.2.1 0, 6, .inl f) else if j = 73 then .inl (G.2.1 0, 6, .inl f) else if j = 74 then .inl (G.2.1 0, 6, .inl f) else .inr (0, [])
def pf (G : tf_G) (nR : Nat) (ad : Nat → Nat) (j : Nat) (f : Nat → Int32) : va_E := if j < 26 then tf_c1 G nR ad j f else if j < 100 then tf_c2 G ad j f else if j < 200 then .inr (6, [.int (f 0), .int (f 1), .int (f 2), .int (f 3), .ref (ad (j + 100)), .ref (ad (j + 200)), .int (f 6), .int (f 7), .int (f 8), .int (f 9), .int (f 10), .int (f 11)]) else if j < 300 then .inl (G.2.1 0, nR, .inl f) else if j < 400 then .inl (G.2.1 0, 4, .inl f) else if j < 500 then .inr (7, [.int (f 0), .int (f 1), .ref (ad (j + 100)), .int (f 3), .int (f 4), .int (f 5), .int (f 6)]) else .inl (G.2.1 0, nR, .inl f)
def tf_fix : List Nat := [0, 1, 2, 3, 4, 5, 6, 7, 8, 9, 10, 11, 12, 13, 14, 15, 16, 17, 18, 19, 20, 21, 22, 23, 24, 25, 30, 31, 32, 39, 40, 41, 42, 43, 44, 45, 46, 47, 48, 49, 50, 51, 52, 53, 54, 55, 56, 57, 58, 64, 65, 66, 67, 68, 71, 72, 73, 74]
theorem pf_0 (G : tf_G) (nR : Nat) (ad : Nat → Nat) (f : Nat → Int32) : pf G nR ad 0 f = .inr (9, [.ref (ad 1), .ref (ad 7), .ref (ad 10), .ref (ad 12), .ref (ad 13), .ref (ad 17), .ref (ad 21), .int (f 7), .int (f 8)]) := rfl
theorem pf_1 (G : tf_G) (nR : Nat) (ad : Nat → Nat) (f : Nat → Int32) : pf G nR ad 1 f = .inr (0, [.int (f 0), .ref (ad 2), .ref (ad 3), .ref (ad 4), .ref (ad 5), .ref (ad 6), .int (f 6), .int (f 7), .int (f 8)]) := rfl
theorem pf_2 (G : tf_G) (nR : Nat) (ad : Nat → Nat) (f : Nat → Int32) : pf G nR ad 2 f = .inl (G.2.1 0, 12, .inl f) := rfl
theorem pf_3 (G : tf_G) (nR : Nat) (ad : Nat → Nat) (f : Nat → Int32) : pf G nR ad 3 f = .inl (G.2.1 0, 12, .inl f) := rfl
theorem pf_4 (G : tf_G) (nR : Nat) (ad : Nat → Nat) (f : Nat → Int32) : pf G nR ad 4 f = .inl (G.2.1 0, 4, .inl f) := rfl
theorem pf_5 (G : tf_G) (nR : Nat) (ad : Nat → Nat) (f : Nat → Int32) : pf G nR ad 5 f = .inl (G.2.1 0, 4, .inl f) := rfl
theorem pf_6 (G : tf_G) (nR : Nat) (ad : Nat → Nat) (f : Nat → Int32) : pf G nR ad 6 f = .inl (G.2.1 0, 4, .inl f) := rfl
theorem pf_7 (G : tf_G) (nR : Nat) (ad : Nat → Nat) (f : Nat → Int32) : pf G nR ad 7 f = .inr (3, [.ref (ad 8), .ref (ad 9), .int (f 2)]) := rfl
theorem pf_8 (G : tf_G) (nR : Nat) (ad : Nat → Nat) (f : Nat → Int32) : pf G nR ad 8 f = .inl (G.2.1 3, 12, .inr (.inr (.inr (.inr (fun i => if f i = 0 then none else some (ad (100 + i))))))) := rfl
theorem pf_9 (G : tf_G) (nR : Nat) (ad : Nat → Nat) (f : Nat → Int32) : pf G nR ad 9 f = .inl (G.2.1 0, 12, .inl f) := rfl
theorem pf_10 (G : tf_G) (nR : Nat) (ad : Nat → Nat) (f : Nat → Int32) : pf G nR ad 10 f = .inr (8, [.ref (ad 11), .int (f 1)]) := rfl
theorem pf_11 (G : tf_G) (nR : Nat) (ad : Nat → Nat) (f : Nat → Int32) : pf G nR ad 11 f = .inl (G.2.1 1, 400, .inl f) := rfl
theorem pf_12 (G : tf_G) (nR : Nat) (ad : Nat → Nat) (f : Nat → Int32) : pf G nR ad 12 f = .inr (4, [.ref (ad 10), .int (f 1), .int (f 2), .int (f 3), .int (f 4)]) := rfl
theorem pf_13 (G : tf_G) (nR : Nat) (ad : Nat → Nat) (f : Nat → Int32) : pf G nR ad 13 f = .inr (1, [.ref (ad 14), .ref (ad 15), .int (f 2)]) := rfl
theorem pf_14 (G : tf_G) (nR : Nat) (ad : Nat → Nat) (f : Nat → Int32) : pf G nR ad 14 f = .inl (G.2.1 4, 10, .inr (.inr (.inr (.inr (fun i => if f i = 0 then none else some (ad (400 + i))))))) := rfl
theorem pf_15 (G : tf_G) (nR : Nat) (ad : Nat → Nat) (f : Nat → Int32) : pf G nR ad 15 f = .inr (7, [.int (f 0), .int (f 1), .ref (ad 16), .int (f 3), .int (f 4), .int (f 5), .int (f 6)]) := rfl
theorem pf_16 (G : tf_G) (nR : Nat) (ad : Nat → Nat) (f : Nat → Int32) : pf G nR ad 16 f = .inl (G.2.1 0, nR, .inl f) := rfl
theorem pf_17 (G : tf_G) (nR : Nat) (ad : Nat → Nat) (f : Nat → Int32) : pf G nR ad 17 f = .inr (2, [.ref (ad 18), .ref (ad 19), .ref (ad 20), .int (f 3)]) := rfl
theorem pf_18 (G : tf_G) (nR : Nat) (ad : Nat → Nat) (f : Nat → Int32) : pf G nR ad 18 f = .inl (G.2.1 0, 6, .inl f) := rfl
theorem pf_19 (G : tf_G) (nR : Nat) (ad : Nat → Nat) (f : Nat → Int32) : pf G nR ad 19 f = .inl (G.2.1 0, 6, .inl f) := rfl
theorem pf_20 (G : tf_G) (nR : Nat) (ad : Nat → Nat) (f : Nat → Int32) : pf G nR ad 20 f = .inl (G.2.1 0, 6, .inl f) := rfl
theorem pf_21 (G : tf_G) (nR : Nat) (ad : Nat → Nat) (f : Nat → Int32) : pf G nR ad 21 f = .inr (5, [.ref (ad 22), .ref (ad 23), .ref (ad 24), .ref (ad 25), .int (f 4), .int (f 5)]) := rfl
theorem pf_22 (G : tf_G) (nR : Nat) (ad : Nat → Nat) (f : Nat → Int32) : pf G nR ad 22 f = .inl (G.2.1 0, 6, .inl f) := rfl
theorem pf_23 (G : tf_G) (nR : Nat) (ad : Nat → Nat) (f : Nat → Int32) : pf G nR ad 23 f = .inl (G.2.1 0, 6, .inl f) := rfl
theorem pf_24 (G : tf_G) (nR : Nat) (ad : Nat → Nat) (f : Nat → Int32) : pf G nR ad 24 f = .inl (G.2.1 0, 6, .inl f) := rfl
theorem pf_25 (G : tf_G) (nR : Nat) (ad : Nat → Nat) (f : Nat → Int32) : pf G nR ad 25 f = .inl (G.2.1 0, 64, .inl f) := rfl
theorem pf_30 (G : tf_G) (nR : Nat) (ad : Nat → Nat) (f : Nat → Int32) : pf G nR ad 30 f = .inr (10, [.int (f 0), .ref (ad 31), .ref (ad 32), .int (f 3), .int (f 4), .int (f 5), .int (f 6), .int (f 7), .int (f 8), .ref (ad 39), .ref (ad 40), .ref (ad 41), .ref (ad 42), .ref (ad 43), .ref (ad 44), .ref (ad 45), .ref (ad 46), .ref (ad 47), .ref (ad 48), .ref (ad 49), .ref (ad 50), .ref (ad 51), .ref (ad 52), .ref (ad 53), .ref (ad 54), .ref (ad 55), .ref (ad 56), .ref (ad 57), .ref (ad 58), .int (f 29), .int (f 30), .int (f 31), .int (f 32), .int (f 33), .ref (ad 64), .ref (ad 65), .ref (ad 66), .ref (ad 67), .ref (ad 68), .int (f 39), .int (f 40), .ref (ad 71), .ref (ad 72), .ref (ad 73), .ref (ad 74)]) := rfl
theorem pf_31 (G : tf_G) (nR : Nat) (ad : Nat → Nat) (f : Nat → Int32) : pf G nR ad 31 f = .inl (G.2.1 0, 12, .inl f) := rfl
theorem pf_32 (G : tf_G) (nR : Nat) (ad : Nat → Nat) (f : Nat → Int32) : pf G nR ad 32 f = .inl (G.2.1 0, 11, .inl f) := rfl
theorem pf_39 (G : tf_G) (nR : Nat) (ad : Nat → Nat) (f : Nat → Int32) : pf G nR ad 39 f = .inl (G.2.1 0, 4, .inl f) := rfl
theorem pf_40 (G : tf_G) (nR : Nat) (ad : Nat → Nat) (f : Nat → Int32) : pf G nR ad 40 f = .inl (G.2.1 0, 4, .inl f) := rfl
theorem pf_41 (G : tf_G) (nR : Nat) (ad : Nat → Nat) (f : Nat → Int32) : pf G nR ad 41 f = .inl (G.2.1 0, 4, .inl f) := rfl
theorem pf_42 (G : tf_G) (nR : Nat) (ad : Nat → Nat) (f : Nat → Int32) : pf G nR ad 42 f = .inl (G.2.1 0, 12, .inl f) := rfl
theorem pf_43 (G : tf_G) (nR : Nat) (ad : Nat → Nat) (f : Nat → Int32) : pf G nR ad 43 f = .inl (G.2.1 0, 12, .inl f) := rfl
theorem pf_44 (G : tf_G) (nR : Nat) (ad : Nat → Nat) (f : Nat → Int32) : pf G nR ad 44 f = .inl (G.2.1 0, 12, .inl f) := rfl
theorem pf_45 (G : tf_G) (nR : Nat) (ad : Nat → Nat) (f : Nat → Int32) : pf G nR ad 45 f = .inl (G.2.1 0, 12, .inl f) := rfl
theorem pf_46 (G : tf_G) (nR : Nat) (ad : Nat → Nat) (f : Nat → Int32) : pf G nR ad 46 f = .inl (G.2.1 0, 12, .inl f) := rfl
theorem pf_47 (G : tf_G) (nR : Nat) (ad : Nat → Nat) (f : Nat → Int32) : pf G nR ad 47 f = .inl (G.2.1 0, 12, .inl f) := rfl
theorem pf_48 (G : tf_G) (nR : Nat) (ad : Nat → Nat) (f : Nat → Int32) : pf G nR ad 48 f = .inl (G.2.1 0, 12, .inl f) := rfl
theorem pf_49 (G : tf_G) (nR : Nat) (ad : Nat → Nat) (f : Nat → Int32) : pf G nR ad 49 f = .inl (G.2.1 0, 12, .inl f) := rfl
theorem pf_50 (G : tf_G) (nR : Nat) (ad : Nat → Nat) (f : Nat → Int32) : pf G nR ad 50 f = .inl (G.2.1 0, 12, .inl f) := rfl
theorem pf_51 (G : tf_G) (nR : Nat) (ad : Nat → Nat) (f : Nat → Int32) : pf G nR ad 51 f = .inl (G.2.1 2, 12, .inl f) := rfl
theorem pf_52 (G : tf_G) (nR : Nat) (ad : Nat → Nat) (f : Nat → Int32) : pf G nR ad 52 f = .inl (G.2.1 0, 144, .inl f) := rfl
theorem pf_53 (G : tf_G) (nR : Nat) (ad : Nat → Nat) (f : Nat → Int32) : pf G nR ad 53 f = .inl (G.2.1 0, 60, .inl f) := rfl
theorem pf_54 (G : tf_G) (nR : Nat) (ad : Nat → Nat) (f : Nat → Int32) : pf G nR ad 54 f = .inl (G.2.1 0, 6, .inl f) := rfl
theorem pf_55 (G : tf_G) (nR : Nat) (ad : Nat → Nat) (f : Nat → Int32) : pf G nR ad 55 f = .inl (G.2.1 0, 6, .inl f) := rfl
theorem pf_56 (G : tf_G) (nR : Nat) (ad : Nat → Nat) (f : Nat → Int32) : pf G nR ad 56 f = .inl (G.2.1 0, 6, .inl f) := rfl
theorem pf_57 (G : tf_G) (nR : Nat) (ad : Nat → Nat) (f : Nat → Int32) : pf G nR ad 57 f = .inl (G.2.1 1, 400, .inl f) := rfl
theorem pf_58 (G : tf_G) (nR : Nat) (ad : Nat → Nat) (f : Nat → Int32) : pf G nR ad 58 f = .inl (G.2.1 1, 400, .inl f) := rfl
theorem pf_64 (G : tf_G) (nR : Nat) (ad : Nat → Nat) (f : Nat → Int32) : pf G nR ad 64 f = .inl (G.2.1 0, 11, .inl f) := rfl
theorem pf_65 (G : tf_G) (nR : Nat) (ad : Nat → Nat) (f : Nat → Int32) : pf G nR ad 65 f = .inl (G.2.1 0, 11, .inl f) := rfl
theorem pf_66 (G : tf_G) (nR : Nat) (ad : Nat → Nat) (f : Nat → Int32) : pf G nR ad 66 f = .inl (G.2.1 0, 176, .inl f) := rfl
theorem pf_67 (G : tf_G) (nR : Nat) (ad : Nat → Nat) (f : Nat → Int32) : pf G nR ad 67 f = .inl (G.2.1 0, 176, .inl f) := rfl
theorem pf_68 (G : tf_G) (nR : Nat) (ad : Nat → Nat) (f : Nat → Int32) : pf G nR ad 68 f = .inl (G.2.1 0, 176, .inl f) := rfl
theorem pf_71 (G : tf_G) (nR : Nat) (ad : Nat → Nat) (f : Nat → Int32) : pf G nR ad 71 f = .inl (G.2.1 2, 12, .inl f) := rfl
theorem pf_72 (G : tf_G) (nR : Nat) (ad : Nat → Nat) (f : Nat → Int32) : pf G nR ad 72 f = .inl (G.2.1 0, 6, .inl f) := rfl
theorem pf_73 (G : tf_G) (nR : Nat) (ad : Nat → Nat) (f : Nat → Int32) : pf G nR ad 73 f = .inl (G.2.1 0, 6, .inl f) := rfl
theorem pf_74 (G : tf_G) (nR : Nat) (ad : Nat → Nat) (f : Nat → Int32) : pf G nR ad 74 f = .inl (G.2.1 0, 6, .inl f) := rfl
theorem pf_sq (G : tf_G) (nR : Nat) (ad : Nat → Nat) (f : Nat → Int32) {i : Nat} (hi : i < 100) : pf G nR ad (100 + i) f = .inr (6, [.int (f 0), .int (f 1), .int (f 2), .int (f 3), .ref (ad (200 + i)), .ref (ad (300 + i)), .int (f 6), .int (f 7), .int (f 8), .int (f 9), .int (f 10), .int (f 11)]) := by
  have h1 : ¬ 100 + i < 26 := by omega
  have h2 : ¬ 100 + i < 100 := by omega
  have h3 : 100 + i < 200 := by omega
  rw [pf, if_neg h1, if_neg h2, if_pos h3, show 100 + i + 100 = 200 + i by omega, show 100 + i + 200 = 300 + i by omega]
theorem pf_sd (G : tf_G) (nR : Nat) (ad : Nat → Nat) (f : Nat → Int32) {i : Nat} (hi : i < 100) : pf G nR ad (200 + i) f = .inl (G.2.1 0, nR, .inl f) := by
  rw [pf, if_neg (by omega), if_neg (by omega), if_neg (by omega), if_pos (by omega)]
theorem pf_sc (G : tf_G) (nR : Nat) (ad : Nat → Nat) (f : Nat → Int32) {i : Nat} (hi : i < 100) : pf G nR ad (300 + i) f = .inl (G.2.1 0, 4, .inl f) := by
  rw [pf, if_neg (by omega), if_neg (by omega), if_neg (by omega), if_neg (by omega), if_pos (by omega)]
theorem pf_st (G : tf_G) (nR : Nat) (ad : Nat → Nat) (f : Nat → Int32) {i : Nat} (hi : i < 100) : pf G nR ad (400 + i) f = .inr (7, [.int (f 0), .int (f 1), .ref (ad (500 + i)), .int (f 3), .int (f 4), .int (f 5), .int (f 6)]) := by
  rw [pf, if_neg (by omega), if_neg (by omega), if_neg (by omega), if_neg (by omega), if_neg (by omega), if_pos (by omega), show 400 + i + 100 = 500 + i by omega]
theorem pf_sa (G : tf_G) (nR : Nat) (ad : Nat → Nat) (f : Nat → Int32) {i : Nat} (hi : i < 100) : pf G nR ad (500 + i) f = .inl (G.2.1 0, nR, .inl f) := by
  rw [pf, if_neg (by omega), if_neg (by omega), if_neg (by omega), if_neg (by omega), if_neg (by omega), if_neg (by omega)]
theorem sw_3 (x : Int32) : x = 0 ∨ x = 1 ∨ x = 2 ∨ x = 3 ∨ ((x.toInt < 0 ∨ 3 < x.toInt) ∧ ¬ x = 0 ∧ ¬ x = 1 ∧ ¬ x = 2 ∧ ¬ x = 3) := by
  have key : ∀ k : Int32, x.toInt = k.toInt → x = k := fun k h => Int32.toInt_inj.mp h
  have h9 : x.toInt = 0 ∨ x.toInt = 1 ∨ x.toInt = 2 ∨ x.toInt = 3 ∨ (x.toInt < 0 ∨ 3 < x.toInt) := by omega
  rcases h9 with h | h | h | h | h
  · exact Or.inl (key 0 h)
  · exact Or.inr (Or.inl (key 1 h))
  · exact Or.inr (Or.inr (Or.inl (key 2 h)))
  · exact Or.inr (Or.inr (Or.inr (Or.inl (key 3 h))))
  · exact Or.inr (Or.inr (Or.inr (Or.inr (⟨h, fun q => by rw [q] at h; revert h; decide, fun q => by rw [q] at h; revert h; decide, fun q => by rw [q] at h; revert h; decide, fun q => by rw [q] at h; revert h; decide⟩))))
theorem sw_4 (x : Int32) : x = 0 ∨ x = 1 ∨ x = 2 ∨ x = 3 ∨ x = 4 ∨ ((x.toInt < 0 ∨ 4 < x.toInt) ∧ ¬ x = 0 ∧ ¬ x = 1 ∧ ¬ x = 2 ∧ ¬ x = 3 ∧ ¬ x = 4) := by
  have key : ∀ k : Int32, x.toInt = k.toInt → x = k := fun k h => Int32.toInt_inj.mp h
  have h9 : x.toInt = 0 ∨ x.toInt = 1 ∨ x.toInt = 2 ∨ x.toInt = 3 ∨ x.toInt = 4 ∨ (x.toInt < 0 ∨ 4 < x.toInt) := by omega
  rcases h9 with h | h | h | h | h | h
  · exact Or.inl (key 0 h)
  · exact Or.inr (Or.inl (key 1 h))
  · exact Or.inr (Or.inr (Or.inl (key 2 h)))
  · exact Or.inr (Or.inr (Or.inr (Or.inl (key 3 h))))
  · exact Or.inr (Or.inr (Or.inr (Or.inr (Or.inl (key 4 h)))))
  · exact Or.inr (Or.inr (Or.inr (Or.inr (Or.inr (⟨h, fun q => by rw [q] at h; revert h; decide, fun q => by rw [q] at h; revert h; decide, fun q => by rw [q] at h; revert h; decide, fun q => by rw [q] at h; revert h; decide, fun q => by rw [q] at h; revert h; decide⟩)))))
theorem sw_5 (x : Int32) : x = 0 ∨ x = 1 ∨ x = 2 ∨ x = 3 ∨ x = 4 ∨ x = 5 ∨ ((x.toInt < 0 ∨ 5 < x.toInt) ∧ ¬ x = 0 ∧ ¬ x = 1 ∧ ¬ x = 2 ∧ ¬ x = 3 ∧ ¬ x = 4 ∧ ¬ x = 5) := by
  have key : ∀ k : Int32, x.toInt = k.toInt → x = k := fun k h => Int32.toInt_inj.mp h
  have h9 : x.toInt = 0 ∨ x.toInt = 1 ∨ x.toInt = 2 ∨ x.toInt = 3 ∨ x.toInt = 4 ∨ x.toInt = 5 ∨ (x.toInt < 0 ∨ 5 < x.toInt) := by omega
  rcases h9 with h | h | h | h | h | h | h
  · exact Or.inl (key 0 h)
  · exact Or.inr (Or.inl (key 1 h))
  · exact Or.inr (Or.inr (Or.inl (key 2 h)))
  · exact Or.inr (Or.inr (Or.inr (Or.inl (key 3 h))))
  · exact Or.inr (Or.inr (Or.inr (Or.inr (Or.inl (key 4 h)))))
  · exact Or.inr (Or.inr (Or.inr (Or.inr (Or.inr (Or.inl (key 5 h))))))
  · exact Or.inr (Or.inr (Or.inr (Or.inr (Or.inr (Or.inr (⟨h, fun q => by rw [q] at h; revert h; decide, fun q => by rw [q] at h; revert h; decide, fun q => by rw [q] at h; revert h; decide, fun q => by rw [q] at h; revert h; decide, fun q => by rw [q] at h; revert h; decide, fun q => by rw [q] at h; revert h; decide⟩))))))
theorem sw_6 (x : Int32) : x = 0 ∨ x = 1 ∨ x = 2 ∨ x = 3 ∨ x = 4 ∨ x = 5 ∨ x = 6 ∨ ((x.toInt < 0 ∨ 6 < x.toInt) ∧ ¬ x = 0 ∧ ¬ x = 1 ∧ ¬ x = 2 ∧ ¬ x = 3 ∧ ¬ x = 4 ∧ ¬ x = 5 ∧ ¬ x = 6) := by
  have key : ∀ k : Int32, x.toInt = k.toInt → x = k := fun k h => Int32.toInt_inj.mp h
  have h9 : x.toInt = 0 ∨ x.toInt = 1 ∨ x.toInt = 2 ∨ x.toInt = 3 ∨ x.toInt = 4 ∨ x.toInt = 5 ∨ x.toInt = 6 ∨ (x.toInt < 0 ∨ 6 < x.toInt) := by omega
  rcases h9 with h | h | h | h | h | h | h | h
  · exact Or.inl (key 0 h)
  · exact Or.inr (Or.inl (key 1 h))
  · exact Or.inr (Or.inr (Or.inl (key 2 h)))
  · exact Or.inr (Or.inr (Or.inr (Or.inl (key 3 h))))
  · exact Or.inr (Or.inr (Or.inr (Or.inr (Or.inl (key 4 h)))))
  · exact Or.inr (Or.inr (Or.inr (Or.inr (Or.inr (Or.inl (key 5 h))))))
  · exact Or.inr (Or.inr (Or.inr (Or.inr (Or.inr (Or.inr (Or.inl (key 6 h)))))))
  · exact Or.inr (Or.inr (Or.inr (Or.inr (Or.inr (Or.inr (Or.inr (⟨h, fun q => by rw [q] at h; revert h; decide, fun q => by rw [q] at h; revert h; decide, fun q => by rw [q] at h; revert h; decide, fun q => by rw [q] at h; revert h; decide, fun q => by rw [q] at h; revert h; decide, fun q => by rw [q] at h; revert h; decide, fun q => by rw [q] at h; revert h; decide⟩)))))))
theorem sw_23 (x : Int32) : x = 0 ∨ x = 1 ∨ x = 2 ∨ x = 3 ∨ x = 4 ∨ x = 5 ∨ x = 6 ∨ x = 7 ∨ x = 8 ∨ x = 9 ∨ x = 10 ∨ x = 11 ∨ x = 12 ∨ x = 13 ∨ x = 14 ∨ x = 15 ∨ x = 16 ∨ x = 17 ∨ x = 18 ∨ x = 19 ∨ x = 20 ∨ x = 21 ∨ x = 22 ∨ x = 23 ∨ ((x.toInt < 0 ∨ 23 < x.toInt) ∧ ¬ x = 0 ∧ ¬ x = 1 ∧ ¬ x = 2 ∧ ¬ x = 3 ∧ ¬ x = 4 ∧ ¬ x = 5 ∧ ¬ x = 6 ∧ ¬ x = 7 ∧ ¬ x = 8 ∧ ¬ x = 9 ∧ ¬ x = 10 ∧ ¬ x = 11 ∧ ¬ x = 12 ∧ ¬ x = 13 ∧ ¬ x = 14 ∧ ¬ x = 15 ∧ ¬ x = 16 ∧ ¬ x = 17 ∧ ¬ x = 18 ∧ ¬ x = 19 ∧ ¬ x = 20 ∧ ¬ x = 21 ∧ ¬ x = 22 ∧ ¬ x = 23) := by
  have key : ∀ k : Int32, x.toInt = k.toInt → x = k := fun k h => Int32.toInt_inj.mp h
  have h9 : x.toInt = 0 ∨ x.toInt = 1 ∨ x.toInt = 2 ∨ x.toInt = 3 ∨ x.toInt = 4 ∨ x.toInt = 5 ∨ x.toInt = 6 ∨ x.toInt = 7 ∨ x.toInt = 8 ∨ x.toInt = 9 ∨ x.toInt = 10 ∨ x.toInt = 11 ∨ x.toInt = 12 ∨ x.toInt = 13 ∨ x.toInt = 14 ∨ x.toInt = 15 ∨ x.toInt = 16 ∨ x.toInt = 17 ∨ x.toInt = 18 ∨ x.toInt = 19 ∨ x.toInt = 20 ∨ x.toInt = 21 ∨ x.toInt = 22 ∨ x.toInt = 23 ∨ (x.toInt < 0 ∨ 23 < x.toInt) := by omega
  rcases h9 with h | h | h | h | h | h | h | h | h | h | h | h | h | h | h | h | h | h | h | h | h | h | h | h | h
  · exact Or.inl (key 0 h)
  · exact Or.inr (Or.inl (key 1 h))
  · exact Or.inr (Or.inr (Or.inl (key 2 h)))
  · exact Or.inr (Or.inr (Or.inr (Or.inl (key 3 h))))
  · exact Or.inr (Or.inr (Or.inr (Or.inr (Or.inl (key 4 h)))))
  · exact Or.inr (Or.inr (Or.inr (Or.inr (Or.inr (Or.inl (key 5 h))))))
  · exact Or.inr (Or.inr (Or.inr (Or.inr (Or.inr (Or.inr (Or.inl (key 6 h)))))))
  · exact Or.inr (Or.inr (Or.inr (Or.inr (Or.inr (Or.inr (Or.inr (Or.inl (key 7 h))))))))
  · exact Or.inr (Or.inr (Or.inr (Or.inr (Or.inr (Or.inr (Or.inr (Or.inr (Or.inl (key 8 h)))))))))
  · exact Or.inr (Or.inr (Or.inr (Or.inr (Or.inr (Or.inr (Or.inr (Or.inr (Or.inr (Or.inl (key 9 h))))))))))
  · exact Or.inr (Or.inr (Or.inr (Or.inr (Or.inr (Or.inr (Or.inr (Or.inr (Or.inr (Or.inr (Or.inl (key 10 h)))))))))))
  · exact Or.inr (Or.inr (Or.inr (Or.inr (Or.inr (Or.inr (Or.inr (Or.inr (Or.inr (Or.inr (Or.inr (Or.inl (key 11 h))))))))))))
  · exact Or.inr (Or.inr (Or.inr (Or.inr (Or.inr (Or.inr (Or.inr (Or.inr (Or.inr (Or.inr (Or.inr (Or.inr (Or.inl (key 12 h)))))))))))))
  · exact Or.inr (Or.inr (Or.inr (Or.inr (Or.inr (Or.inr (Or.inr (Or.inr (Or.inr (Or.inr (Or.inr (Or.inr (Or.inr (Or.inl (key 13 h))))))))))))))
  · exact Or.inr (Or.inr (Or.inr (Or.inr (Or.inr (Or.inr (Or.inr (Or.inr (Or.inr (Or.inr (Or.inr (Or.inr (Or.inr (Or.inr (Or.inl (key 14 h)))))))))))))))
  · exact Or.inr (Or.inr (Or.inr (Or.inr (Or.inr (Or.inr (Or.inr (Or.inr (Or.inr (Or.inr (Or.inr (Or.inr (Or.inr (Or.inr (Or.inr (Or.inl (key 15 h))))))))))))))))
  · exact Or.inr (Or.inr (Or.inr (Or.inr (Or.inr (Or.inr (Or.inr (Or.inr (Or.inr (Or.inr (Or.inr (Or.inr (Or.inr (Or.inr (Or.inr (Or.inr (Or.inl (key 16 h)))))))))))))))))
  · exact Or.inr (Or.inr (Or.inr (Or.inr (Or.inr (Or.inr (Or.inr (Or.inr (Or.inr (Or.inr (Or.inr (Or.inr (Or.inr (Or.inr (Or.inr (Or.inr (Or.inr (Or.inl (key 17 h))))))))))))))))))
  · exact Or.inr (Or.inr (Or.inr (Or.inr (Or.inr (Or.inr (Or.inr (Or.inr (Or.inr (Or.inr (Or.inr (Or.inr (Or.inr (Or.inr (Or.inr (Or.inr (Or.inr (Or.inr (Or.inl (key 18 h)))))))))))))))))))
  · exact Or.inr (Or.inr (Or.inr (Or.inr (Or.inr (Or.inr (Or.inr (Or.inr (Or.inr (Or.inr (Or.inr (Or.inr (Or.inr (Or.inr (Or.inr (Or.inr (Or.inr (Or.inr (Or.inr (Or.inl (key 19 h))))))))))))))))))))
  · exact Or.inr (Or.inr (Or.inr (Or.inr (Or.inr (Or.inr (Or.inr (Or.inr (Or.inr (Or.inr (Or.inr (Or.inr (Or.inr (Or.inr (Or.inr (Or.inr (Or.inr (Or.inr (Or.inr (Or.inr (Or.inl (key 20 h)))))))))))))))))))))
  · exact Or.inr (Or.inr (Or.inr (Or.inr (Or.inr (Or.inr (Or.inr (Or.inr (Or.inr (Or.inr (Or.inr (Or.inr (Or.inr (Or.inr (Or.inr (Or.inr (Or.inr (Or.inr (Or.inr (Or.inr (Or.inr (Or.inl (key 21 h))))))))))))))))))))))
  · exact Or.inr (Or.inr (Or.inr (Or.inr (Or.inr (Or.inr (Or.inr (Or.inr (Or.inr (Or.inr (Or.inr (Or.inr (Or.inr (Or.inr (Or.inr (Or.inr (Or.inr (Or.inr (Or.inr (Or.inr (Or.inr (Or.inr (Or.inl (key 22 h)))))))))))))))))))))))
  · exact Or.inr (Or.inr (Or.inr (Or.inr (Or.inr (Or.inr (Or.inr (Or.inr (Or.inr (Or.inr (Or.inr (Or.inr (Or.inr (Or.inr (Or.inr (Or.inr (Or.inr (Or.inr (Or.inr (Or.inr (Or.inr (Or.inr (Or.inr (Or.inl (key 23 h))))))))))))))))))))))))
  · exact Or.inr (Or.inr (Or.inr (Or.inr (Or.inr (Or.inr (Or.inr (Or.inr (Or.inr (Or.inr (Or.inr (Or.inr (Or.inr (Or.inr (Or.inr (Or.inr (Or.inr (Or.inr (Or.inr (Or.inr (Or.inr (Or.inr (Or.inr (Or.inr (⟨h, fun q => by rw [q] at h; revert h; decide, fun q => by rw [q] at h; revert h; decide, fun q => by rw [q] at h; revert h; decide, fun q => by rw [q] at h; revert h; decide, fun q => by rw [q] at h; revert h; decide, fun q => by rw [q] at h; revert h; decide, fun q => by rw [q] at h; revert h; decide, fun q => by rw [q] at h; revert h; decide, fun q => by rw [q] at h; revert h; decide, fun q => by rw [q] at h; revert h; decide, fun q => by rw [q] at h; revert h; decide, fun q => by rw [q] at h; revert h; decide, fun q => by rw [q] at h; revert h; decide, fun q => by rw [q] at h; revert h; decide, fun q => by rw [q] at h; revert h; decide, fun q => by rw [q] at h; revert h; decide, fun q => by rw [q] at h; revert h; decide, fun q => by rw [q] at h; revert h; decide, fun q => by rw [q] at h; revert h; decide, fun q => by rw [q] at h; revert h; decide, fun q => by rw [q] at h; revert h; decide, fun q => by rw [q] at h; revert h; decide, fun q => by rw [q] at h; revert h; decide, fun q => by rw [q] at h; revert h; decide⟩))))))))))))))))))))))))
abbrev tf_M : Type := Nat → Nat → Int32
def pw (G : tf_G) (nR : Nat) (ad : Nat → Nat) (S : tf_M) : Nat → va_E := fun j => pf G nR ad j (S j)
def s2 (S : tf_M) (j k : Nat) (v : Int32) : tf_M := tf_u S j (upd (S j) k v)
theorem pw_up {G : tf_G} {nR : Nat} {ad : Nat → Nat} {S : tf_M} {j k : Nat} {v : Int32} {x : va_E} (h : pf G nR ad j (upd (S j) k v) = x) : tf_u (pw G nR ad S) j x = pw G nR ad (s2 S j k v) := by
  funext i
  by_cases hi : i = j
  · subst hi
    simp [tf_u, pw, s2, h]
  · simp [tf_u, pw, s2, hi]
def bI (b : Bool) : Int32 := if b = true then 1 else 0
theorem bI_t : bI true = 1 := rfl
theorem bI_f : bI false = 0 := rfl
theorem bI_0 {b : Bool} : (bI b = 0) = (b = false) := by cases b <;> simp [bI]
theorem bI_z {b : Bool} (h : bI b = 0) : b = false := by cases b <;> simp_all [bI]
theorem bI_nz {b : Bool} (h : ¬ bI b = 0) : b = true := by cases b <;> simp_all [bI]
theorem bI_01 (b : Bool) : bI b = 0 ∨ bI b = 1 := by cases b <;> simp [bI]
section XS
variable {p : Program} {l : Launch} {e : Env} {R : Room} {s : State} {m : MethodId} {args : Array Value} {below : List Frame} {meth : Method} {c : Code} {G : tf_G} {A : Nat → Prop} {LL : List Nat} {ad : Nat → Nat} {Q : State → Prop} {nL cells slots : Nat} {cc : ByteArray} {own : String} {Ts : List Cond} {pc : Nat} {L : List (Nat × Value)} {st : List Value} {nR : Nat} {S : tf_M}

theorem y_put (C : Cx p s m args meth c cc nL own Ts G A LL ad) {ref Cn : String} {T : u_T} {N ci index : Nat} {fs : List Value} {v : Int32} {ty : FieldType} (j k0 : Nat) (hin : ∀ w ∈ u_ws Cn T N, w ∈ Ts) (ty0 : Nat → FieldType) (hty : ∀ k, k < N → parseFieldDescriptor (T k).2.2.1 = some (ty0 k)) (hnm : ∀ a, a < N → ∀ b, b < N → a ≠ b → (T a).2.1 ≠ (T b).2.1) (hm : j ∈ LL) (hO : pf G nR ad j (S j) = .inr (ci, fs)) (hO2 : pf G nR ad j (upd (S j) k0 v) = .inr (ci, fs.set k0 (.int v))) (hc : vwCl[ci]? = some (Cn, T, N)) (hk : k0 < N) (hlink : Cond.fieldLink own index ref (T k0).2.1 (T k0).2.2.1 ∈ Ts) (href : (T k0).1 = ref) (hfin : (T k0).2.2.2 = false) (hd : parseFieldDescriptor (T k0).2.2.1 = some ty) (hn : narrow ty (.int v) = .int v) (hfit : fits ty (.int v) = true) (hl0 : k0 < fs.length) (hdg : decode cc pc = .ok (.putfield index, 3)) (k : XJ p l e R s m args below meth c G A LL ad Q nL cells slots (pw G nR ad (s2 S j k0 v)) (pc + 3) L (st)) : XJ p l e R s m args below meth c G A LL ad Q nL cells slots (pw G nR ad S) (pc) L (.int v :: .ref (ad j) :: st) := by
  refine x_put C j k0 hin ty0 hty hnm hm hO hc hk hlink href hfin hd hn hfit hl0 hdg ?_
  rw [pw_up hO2]
  exact k
theorem y_iast (C : Cx p s m args meth c cc nL own Ts G A LL ad) {n : Nat} {i x : Int32} {kk : Nat} (j : Nat) (hm : j ∈ LL) (hO : ∀ f, pf G nR ad j f = .inl (G.2.1 0, n, .inl f)) (hin : vp_in i n) (hkk : i.toNatClampNeg = kk) (hdg : decode cc pc = .ok (.iastore, 1)) (k : XJ p l e R s m args below meth c G A LL ad Q nL cells slots (pw G nR ad (s2 S j kk x)) (pc + 1) L (st)) : XJ p l e R s m args below meth c G A LL ad Q nL cells slots (pw G nR ad S) (pc) L (.int x :: .int i :: .ref (ad j) :: st) := by
  subst hkk
  refine x_iast C j hm (hO (S j)) hin hdg ?_
  rw [pw_up (hO _)]
  exact k
theorem y_bast (C : Cx p s m args meth c cc nL own Ts G A LL ad) {n : Nat} {i x : Int32} {kk : Nat} (j : Nat) (hm : j ∈ LL) (hO : ∀ f, pf G nR ad j f = .inl (G.2.1 1, n, .inl f)) (hin : vp_in i n) (hkk : i.toNatClampNeg = kk) (hdg : decode cc pc = .ok (.bastore, 1)) (k : XJ p l e R s m args below meth c G A LL ad Q nL cells slots (pw G nR ad (s2 S j kk (vp_nar .byte x))) (pc + 1) L (st)) : XJ p l e R s m args below meth c G A LL ad Q nL cells slots (pw G nR ad S) (pc) L (.int x :: .int i :: .ref (ad j) :: st) := by
  subst hkk
  refine x_bast C j hm (hO (S j)) hin hdg ?_
  rw [pw_up (hO _)]
  exact k
theorem y_zast (C : Cx p s m args meth c cc nL own Ts G A LL ad) {n : Nat} {i x : Int32} {kk : Nat} (j : Nat) (hm : j ∈ LL) (hO : ∀ f, pf G nR ad j f = .inl (G.2.1 2, n, .inl f)) (hin : vp_in i n) (hkk : i.toNatClampNeg = kk) (hdg : decode cc pc = .ok (.bastore, 1)) (k : XJ p l e R s m args below meth c G A LL ad Q nL cells slots (pw G nR ad (s2 S j kk (vp_nar .boolean x))) (pc + 1) L (st)) : XJ p l e R s m args below meth c G A LL ad Q nL cells slots (pw G nR ad S) (pc) L (.int x :: .int i :: .ref (ad j) :: st) := by
  subst hkk
  refine x_zast C j hm (hO (S j)) hin hdg ?_
  rw [pw_up (hO _)]
  exact k
theorem y_aast8 (C : Cx p s m args meth c cc nL own Ts G A LL ad) {i : Int32} {kk ci : Nat} {r : vw_C} {vs : List Value} (hm : 8 ∈ LL) (hmv : 100 + kk ∈ LL) (ht : (tf_tys G.2.1)[3]? = some (G.2.1 3, .object r.1)) (hOv : pf G nR ad (100 + kk) (S (100 + kk)) = .inr (ci, vs)) (hc : vwCl[ci]? = some r) (hin : vp_in i 12) (hkk : i.toNatClampNeg = kk) (hdg : decode cc pc = .ok (.aastore, 1)) (k : XJ p l e R s m args below meth c G A LL ad Q nL cells slots (pw G nR ad (s2 S 8 kk 1)) (pc + 1) L (st)) : XJ p l e R s m args below meth c G A LL ad Q nL cells slots (pw G nR ad S) (pc) L (.ref (ad (100 + kk)) :: .int i :: .ref (ad 8) :: st) := by
  subst hkk
  refine x_aast C 8 (100 + i.toNatClampNeg) 3 hm hmv (pf_8 G nR ad _) ht hOv hc hin hdg ?_
  rw [pw_up (S := S) (k := i.toNatClampNeg) (v := 1)]
  · exact k
  · rw [pf_8]
    congr 7
    funext q
    by_cases hq : q = i.toNatClampNeg
    · subst hq; simp [upd, va_up]
    · simp [upd, va_up, hq]
theorem y_aast14 (C : Cx p s m args meth c cc nL own Ts G A LL ad) {i : Int32} {kk ci : Nat} {r : vw_C} {vs : List Value} (hm : 14 ∈ LL) (hmv : 400 + kk ∈ LL) (ht : (tf_tys G.2.1)[4]? = some (G.2.1 4, .object r.1)) (hOv : pf G nR ad (400 + kk) (S (400 + kk)) = .inr (ci, vs)) (hc : vwCl[ci]? = some r) (hin : vp_in i 10) (hkk : i.toNatClampNeg = kk) (hdg : decode cc pc = .ok (.aastore, 1)) (k : XJ p l e R s m args below meth c G A LL ad Q nL cells slots (pw G nR ad (s2 S 14 kk 1)) (pc + 1) L (st)) : XJ p l e R s m args below meth c G A LL ad Q nL cells slots (pw G nR ad S) (pc) L (.ref (ad (400 + kk)) :: .int i :: .ref (ad 14) :: st) := by
  subst hkk
  refine x_aast C 14 (400 + i.toNatClampNeg) 4 hm hmv (pf_14 G nR ad _) ht hOv hc hin hdg ?_
  rw [pw_up (S := S) (k := i.toNatClampNeg) (v := 1)]
  · exact k
  · rw [pf_14]
    congr 7
    funext q
    by_cases hq : q = i.toNatClampNeg
    · subst hq; simp [upd, va_up]
    · simp [upd, va_up, hq]
end XS
