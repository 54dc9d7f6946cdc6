abbrev TY (cs : Nat → ClassId) : List (ClassId × FieldType) := [(cs 0, .int), (cs 1, .byte), (cs 2, .long), (cs 3, .boolean), (cs 4, .object "CallForBrown$State"), (cs 5, .object "CallForBrown$Row"), (cs 6, .object "CallForBrown$Parts"), (cs 7, .array .int)]
abbrev xc0 (cs : Nat → ClassId) (h : Nat) (q : Nat → Nat) : Nat × va_E := (h, .inr (10, [.ref (q 1), .ref (q 2), .ref (q 4), .ref (q 12), .ref (q 22), .ref (q 53), .ref (q 62), .ref (q 64), .ref (q 65), .ref (q 66), .ref (q 67), .ref (q 68)]))
abbrev xc1 (cs : Nat → ClassId) (h : Nat) (q : Nat → Nat) : Nat × va_E := (q 1, .inr (6, [.ref (q 2), .int 0, .int 0, .int 0, .int 0, .int 0, .int (-1)]))
abbrev xc2 (cs : Nat → ClassId) (h : Nat) (q : Nat → Nat) : Nat × va_E := (q 2, .inr (9, [.ref (q 3), .int 0]))
abbrev xc3 (cs : Nat → ClassId) (h : Nat) (q : Nat → Nat) : Nat × va_E := (q 3, .inl (cs 1, 900, .inl (fun _ => 0)))
abbrev xc4 (cs : Nat → ClassId) (h : Nat) (q : Nat → Nat) : Nat × va_E := (q 4, .inr (3, [.int 0, .int 0, .int 0, .int 0, .int 0, .int 0, .int 0, .ref (q 5), .ref (q 6), .ref (q 7), .ref (q 8), .ref (q 9), .ref (q 10), .ref (q 11)]))
abbrev xc5 (cs : Nat → ClassId) (h : Nat) (q : Nat → Nat) : Nat × va_E := (q 5, .inl (cs 0, 7, .inl (fun _ => 0)))
abbrev xc6 (cs : Nat → ClassId) (h : Nat) (q : Nat → Nat) : Nat × va_E := (q 6, .inl (cs 0, 7, .inl (fun _ => 0)))
abbrev xc7 (cs : Nat → ClassId) (h : Nat) (q : Nat → Nat) : Nat × va_E := (q 7, .inl (cs 0, 7, .inl (fun _ => 0)))
abbrev xc8 (cs : Nat → ClassId) (h : Nat) (q : Nat → Nat) : Nat × va_E := (q 8, .inl (cs 0, 7, .inl (fun _ => 0)))
abbrev xc9 (cs : Nat → ClassId) (h : Nat) (q : Nat → Nat) : Nat × va_E := (q 9, .inl (cs 0, 6, .inl (fun _ => 0)))
abbrev xc10 (cs : Nat → ClassId) (h : Nat) (q : Nat → Nat) : Nat × va_E := (q 10, .inl (cs 0, 6, .inl (fun _ => 0)))
abbrev xc11 (cs : Nat → ClassId) (h : Nat) (q : Nat → Nat) : Nat × va_E := (q 11, .inl (cs 0, 36, .inl (fun _ => 0)))
abbrev xc12 (cs : Nat → ClassId) (h : Nat) (q : Nat → Nat) : Nat × va_E := (q 12, .inr (8, [.ref (q 13), .ref (q 21), .int 0, .int 0]))
abbrev xc13 (cs : Nat → ClassId) (h : Nat) (q : Nat → Nat) : Nat × va_E := (q 13, .inr (3, [.int 0, .int 0, .int 0, .int 0, .int 0, .int 0, .int 0, .ref (q 14), .ref (q 15), .ref (q 16), .ref (q 17), .ref (q 18), .ref (q 19), .ref (q 20)]))
abbrev xc14 (cs : Nat → ClassId) (h : Nat) (q : Nat → Nat) : Nat × va_E := (q 14, .inl (cs 0, 7, .inl (fun _ => 0)))
abbrev xc15 (cs : Nat → ClassId) (h : Nat) (q : Nat → Nat) : Nat × va_E := (q 15, .inl (cs 0, 7, .inl (fun _ => 0)))
abbrev xc16 (cs : Nat → ClassId) (h : Nat) (q : Nat → Nat) : Nat × va_E := (q 16, .inl (cs 0, 7, .inl (fun _ => 0)))
abbrev xc17 (cs : Nat → ClassId) (h : Nat) (q : Nat → Nat) : Nat × va_E := (q 17, .inl (cs 0, 7, .inl (fun _ => 0)))
abbrev xc18 (cs : Nat → ClassId) (h : Nat) (q : Nat → Nat) : Nat × va_E := (q 18, .inl (cs 0, 6, .inl (fun _ => 0)))
abbrev xc19 (cs : Nat → ClassId) (h : Nat) (q : Nat → Nat) : Nat × va_E := (q 19, .inl (cs 0, 6, .inl (fun _ => 0)))
abbrev xc20 (cs : Nat → ClassId) (h : Nat) (q : Nat → Nat) : Nat × va_E := (q 20, .inl (cs 0, 36, .inl (fun _ => 0)))
abbrev xc21 (cs : Nat → ClassId) (h : Nat) (q : Nat → Nat) : Nat × va_E := (q 21, .inl (cs 0, 60, .inl (fun _ => 0)))
abbrev xc22 (cs : Nat → ClassId) (h : Nat) (q : Nat → Nat) : Nat × va_E := (q 22, .inl (cs 4, 3, .inr (.inr (.inr (.inr (va_up (va_up (va_up (fun _ => none) 0 (some (q 23))) 1 (some (q 33))) 2 (some (q 43))))))))
abbrev xc23 (cs : Nat → ClassId) (h : Nat) (q : Nat → Nat) : Nat × va_E := (q 23, .inr (8, [.ref (q 24), .ref (q 32), .int 0, .int 0]))
abbrev xc24 (cs : Nat → ClassId) (h : Nat) (q : Nat → Nat) : Nat × va_E := (q 24, .inr (3, [.int 0, .int 0, .int 0, .int 0, .int 0, .int 0, .int 0, .ref (q 25), .ref (q 26), .ref (q 27), .ref (q 28), .ref (q 29), .ref (q 30), .ref (q 31)]))
abbrev xc25 (cs : Nat → ClassId) (h : Nat) (q : Nat → Nat) : Nat × va_E := (q 25, .inl (cs 0, 7, .inl (fun _ => 0)))
abbrev xc26 (cs : Nat → ClassId) (h : Nat) (q : Nat → Nat) : Nat × va_E := (q 26, .inl (cs 0, 7, .inl (fun _ => 0)))
abbrev xc27 (cs : Nat → ClassId) (h : Nat) (q : Nat → Nat) : Nat × va_E := (q 27, .inl (cs 0, 7, .inl (fun _ => 0)))
abbrev xc28 (cs : Nat → ClassId) (h : Nat) (q : Nat → Nat) : Nat × va_E := (q 28, .inl (cs 0, 7, .inl (fun _ => 0)))
abbrev xc29 (cs : Nat → ClassId) (h : Nat) (q : Nat → Nat) : Nat × va_E := (q 29, .inl (cs 0, 6, .inl (fun _ => 0)))
abbrev xc30 (cs : Nat → ClassId) (h : Nat) (q : Nat → Nat) : Nat × va_E := (q 30, .inl (cs 0, 6, .inl (fun _ => 0)))
abbrev xc31 (cs : Nat → ClassId) (h : Nat) (q : Nat → Nat) : Nat × va_E := (q 31, .inl (cs 0, 36, .inl (fun _ => 0)))
abbrev xc32 (cs : Nat → ClassId) (h : Nat) (q : Nat → Nat) : Nat × va_E := (q 32, .inl (cs 0, 60, .inl (fun _ => 0)))
abbrev xc33 (cs : Nat → ClassId) (h : Nat) (q : Nat → Nat) : Nat × va_E := (q 33, .inr (8, [.ref (q 34), .ref (q 42), .int 0, .int 0]))
abbrev xc34 (cs : Nat → ClassId) (h : Nat) (q : Nat → Nat) : Nat × va_E := (q 34, .inr (3, [.int 0, .int 0, .int 0, .int 0, .int 0, .int 0, .int 0, .ref (q 35), .ref (q 36), .ref (q 37), .ref (q 38), .ref (q 39), .ref (q 40), .ref (q 41)]))
abbrev xc35 (cs : Nat → ClassId) (h : Nat) (q : Nat → Nat) : Nat × va_E := (q 35, .inl (cs 0, 7, .inl (fun _ => 0)))
abbrev xc36 (cs : Nat → ClassId) (h : Nat) (q : Nat → Nat) : Nat × va_E := (q 36, .inl (cs 0, 7, .inl (fun _ => 0)))
abbrev xc37 (cs : Nat → ClassId) (h : Nat) (q : Nat → Nat) : Nat × va_E := (q 37, .inl (cs 0, 7, .inl (fun _ => 0)))
abbrev xc38 (cs : Nat → ClassId) (h : Nat) (q : Nat → Nat) : Nat × va_E := (q 38, .inl (cs 0, 7, .inl (fun _ => 0)))
abbrev xc39 (cs : Nat → ClassId) (h : Nat) (q : Nat → Nat) : Nat × va_E := (q 39, .inl (cs 0, 6, .inl (fun _ => 0)))
abbrev xc40 (cs : Nat → ClassId) (h : Nat) (q : Nat → Nat) : Nat × va_E := (q 40, .inl (cs 0, 6, .inl (fun _ => 0)))
abbrev xc41 (cs : Nat → ClassId) (h : Nat) (q : Nat → Nat) : Nat × va_E := (q 41, .inl (cs 0, 36, .inl (fun _ => 0)))
abbrev xc42 (cs : Nat → ClassId) (h : Nat) (q : Nat → Nat) : Nat × va_E := (q 42, .inl (cs 0, 60, .inl (fun _ => 0)))
abbrev xc43 (cs : Nat → ClassId) (h : Nat) (q : Nat → Nat) : Nat × va_E := (q 43, .inr (8, [.ref (q 44), .ref (q 52), .int 0, .int 0]))
abbrev xc44 (cs : Nat → ClassId) (h : Nat) (q : Nat → Nat) : Nat × va_E := (q 44, .inr (3, [.int 0, .int 0, .int 0, .int 0, .int 0, .int 0, .int 0, .ref (q 45), .ref (q 46), .ref (q 47), .ref (q 48), .ref (q 49), .ref (q 50), .ref (q 51)]))
abbrev xc45 (cs : Nat → ClassId) (h : Nat) (q : Nat → Nat) : Nat × va_E := (q 45, .inl (cs 0, 7, .inl (fun _ => 0)))
abbrev xc46 (cs : Nat → ClassId) (h : Nat) (q : Nat → Nat) : Nat × va_E := (q 46, .inl (cs 0, 7, .inl (fun _ => 0)))
abbrev xc47 (cs : Nat → ClassId) (h : Nat) (q : Nat → Nat) : Nat × va_E := (q 47, .inl (cs 0, 7, .inl (fun _ => 0)))
abbrev xc48 (cs : Nat → ClassId) (h : Nat) (q : Nat → Nat) : Nat × va_E := (q 48, .inl (cs 0, 7, .inl (fun _ => 0)))
abbrev xc49 (cs : Nat → ClassId) (h : Nat) (q : Nat → Nat) : Nat × va_E := (q 49, .inl (cs 0, 6, .inl (fun _ => 0)))
abbrev xc50 (cs : Nat → ClassId) (h : Nat) (q : Nat → Nat) : Nat × va_E := (q 50, .inl (cs 0, 6, .inl (fun _ => 0)))
abbrev xc51 (cs : Nat → ClassId) (h : Nat) (q : Nat → Nat) : Nat × va_E := (q 51, .inl (cs 0, 36, .inl (fun _ => 0)))
abbrev xc52 (cs : Nat → ClassId) (h : Nat) (q : Nat → Nat) : Nat × va_E := (q 52, .inl (cs 0, 60, .inl (fun _ => 0)))
abbrev xc53 (cs : Nat → ClassId) (h : Nat) (q : Nat → Nat) : Nat × va_E := (q 53, .inl (cs 5, 4, .inr (.inr (.inr (.inr (va_up (va_up (va_up (va_up (fun _ => none) 0 (some (q 54))) 1 (some (q 56))) 2 (some (q 58))) 3 (some (q 60))))))))
abbrev xc54 (cs : Nat → ClassId) (h : Nat) (q : Nat → Nat) : Nat × va_E := (q 54, .inr (7, [.ref (q 55), .int 0, .int 0, .int 0]))
abbrev xc55 (cs : Nat → ClassId) (h : Nat) (q : Nat → Nat) : Nat × va_E := (q 55, .inl (cs 2, 60, .inr (.inl (fun _ => 0))))
abbrev xc56 (cs : Nat → ClassId) (h : Nat) (q : Nat → Nat) : Nat × va_E := (q 56, .inr (7, [.ref (q 57), .int 0, .int 0, .int 0]))
abbrev xc57 (cs : Nat → ClassId) (h : Nat) (q : Nat → Nat) : Nat × va_E := (q 57, .inl (cs 2, 60, .inr (.inl (fun _ => 0))))
abbrev xc58 (cs : Nat → ClassId) (h : Nat) (q : Nat → Nat) : Nat × va_E := (q 58, .inr (7, [.ref (q 59), .int 0, .int 0, .int 0]))
abbrev xc59 (cs : Nat → ClassId) (h : Nat) (q : Nat → Nat) : Nat × va_E := (q 59, .inl (cs 2, 60, .inr (.inl (fun _ => 0))))
abbrev xc60 (cs : Nat → ClassId) (h : Nat) (q : Nat → Nat) : Nat × va_E := (q 60, .inr (7, [.ref (q 61), .int 0, .int 0, .int 0]))
abbrev xc61 (cs : Nat → ClassId) (h : Nat) (q : Nat → Nat) : Nat × va_E := (q 61, .inl (cs 2, 60, .inr (.inl (fun _ => 0))))
abbrev xc62 (cs : Nat → ClassId) (h : Nat) (q : Nat → Nat) : Nat × va_E := (q 62, .inr (5, [.ref (q 63), .ref (q 69), .int 0, .int 0]))
abbrev xc63 (cs : Nat → ClassId) (h : Nat) (q : Nat → Nat) : Nat × va_E := (q 63, .inl (cs 0, 7, .inl (fun _ => 0)))
abbrev mc0 (cs : Nat → ClassId) (h : Nat) (q : Nat → Nat) : Nat × va_E := (h, .inr (11, [.int 0, .ref (q 1), .ref (q 2), .ref (q 3), .ref (q 4), .int 0, .ref (q 6), .int 0, .int 0, .int 0, .int 0, .int 0, .int 0, .int (-1), .ref (q 14), .ref (q 15), .ref (q 16), .int 0, .int 0, .ref (q 19), .ref (q 20), .ref (q 21), .int 0, .ref (q 23), .ref (q 24), .ref (q 25), .int 0, .ref (q 27), .long 0, .int 0, .int 0, .ref (q 31), .ref (q 32), .ref (q 33), .ref (q 34)]))
abbrev mc1 (cs : Nat → ClassId) (h : Nat) (q : Nat → Nat) : Nat × va_E := (q 1, .inl (cs 0, 144, .inl (fun _ => 0)))
abbrev mc2 (cs : Nat → ClassId) (h : Nat) (q : Nat → Nat) : Nat × va_E := (q 2, .inl (cs 0, 432, .inl (fun _ => 0)))
abbrev mc3 (cs : Nat → ClassId) (h : Nat) (q : Nat → Nat) : Nat × va_E := (q 3, .inl (cs 3, 3, .inl (fun _ => 0)))
abbrev mc4 (cs : Nat → ClassId) (h : Nat) (q : Nat → Nat) : Nat × va_E := (q 4, .inl (cs 1, 900, .inl (fun _ => 0)))
abbrev mc6 (cs : Nat → ClassId) (h : Nat) (q : Nat → Nat) : Nat × va_E := (q 6, .inl (cs 0, 5, .inl (fun _ => 0)))
abbrev mc14 (cs : Nat → ClassId) (h : Nat) (q : Nat → Nat) : Nat × va_E := (q 14, .inl (cs 0, 144, .inl (fun _ => 0)))
abbrev mc15 (cs : Nat → ClassId) (h : Nat) (q : Nat → Nat) : Nat × va_E := (q 15, .inl (cs 0, 7, .inl (fun _ => 0)))
abbrev mc16 (cs : Nat → ClassId) (h : Nat) (q : Nat → Nat) : Nat × va_E := (q 16, .inl (cs 0, 7, .inl (fun _ => 0)))
abbrev mc19 (cs : Nat → ClassId) (h : Nat) (q : Nat → Nat) : Nat × va_E := (q 19, .inl (cs 0, 5, .inl (fun _ => 0)))
abbrev mc20 (cs : Nat → ClassId) (h : Nat) (q : Nat → Nat) : Nat × va_E := (q 20, .inl (cs 0, 5, .inl (fun _ => 0)))
abbrev mc21 (cs : Nat → ClassId) (h : Nat) (q : Nat → Nat) : Nat × va_E := (q 21, .inl (cs 0, 7, .inl (fun _ => 0)))
abbrev mc23 (cs : Nat → ClassId) (h : Nat) (q : Nat → Nat) : Nat × va_E := (q 23, .inl (cs 0, 6272, .inl (fun _ => 0)))
abbrev mc24 (cs : Nat → ClassId) (h : Nat) (q : Nat → Nat) : Nat × va_E := (q 24, .inl (cs 0, 6272, .inl (fun _ => 0)))
abbrev mc25 (cs : Nat → ClassId) (h : Nat) (q : Nat → Nat) : Nat × va_E := (q 25, .inl (cs 0, 6272, .inl (fun _ => 0)))
abbrev mc27 (cs : Nat → ClassId) (h : Nat) (q : Nat → Nat) : Nat × va_E := (q 27, .inl (cs 0, 64, .inl (fun _ => 0)))
abbrev mc31 (cs : Nat → ClassId) (h : Nat) (q : Nat → Nat) : Nat × va_E := (q 31, .inl (cs 0, 4, .inl (upd (upd (upd (upd (fun _ => 0) 0 (-1)) 1 (-1)) 2 (-1)) 3 (-1))))
abbrev mc32 (cs : Nat → ClassId) (h : Nat) (q : Nat → Nat) : Nat × va_E := (q 32, .inl (cs 0, 4, .inl (fun _ => 0)))
abbrev mc33 (cs : Nat → ClassId) (h : Nat) (q : Nat → Nat) : Nat × va_E := (q 33, .inl (cs 2, 240, .inr (.inl (fun _ => 0))))
abbrev mc34 (cs : Nat → ClassId) (h : Nat) (q : Nat → Nat) : Nat × va_E := (q 34, .inl (cs 2, 60, .inr (.inl (fun _ => 0))))
theorem ltT {a b : Int32} (h : a < b) : a.toInt < b.toInt := Int32.lt_iff_toInt_lt.mp h
theorem leT {a b : Int32} (h : a ≤ b) : a.toInt ≤ b.toInt := Int32.le_iff_toInt_le.mp h
theorem nltT {a b : Int32} (h : ¬ a < b) : b.toInt ≤ a.toInt := Int.not_lt.mp (fun q => h (Int32.lt_iff_toInt_lt.mpr q))
theorem nleT {a b : Int32} (h : ¬ a ≤ b) : b.toInt < a.toInt := Int.not_le.mp (fun q => h (Int32.le_iff_toInt_le.mpr q))
theorem eqT {a b : Int32} (h : a = b) : a.toInt = b.toInt := congrArg Int32.toInt h
theorem neT {a b : Int32} (h : ¬ a = b) : ¬ a.toInt = b.toInt := fun q => h (Int32.toInt_inj.mp q)
/-- whether a long lies between two -/
def inF (v lo hi : Int64) : Int32 := if lo ≤ v ∧ v ≤ hi then 1 else 0
theorem inF_a {v lo hi : Int64} (h : lg_cmp v lo < 0) : inF v lo hi = 0 := if_neg (fun q => absurd ((lg_cmp_lt v lo).mp h) (Int64.not_lt.mpr q.1))
theorem inF_b {v lo hi : Int64} (h : 0 < lg_cmp v hi) : inF v lo hi = 0 := if_neg (fun q => absurd ((lg_cmp_gt v hi).mp h) (Int64.not_lt.mpr q.2))
theorem inF_c {v lo hi : Int64} (h1 : ¬ lg_cmp v lo < 0) (h2 : ¬ 0 < lg_cmp v hi) : inF v lo hi = 1 := if_pos ⟨Int64.not_lt.mp (fun q => h1 ((lg_cmp_lt v lo).mpr q)), Int64.not_lt.mp (fun q => h2 ((lg_cmp_gt v hi).mpr q))⟩
theorem inF_y {a : Int32} {lo hi : Int64} (h : lo.toInt ≤ a.toInt ∧ a.toInt ≤ hi.toInt) : inF a.toInt64 lo hi = 1 := if_pos ⟨Int64.le_iff_toInt_le.mpr (by rw [Int32.toInt_toInt64]; exact h.1), Int64.le_iff_toInt_le.mpr (by rw [Int32.toInt_toInt64]; exact h.2)⟩
theorem inF_n {a : Int32} {lo hi : Int64} (h : a.toInt < lo.toInt ∨ hi.toInt < a.toInt) : inF a.toInt64 lo hi = 0 := if_neg (fun q => by
  have q1 := Int64.le_iff_toInt_le.mp q.1
  have q2 := Int64.le_iff_toInt_le.mp q.2
  rw [Int32.toInt_toInt64] at q1 q2
  omega)
theorem inF_o {v lo hi : Int64} (h : hi.toInt < lo.toInt) : inF v lo hi = 0 := if_neg (fun q => by
  have q1 := Int64.le_iff_toInt_le.mp q.1
  have q2 := Int64.le_iff_toInt_le.mp q.2
  omega)
theorem inF_z (v lo hi : Int64) : narrow .boolean (.int (inF v lo hi)) = .int (inF v lo hi) := by unfold inF; split <;> rfl
/-- whether an int lies between two -/
def inG (v lo hi : Int32) : Int32 := if lo ≤ v ∧ v ≤ hi then 1 else 0
theorem inG_a {v lo hi : Int32} (h : v < lo) : inG v lo hi = 0 := if_neg (fun q => absurd h (Int32.not_lt.mpr q.1))
theorem inG_b {v lo hi : Int32} (h : hi < v) : inG v lo hi = 0 := if_neg (fun q => absurd h (Int32.not_lt.mpr q.2))
theorem inG_c {v lo hi : Int32} (h1 : ¬ v < lo) (h2 : ¬ hi < v) : inG v lo hi = 1 := if_pos ⟨Int32.not_lt.mp h1, Int32.not_lt.mp h2⟩
theorem cs3 (x : Int32) : x < 0 ∨ 3 ≤ x ∨ x = 0 ∨ x = 1 ∨ x = 2 := by
  rcases pk_ix x (n := 3) (by decide) with h | h | ⟨j, hj, rfl⟩
  · exact Or.inl h
  · exact Or.inr (Or.inl h)
  · rcases (show j = 0 ∨ j = 1 ∨ j = 2 by omega) with rfl | rfl | rfl <;> simp [nI]
theorem cs4 (x : Int32) : x < 0 ∨ 4 ≤ x ∨ x = 0 ∨ x = 1 ∨ x = 2 ∨ x = 3 := by
  rcases pk_ix x (n := 4) (by decide) with h | h | ⟨j, hj, rfl⟩
  · exact Or.inl h
  · exact Or.inr (Or.inl h)
  · rcases (show j = 0 ∨ j = 1 ∨ j = 2 ∨ j = 3 by omega) with rfl | rfl | rfl | rfl <;> simp [nI]
theorem cs8 (x : Int32) : x < 0 ∨ 8 ≤ x ∨ x = 0 ∨ x = 1 ∨ x = 2 ∨ x = 3 ∨ x = 4 ∨ x = 5 ∨ x = 6 ∨ x = 7 := by
  rcases pk_ix x (n := 8) (by decide) with h | h | ⟨j, hj, rfl⟩
  · exact Or.inl h
  · exact Or.inr (Or.inl h)
  · rcases (show j = 0 ∨ j = 1 ∨ j = 2 ∨ j = 3 ∨ j = 4 ∨ j = 5 ∨ j = 6 ∨ j = 7 by omega) with rfl | rfl | rfl | rfl | rfl | rfl | rfl | rfl <;> simp [nI]
/-- fault of a fresh object -/
def spf (x : Int32) : Int32 := if x = 0 then 0 else -1
theorem csf (x : Int32) : x = 0 ∨ x = 1 ∨ (¬ x = 0 ∧ ¬ x = 1) := by
  by_cases h : x = 0
  · exact Or.inl h
  · by_cases h1 : x = 1
    · exact Or.inr (Or.inl h1)
    · exact Or.inr (Or.inr ⟨h, h1⟩)
/-- r for 0 .. k - 1, else d -/
def spk (k : Int32) (x r d : Int32) : Int32 := if x < 0 then d else if k ≤ x then d else r
theorem spk_lo {k x r d : Int32} (h : x < 0) : spk k x r d = d := if_pos h
theorem spk_hi {k x r d : Int32} (hk : 0 ≤ k) (h : k ≤ x) : spk k x r d = d := by
  unfold spk
  rw [if_neg (Int32.not_lt.mpr (Int32.le_trans hk h)), if_pos h]
theorem iTX0 : ∀ w ∈ u_ws RX0 TX0 3, w ∈ tb := by decide +kernel
theorem iTX1 : ∀ w ∈ u_ws RX1 TX1 7, w ∈ tb := by decide +kernel
theorem iTX2 : ∀ w ∈ u_ws RX2 TX2 3, w ∈ tb := by decide +kernel
theorem iTX3 : ∀ w ∈ u_ws RX3 TX3 14, w ∈ tb := by decide +kernel
theorem iTX4 : ∀ w ∈ u_ws RX4 TX4 1, w ∈ tb := by decide +kernel
theorem iTX5 : ∀ w ∈ u_ws RX5 TX5 4, w ∈ tb := by decide +kernel
theorem iTX6 : ∀ w ∈ u_ws RX6 TX6 7, w ∈ tb := by decide +kernel
theorem iTX7 : ∀ w ∈ u_ws RX7 TX7 4, w ∈ tb := by decide +kernel
theorem iTX8 : ∀ w ∈ u_ws RX8 TX8 4, w ∈ tb := by decide +kernel
theorem iTX9 : ∀ w ∈ u_ws RX9 TX9 2, w ∈ tb := by decide +kernel
theorem iTX10 : ∀ w ∈ u_ws RX10 TX10 12, w ∈ tb := by decide +kernel
theorem iTX11 : ∀ w ∈ u_ws RX11 TX11 35, w ∈ tb := by decide +kernel
