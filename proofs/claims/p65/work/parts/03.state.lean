abbrev TY (cs : Nat → ClassId) : List (ClassId × FieldType) := [(cs 0, .int), (cs 1, .byte), (cs 2, .long), (cs 3, .boolean), (cs 4, .object "CallForBrown$State"), (cs 5, .object "CallForBrown$Row"), (cs 6, .object "CallForBrown$Parts"), (cs 7, .array .int)]
theorem ltT {a b : Int32} (h : a < b) : a.toInt < b.toInt := Int32.lt_iff_toInt_lt.mp h
theorem leT {a b : Int32} (h : a ≤ b) : a.toInt ≤ b.toInt := Int32.le_iff_toInt_le.mp h
theorem nltT {a b : Int32} (h : ¬ a < b) : b.toInt ≤ a.toInt := Int.not_lt.mp (fun q => h (Int32.lt_iff_toInt_lt.mpr q))
theorem nleT {a b : Int32} (h : ¬ a ≤ b) : b.toInt < a.toInt := Int.not_le.mp (fun q => h (Int32.le_iff_toInt_le.mpr q))
theorem eqT {a b : Int32} (h : a = b) : a.toInt = b.toInt := congrArg Int32.toInt h
theorem neT {a b : Int32} (h : ¬ a = b) : ¬ a.toInt = b.toInt := fun q => h (Int32.toInt_inj.mp q)
/-- whether a long lies between two -/
def inF (v lo hi : Int64) : Int32 := if lo ≤ v ∧ v ≤ hi then 1 else 0
theorem inF_a {v lo hi : Int64} (h : lg_cmp v lo < 0) : inF v lo hi = 0 := if_neg (fun q => absurd ((lg_cmp_lt v lo).mp h) (Int64.not_lt.mpr q.1))
theorem inF_b {v lo hi : Int64} (h : 0 < lg_cmp v hi) : inF v lo hi = 0 := if_neg (fun q => absurd ((lg_cmp_gt v hi).mp h) (Int64.not_lt.mpr q.2))
theorem inF_c {v lo hi : Int64} (h1 : ¬ lg_cmp v lo < 0) (h2 : ¬ 0 < lg_cmp v hi) : inF v lo hi = 1 := if_pos ⟨Int64.not_lt.mp (fun q => h1 ((lg_cmp_lt v lo).mpr q)), Int64.not_lt.mp (fun q => h2 ((lg_cmp_gt v hi).mpr q))⟩
theorem inF_y {a : Int32} {lo hi : Int64} (h : lo.toInt ≤ a.toInt ∧ a.toInt ≤ hi.toInt) : inF a.toInt64 lo hi = 1 := if_pos ⟨Int64.le_iff_toInt_le.mpr (by rw [Int32.toInt_toInt64]; exact h.1), Int64.le_iff_toInt_le.mpr (by rw [Int32.toInt_toInt64]; exact h.2)⟩
theorem inF_n {a : Int32} {lo hi : Int64} (h : a.toInt < lo.toInt ∨ hi.toInt < a.toInt) : inF a.toInt64 lo hi = 0 := if_neg (fun q => by
  have q1 := Int64.le_iff_toInt_le.mp q.1
  have q2 := Int64.le_iff_toInt_le.mp q.2
  rw [Int32.toInt_toInt64] at q1 q2
  omega)
theorem inF_o {v lo hi : Int64} (h : hi.toInt < lo.toInt) : inF v lo hi = 0 := if_neg (fun q => by
  have q1 := Int64.le_iff_toInt_le.mp q.1
  have q2 := Int64.le_iff_toInt_le.mp q.2
  omega)
theorem inF_z (v lo hi : Int64) : narrow .boolean (.int (inF v lo hi)) = .int (inF v lo hi) := by unfold inF; split <;> rfl
/-- whether an int lies between two -/
def inG (v lo hi : Int32) : Int32 := if lo ≤ v ∧ v ≤ hi then 1 else 0
theorem inG_a {v lo hi : Int32} (h : v < lo) : inG v lo hi = 0 := if_neg (fun q => absurd h (Int32.not_lt.mpr q.1))
theorem inG_b {v lo hi : Int32} (h : hi < v) : inG v lo hi = 0 := if_neg (fun q => absurd h (Int32.not_lt.mpr q.2))
theorem inG_c {v lo hi : Int32} (h1 : ¬ v < lo) (h2 : ¬ hi < v) : inG v lo hi = 1 := if_pos ⟨Int32.not_lt.mp h1, Int32.not_lt.mp h2⟩
theorem cs3 (x : Int32) : x < 0 ∨ 3 ≤ x ∨ x = 0 ∨ x = 1 ∨ x = 2 := by
  rcases pk_ix x (n := 3) (by decide) with h | h | ⟨j, hj, rfl⟩
  · exact Or.inl h
  · exact Or.inr (Or.inl h)
  · rcases (show j = 0 ∨ j = 1 ∨ j = 2 by omega) with rfl | rfl | rfl <;> simp [nI]
theorem cs4 (x : Int32) : x < 0 ∨ 4 ≤ x ∨ x = 0 ∨ x = 1 ∨ x = 2 ∨ x = 3 := by
  rcases pk_ix x (n := 4) (by decide) with h | h | ⟨j, hj, rfl⟩
  · exact Or.inl h
  · exact Or.inr (Or.inl h)
  · rcases (show j = 0 ∨ j = 1 ∨ j = 2 ∨ j = 3 by omega) with rfl | rfl | rfl | rfl <;> simp [nI]
theorem cs8 (x : Int32) : x < 0 ∨ 8 ≤ x ∨ x = 0 ∨ x = 1 ∨ x = 2 ∨ x = 3 ∨ x = 4 ∨ x = 5 ∨ x = 6 ∨ x = 7 := by
  rcases pk_ix x (n := 8) (by decide) with h | h | ⟨j, hj, rfl⟩
  · exact Or.inl h
  · exact Or.inr (Or.inl h)
  · rcases (show j = 0 ∨ j = 1 ∨ j = 2 ∨ j = 3 ∨ j = 4 ∨ j = 5 ∨ j = 6 ∨ j = 7 by omega) with rfl | rfl | rfl | rfl | rfl | rfl | rfl | rfl <;> simp [nI]
/-- fault of a fresh object -/
def spf (x : Int32) : Int32 := if x = 0 then 0 else -1
theorem csf (x : Int32) : x = 0 ∨ x = 1 ∨ (¬ x = 0 ∧ ¬ x = 1) := by
  by_cases h : x = 0
  · exact Or.inl h
  · by_cases h1 : x = 1
    · exact Or.inr (Or.inl h1)
    · exact Or.inr (Or.inr ⟨h, h1⟩)
/-- r for 0 .. k - 1, else d -/
def spk (k : Int32) (x r d : Int32) : Int32 := if x < 0 then d else if k ≤ x then d else r
theorem spk_lo {k x r d : Int32} (h : x < 0) : spk k x r d = d := if_pos h
theorem spk_hi {k x r d : Int32} (hk : 0 ≤ k) (h : k ≤ x) : spk k x r d = d := by
  unfold spk
  rw [if_neg (Int32.not_lt.mpr (Int32.le_trans hk h)), if_pos h]
theorem iTX0 : ∀ w ∈ u_ws RX0 TX0 3, w ∈ tb := by decide +kernel
theorem iTX1 : ∀ w ∈ u_ws RX1 TX1 7, w ∈ tb := by decide +kernel
theorem iTX2 : ∀ w ∈ u_ws RX2 TX2 3, w ∈ tb := by decide +kernel
theorem iTX3 : ∀ w ∈ u_ws RX3 TX3 14, w ∈ tb := by decide +kernel
theorem iTX4 : ∀ w ∈ u_ws RX4 TX4 1, w ∈ tb := by decide +kernel
theorem iTX5 : ∀ w ∈ u_ws RX5 TX5 4, w ∈ tb := by decide +kernel
theorem iTX6 : ∀ w ∈ u_ws RX6 TX6 7, w ∈ tb := by decide +kernel
theorem iTX7 : ∀ w ∈ u_ws RX7 TX7 4, w ∈ tb := by decide +kernel
theorem iTX8 : ∀ w ∈ u_ws RX8 TX8 4, w ∈ tb := by decide +kernel
theorem iTX9 : ∀ w ∈ u_ws RX9 TX9 2, w ∈ tb := by decide +kernel
theorem iTX10 : ∀ w ∈ u_ws RX10 TX10 12, w ∈ tb := by decide +kernel
theorem iTX11 : ∀ w ∈ u_ws RX11 TX11 35, w ∈ tb := by decide +kernel
