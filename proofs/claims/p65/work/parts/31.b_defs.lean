abbrev LUs (cs : Nat → ClassId) (h1 : Nat) (Q : Nat → Nat → Nat) (h2 : Nat) (q2 : Nat → Nat) (F : Nat → Nat → Int32) (A : Nat → Nat → Nat → Int32) (B : Nat → Nat → Nat → Int64) (D : Nat → Int64) (MF : Nat → Int32) (MA : Nat → Nat → Int32) (MD : Int64) (MB : Nat → Nat → Int64) : List va_W := [(uX10 cs h1 (Q 0) (F 0) (A 0) (B 0) (D 0)), (uX6 cs (Q 0 0) (fun _ => Q 0 1) (F 1) (A 1) (B 1) (D 1)), (uX9 cs (Q 0 1) (Q 2) (F 2) (A 2) (B 2) (D 2)), (uX3 cs (Q 0 2) (Q 3) (F 3) (A 3) (B 3) (D 3)), (uX8 cs (Q 0 3) (Q 4) (F 4) (A 4) (B 4) (D 4)), (uX3 cs (Q 4 0) (Q 5) (F 5) (A 5) (B 5) (D 5)), (uX5 cs (Q 0 6) (Q 6) (F 6) (A 6) (B 6) (D 6)), (uX5 cs (Q 0 7) (Q 7) (F 7) (A 7) (B 7) (D 7)), (uX0 cs (Q 0 8) (Q 8) (F 8) (A 8) (B 8) (D 8)), (uX1 cs (Q 0 9) (Q 9) (F 9) (A 9) (B 9) (D 9)), (uX4 cs (Q 0 10) (Q 10) (F 10) (A 10) (B 10) (D 10)), (uX2 cs (Q 0 11) (Q 11) (F 11) (A 11) (B 11) (D 11)), (uX7 cs (Q 0 20) (Q 12) (F 12) (A 12) (B 12) (D 12)), (uX7 cs (Q 0 21) (Q 13) (F 13) (A 13) (B 13) (D 13)), (uX7 cs (Q 0 22) (Q 14) (F 14) (A 14) (B 14) (D 14)), (uX7 cs (Q 0 23) (Q 15) (F 15) (A 15) (B 15) (D 15)), (uX8 cs (Q 0 30) (Q 16) (F 16) (A 16) (B 16) (D 16)), (uX3 cs (Q 16 0) (Q 17) (F 17) (A 17) (B 17) (D 17)), (uX8 cs (Q 0 31) (Q 18) (F 18) (A 18) (B 18) (D 18)), (uX3 cs (Q 18 0) (Q 19) (F 19) (A 19) (B 19) (D 19)), (uX8 cs (Q 0 32) (Q 20) (F 20) (A 20) (B 20) (D 20)), (uX3 cs (Q 20 0) (Q 21) (F 21) (A 21) (B 21) (D 21)), (uX5 cs (Q 8 10) (Q 22) (F 22) (A 22) (B 22) (D 22)), (uX5 cs (Q 8 11) (Q 23) (F 23) (A 23) (B 23) (D 23)), (uX5 cs (Q 8 12) (Q 24) (F 24) (A 24) (B 24) (D 24)), (uX5 cs (Q 8 13) (Q 25) (F 25) (A 25) (B 25) (D 25)), (uX5 cs (Q 8 14) (Q 26) (F 26) (A 26) (B 26) (D 26)), (mS cs h2 q2 MF MA MD MB)]
abbrev LW (cs : Nat → ClassId) (h1 : Nat) (Q : Nat → Nat → Nat) (h2 : Nat) (q2 : Nat → Nat) (F : Nat → Nat → Int32) (A : Nat → Nat → Nat → Int32) (B : Nat → Nat → Nat → Int64) (D : Nat → Int64) (MF : Nat → Int32) (MA : Nat → Nat → Int32) (MD : Int64) (MB : Nat → Nat → Int64) : va_W := catW (LUs cs h1 Q h2 q2 F A B D MF MA MD MB)
abbrev MI (MF : Nat → Int32) (MA : Nat → Nat → Int32) : Prop := IM MF MA ∧ WG (MA 1) ∧ ∀ k : Nat, k < 3 → WG (im (MA 2) k)
/-- a SLOT of both -/
def SR (mk w n M Wd : Int32) : Prop := (mk.toInt = 0 ∧ M.toInt = -1) ∨ (¬ mk.toInt = 0 ∧ M.toInt = n.toInt ∧ 0 ≤ n.toInt ∧ Wd.toInt = w.toInt)
abbrev RI (F : Nat → Nat → Int32) (MA : Nat → Nat → Int32) : Prop := (((F 16 3).toInt = 0 ∧ (MA 3 0).toInt = 0) ∨ (¬ (F 16 3).toInt = 0 ∧ ¬ (MA 3 0).toInt = 0)) ∧ (((F 18 3).toInt = 0 ∧ (MA 3 1).toInt = 0) ∨ (¬ (F 18 3).toInt = 0 ∧ ¬ (MA 3 1).toInt = 0)) ∧ (((F 20 3).toInt = 0 ∧ (MA 3 2).toInt = 0) ∨ (¬ (F 20 3).toInt = 0 ∧ ¬ (MA 3 2).toInt = 0)) ∧ SR (F 12 1) (F 12 2) (F 12 3) (MA 31 0) (MA 32 0) ∧ SR (F 13 1) (F 13 2) (F 13 3) (MA 31 1) (MA 32 1) ∧ SR (F 14 1) (F 14 2) (F 14 3) (MA 31 2) (MA 32 2) ∧ SR (F 15 1) (F 15 2) (F 15 3) (MA 31 3) (MA 32 3)
section LawDefs
variable (p : Program) (l : Launch) (e : Env) (s : State) (m : MethodId) (below : List Frame) (meth : Method) (c : Code) (b : Nat) (G : va_G) (cs : Nat → ClassId) (h1 : Nat) (Q : Nat → Nat → Nat) (h2 : Nat) (q2 : Nat → Nat) (i : Int32)
/-- the law at pc, with the stack st -/
abbrev LGo (H : Heap) (locs : List Loc) (ls : Array Slot) (pc : Nat) (st : List Value) : Prop := W p l e room_1 s m #[Value.ref b] below meth c H locs 121 26756 (lw_Z below #[Value.ref b] s) (F0 m pc ls st)
/-- it goes on at pc from every state that is as it should be -/
def LKK (pc : Nat) : Prop := ∀ (F : Nat → Nat → Int32) (A : Nat → Nat → Nat → Int32) (B : Nat → Nat → Nat → Int64) (D : Nat → Int64) (MF : Nat → Int32) (MA : Nat → Nat → Int32) (MD : Int64) (MB : Nat → Nat → Int64) (H : Heap) (locs : List Loc) (ls : Array Slot), XI F A → MI MF MA → RI F MA → va_P G vwCl (LW cs h1 Q h2 q2 F A B D MF MA MD MB) H → va_D (fun q : Nat => s.heap.size ≤ q) (LW cs h1 Q h2 q2 F A B D MF MA MD MB) → va_S (fun q : Nat => s.heap.size ≤ q) s.heap H locs → lv_has ls 4 [(3, .int i), (2, .ref h2), (1, .ref h1), (0, .ref b)] → LGo p l e s m below meth c b H locs ls pc []
/-- a case of the law's switch -/
def LCase (L : Nat) (xs : Nat → Int32) (sd : Nat → Nat × Nat) (k : Int32) : Prop := lw_At p s m meth c b L xs → L ≤ 3072 → KK G (TY cs) s → SQ SRR sd (fun q : Nat => s.heap.size ≤ q) s s.heap → SQ SRM sd (fun q : Nat => s.heap.size ≤ q) s s.heap → 0 ≤ i.toInt → i.toInt + 6 ≤ L → LKK p l e s m below meth c b G cs h1 Q h2 q2 i 2156 → ∀ (F : Nat → Nat → Int32) (A : Nat → Nat → Nat → Int32) (B : Nat → Nat → Nat → Int64) (D : Nat → Int64) (MF : Nat → Int32) (MA : Nat → Nat → Int32) (MD : Int64) (MB : Nat → Nat → Int64) (H : Heap) (locs : List Loc) (ls : Array Slot), XI F A → MI MF MA → RI F MA → va_P G vwCl (LW cs h1 Q h2 q2 F A B D MF MA MD MB) H → va_D (fun q : Nat => s.heap.size ≤ q) (LW cs h1 Q h2 q2 F A B D MF MA MD MB) → va_S (fun q : Nat => s.heap.size ≤ q) s.heap H locs → lv_has ls 4 [(3, .int i), (2, .ref h2), (1, .ref h1), (0, .ref b)] → LGo p l e s m below meth c b H locs ls 33 [.int k]
end LawDefs
theorem csN4 (x : Int32) : x.toInt < 0 ∨ 4 ≤ x.toInt ∨ x = 0 ∨ x = 1 ∨ x = 2 ∨ x = 3 := by
  rcases pk_ix x (n := 4) (by decide) with h | h | ⟨j, hj, rfl⟩
  · exact Or.inl (by have z := ltT h; rw [c0T] at z; exact z)
  · exact Or.inr (Or.inl (by have z := leT h; rw [nI_toInt (by decide)] at z; exact z))
  · rcases (show j = 0 ∨ j = 1 ∨ j = 2 ∨ j = 3 by omega) with rfl | rfl | rfl | rfl <;> simp [nI]
/-- what paste answers on both sides -/
theorem PasteE {mi mj wi wj si sj Mi Mj Wi Wj a t i k n r r' : Int} (h1 : (mi = 0 ∧ Mi = -1) ∨ (¬ mi = 0 ∧ Mi = si ∧ 0 ≤ si ∧ Wi = wi)) (h2 : (mj = 0 ∧ Mj = -1) ∨ (¬ mj = 0 ∧ Mj = sj ∧ 0 ≤ sj ∧ Wj = wj))
    (hx : ((mi = 0 ∨ mj = 0) ∧ r = -6) ∨ (¬ mi = 0 ∧ ¬ mj = 0 ∧ ¬ wi = wj ∧ r = -8) ∨ (¬ mi = 0 ∧ ¬ mj = 0 ∧ wi = wj ∧ (i < 0 ∨ k < 0 ∨ n < 0 ∨ si < i + n ∨ sj < k + n) ∧ r = -7) ∨ (¬ mi = 0 ∧ ¬ mj = 0 ∧ wi = wj ∧ ¬ (i < 0 ∨ k < 0 ∨ n < 0 ∨ si < i + n ∨ sj < k + n) ∧ r = 0))
    (hm : (r' = -2 ∧ (a < 0 ∨ 3 < a ∨ t < 0 ∨ 3 < t)) ∨ ((0 ≤ a ∧ a ≤ 3) ∧ (0 ≤ t ∧ t ≤ 3) ∧ (Mi = -1 ∨ Mj = -1) ∧ r' = -6) ∨ ((0 ≤ a ∧ a ≤ 3) ∧ (0 ≤ t ∧ t ≤ 3) ∧ ¬ Mi = -1 ∧ ¬ Mj = -1 ∧ ¬ Wi = Wj ∧ r' = -8) ∨ ((0 ≤ a ∧ a ≤ 3) ∧ (0 ≤ t ∧ t ≤ 3) ∧ ¬ Mi = -1 ∧ ¬ Mj = -1 ∧ Wi = Wj ∧ (i < 0 ∨ k < 0 ∨ n < 0 ∨ Mi < i + n ∨ Mj < k + n) ∧ r' = -7) ∨ ((0 ≤ a ∧ a ≤ 3) ∧ (0 ≤ t ∧ t ≤ 3) ∧ ¬ Mi = -1 ∧ ¬ Mj = -1 ∧ Wi = Wj ∧ ¬ (i < 0 ∨ k < 0 ∨ n < 0 ∨ Mi < i + n ∨ Mj < k + n) ∧ r' = 0))
    (ha : 0 ≤ a ∧ a ≤ 3) (ht : 0 ≤ t ∧ t ≤ 3) : r = r' := by
  rcases hx with hx | hx | hx | hx <;> rcases hm with hm | hm | hm | hm | hm <;> rcases h1 with h1 | h1 <;> rcases h2 with h2 | h2 <;> omega
theorem RowMe {r a b n : Int32} {m m' w w' : Nat → Int32} (h : RowM r a b n m m' w w') : (r.toInt = -2 ∧ (a.toInt < 0 ∨ 3 < a.toInt ∨ b.toInt < 0 ∨ 3 < b.toInt ∨ 60 < n.toInt)) ∨ (r.toInt = -3 ∧ (0 ≤ a.toInt ∧ a.toInt ≤ 3) ∧ (0 ≤ b.toInt ∧ b.toInt ≤ 3) ∧ n.toInt < 0) ∨ (r.toInt = 0 ∧ (0 ≤ a.toInt ∧ a.toInt ≤ 3) ∧ (0 ≤ b.toInt ∧ b.toInt ≤ 3) ∧ (0 ≤ n.toInt ∧ n.toInt ≤ 60)) := by
  rcases h with h | h | h
  · exact Or.inl ⟨h.1, h.2.1⟩
  · exact Or.inr (Or.inl ⟨h.1, h.2.1, h.2.2.1, h.2.2.2.1⟩)
  · exact Or.inr (Or.inr ⟨h.1, h.2.1, h.2.2.1, h.2.2.2.1⟩)
theorem RowM31 {r a b n : Int32} {m m' w w' : Nat → Int32} {k : Nat} (h : RowM r a b n m m' w w') (hk : a.toNatClampNeg = k) (j : Nat) (hj : ¬ j = k) : m' j = m j := by
  rcases h with h | h | h
  · rw [h.2.2.1]
  · rw [h.2.2.2.2.1]
  · rw [h.2.2.2.2.1, hk]; exact if_neg hj
theorem RowM32 {r a b n : Int32} {m m' w w' : Nat → Int32} {k : Nat} (h : RowM r a b n m m' w w') (hk : a.toNatClampNeg = k) (j : Nat) (hj : ¬ j = k) : w' j = w j := by
  rcases h with h | h | h
  · rw [h.2.2.2]
  · rw [h.2.2.2.2.2]
  · rw [h.2.2.2.2.2, hk]; exact if_neg hj
theorem RowSR {r a b n : Int32} {m m' w w' : Nat → Int32} {k : Nat} {mk wd sz mk' wd' sz' r' : Int32} (h : RowM r a b n m m' w w') (hs : SR mk wd sz (m k) (w k)) (hk : a.toNatClampNeg = k) (ha : 0 ≤ a.toInt ∧ a.toInt ≤ 3)
    (hx : (r'.toInt = -2 ∧ (b.toInt < 0 ∨ 3 < b.toInt ∨ 60 < n.toInt) ∧ mk'.toInt = mk.toInt ∧ wd'.toInt = wd.toInt ∧ sz'.toInt = sz.toInt) ∨ (r'.toInt = -3 ∧ 0 ≤ b.toInt ∧ b.toInt ≤ 3 ∧ n.toInt < 0 ∧ mk'.toInt = mk.toInt ∧ wd'.toInt = wd.toInt ∧ sz'.toInt = sz.toInt) ∨ (r'.toInt = 0 ∧ 0 ≤ b.toInt ∧ b.toInt ≤ 3 ∧ 0 ≤ n.toInt ∧ n.toInt ≤ 60 ∧ mk'.toInt = 1 ∧ wd'.toInt = b.toInt ∧ sz'.toInt = n.toInt)) : SR mk' wd' sz' (m' k) (w' k) := by
  have hs : (mk.toInt = 0 ∧ (m k).toInt = -1) ∨ (¬ mk.toInt = 0 ∧ (m k).toInt = sz.toInt ∧ 0 ≤ sz.toInt ∧ (w k).toInt = wd.toInt) := hs
  show (mk'.toInt = 0 ∧ (m' k).toInt = -1) ∨ (¬ mk'.toInt = 0 ∧ (m' k).toInt = sz'.toInt ∧ 0 ≤ sz'.toInt ∧ (w' k).toInt = wd'.toInt)
  rcases h with ⟨h1, h2, h3, h4⟩ | ⟨h1, h2, h3, h4, h5, h6⟩ | ⟨h1, h2, h3, h4, h5, h6⟩
  · rw [h3, h4]; omega
  · rw [h5, h6]; omega
  · have e1 : m' k = n := by rw [h5, hk]; exact if_pos rfl
    have e2 : w' k = b := by rw [h6, hk]; exact if_pos rfl
    rw [e1, e2]; omega
