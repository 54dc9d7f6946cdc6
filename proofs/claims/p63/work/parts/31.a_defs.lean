abbrev LW (cs : Nat → ClassId) (h1 : Nat) (Q : Nat → Nat → Nat) (h2 : Nat) (q2 : Nat → Nat) (F : Nat → Nat → Int32) (A : Nat → Nat → Nat → Int32) (B : Nat → Nat → Nat → Int64) (D : Nat → Int64) (MF : Nat → Int32) (MA : Nat → Nat → Int32) (MD : Int64) (MB : Nat → Nat → Int64) : va_W := XLW cs h1 Q F A B D ++ mS cs h2 q2 MF MA MD MB
abbrev MI (MF : Nat → Int32) (MA : Nat → Nat → Int32) : Prop := IM MF MA ∧ WG (MA 1) ∧ ∀ k : Nat, k < 3 → WG (im (MA 2) k)
/-- a SLOT of both -/
def SR (mk w n M Wd : Int32) : Prop := (mk.toInt = 0 ∧ M.toInt = -1) ∨ (¬ mk.toInt = 0 ∧ M.toInt = n.toInt ∧ 0 ≤ n.toInt ∧ Wd.toInt = w.toInt)
abbrev RI (F : Nat → Nat → Int32) (MA : Nat → Nat → Int32) : Prop := (((F 16 3).toInt = 0 ∧ (MA 3 0).toInt = 0) ∨ (¬ (F 16 3).toInt = 0 ∧ ¬ (MA 3 0).toInt = 0)) ∧ (((F 18 3).toInt = 0 ∧ (MA 3 1).toInt = 0) ∨ (¬ (F 18 3).toInt = 0 ∧ ¬ (MA 3 1).toInt = 0)) ∧ (((F 20 3).toInt = 0 ∧ (MA 3 2).toInt = 0) ∨ (¬ (F 20 3).toInt = 0 ∧ ¬ (MA 3 2).toInt = 0)) ∧ SR (F 12 1) (F 12 2) (F 12 3) (MA 31 0) (MA 32 0) ∧ SR (F 13 1) (F 13 2) (F 13 3) (MA 31 1) (MA 32 1) ∧ SR (F 14 1) (F 14 2) (F 14 3) (MA 31 2) (MA 32 2) ∧ SR (F 15 1) (F 15 2) (F 15 3) (MA 31 3) (MA 32 3)
section LawDefs
variable (p : Program) (l : Launch) (e : Env) (s : State) (m : MethodId) (below : List Frame) (meth : Method) (c : Code) (b : Nat) (G : va_G) (cs : Nat → ClassId) (h1 : Nat) (Q : Nat → Nat → Nat) (h2 : Nat) (q2 : Nat → Nat) (i : Int32)
/-- the law at pc, with the stack st -/
abbrev LGo (H : Heap) (locs : List Loc) (ls : Array Slot) (pc : Nat) (st : List Value) : Prop := W p l e room_1 s m #[Value.ref b] below meth c H locs 121 26756 (lw_Z below #[Value.ref b] s) (F0 m pc ls st)
/-- it goes on at pc from every state that is as it should be -/
def LKK (pc : Nat) : Prop := ∀ (F : Nat → Nat → Int32) (A : Nat → Nat → Nat → Int32) (B : Nat → Nat → Nat → Int64) (D : Nat → Int64) (MF : Nat → Int32) (MA : Nat → Nat → Int32) (MD : Int64) (MB : Nat → Nat → Int64) (H : Heap) (locs : List Loc) (ls : Array Slot), XI F A → MI MF MA → RI F MA → va_P G vwCl (LW cs h1 Q h2 q2 F A B D MF MA MD MB) H → va_D (fun q : Nat => s.heap.size ≤ q) (LW cs h1 Q h2 q2 F A B D MF MA MD MB) → va_S (fun q : Nat => s.heap.size ≤ q) s.heap H locs → lv_has ls 4 [(3, .int i), (2, .ref h2), (1, .ref h1), (0, .ref b)] → LGo p l e s m below meth c b H locs ls pc []
/-- a case of the law's switch -/
def LCase (L : Nat) (xs : Nat → Int32) (sd : Nat → Nat × Nat) (k : Int32) : Prop := lw_At p s m meth c b L xs → L ≤ 3072 → KK G (TY cs) s → SQ SRR sd (fun q : Nat => s.heap.size ≤ q) s s.heap → SQ SRM sd (fun q : Nat => s.heap.size ≤ q) s s.heap → 0 ≤ i.toInt → i.toInt + 6 ≤ L → LKK p l e s m below meth c b G cs h1 Q h2 q2 i 2156 → ∀ (F : Nat → Nat → Int32) (A : Nat → Nat → Nat → Int32) (B : Nat → Nat → Nat → Int64) (D : Nat → Int64) (MF : Nat → Int32) (MA : Nat → Nat → Int32) (MD : Int64) (MB : Nat → Nat → Int64) (H : Heap) (locs : List Loc) (ls : Array Slot), XI F A → MI MF MA → RI F MA → va_P G vwCl (LW cs h1 Q h2 q2 F A B D MF MA MD MB) H → va_D (fun q : Nat => s.heap.size ≤ q) (LW cs h1 Q h2 q2 F A B D MF MA MD MB) → va_S (fun q : Nat => s.heap.size ≤ q) s.heap H locs → lv_has ls 4 [(3, .int i), (2, .ref h2), (1, .ref h1), (0, .ref b)] → LGo p l e s m below meth c b H locs ls 33 [.int k]
end LawDefs
theorem csN4 (x : Int32) : x.toInt < 0 ∨ 4 ≤ x.toInt ∨ x = 0 ∨ x = 1 ∨ x = 2 ∨ x = 3 := by
  rcases pk_ix x (n := 4) (by decide) with h | h | ⟨j, hj, rfl⟩
  · exact Or.inl (by have z := ltT h; rw [c0T] at z; exact z)
  · exact Or.inr (Or.inl (by have z := leT h; rw [nI_toInt (by decide)] at z; exact z))
  · rcases (show j = 0 ∨ j = 1 ∨ j = 2 ∨ j = 3 by omega) with rfl | rfl | rfl | rfl <;> simp [nI]
theorem RowMe {r a b n : Int32} {m m' w w' : Nat → Int32} (h : RowM r a b n m m' w w') : (r.toInt = -2 ∧ (a.toInt < 0 ∨ 3 < a.toInt ∨ b.toInt < 0 ∨ 3 < b.toInt ∨ 60 < n.toInt)) ∨ (r.toInt = -3 ∧ (0 ≤ a.toInt ∧ a.toInt ≤ 3) ∧ (0 ≤ b.toInt ∧ b.toInt ≤ 3) ∧ n.toInt < 0) ∨ (r.toInt = 0 ∧ (0 ≤ a.toInt ∧ a.toInt ≤ 3) ∧ (0 ≤ b.toInt ∧ b.toInt ≤ 3) ∧ (0 ≤ n.toInt ∧ n.toInt ≤ 60)) := by
  rcases h with h | h | h
  · exact Or.inl ⟨h.1, h.2.1⟩
  · exact Or.inr (Or.inl ⟨h.1, h.2.1, h.2.2.1, h.2.2.2.1⟩)
  · exact Or.inr (Or.inr ⟨h.1, h.2.1, h.2.2.1, h.2.2.2.1⟩)
theorem RowM31 {r a b n : Int32} {m m' w w' : Nat → Int32} {k : Nat} (h : RowM r a b n m m' w w') (hk : a.toNatClampNeg = k) (j : Nat) (hj : ¬ j = k) : m' j = m j := by
  rcases h with h | h | h
  · rw [h.2.2.1]
  · rw [h.2.2.2.2.1]
  · rw [h.2.2.2.2.1, hk]; exact if_neg hj
theorem RowM32 {r a b n : Int32} {m m' w w' : Nat → Int32} {k : Nat} (h : RowM r a b n m m' w w') (hk : a.toNatClampNeg = k) (j : Nat) (hj : ¬ j = k) : w' j = w j := by
  rcases h with h | h | h
  · rw [h.2.2.2]
  · rw [h.2.2.2.2.2]
  · rw [h.2.2.2.2.2, hk]; exact if_neg hj
theorem RowSR {r a b n : Int32} {m m' w w' : Nat → Int32} {k : Nat} {mk wd sz mk' wd' sz' r' : Int32} (h : RowM r a b n m m' w w') (hs : SR mk wd sz (m k) (w k)) (hk : a.toNatClampNeg = k) (ha : 0 ≤ a.toInt ∧ a.toInt ≤ 3)
    (hx : (r'.toInt = -2 ∧ (b.toInt < 0 ∨ 3 < b.toInt ∨ 60 < n.toInt) ∧ mk'.toInt = mk.toInt ∧ wd'.toInt = wd.toInt ∧ sz'.toInt = sz.toInt) ∨ (r'.toInt = -3 ∧ 0 ≤ b.toInt ∧ b.toInt ≤ 3 ∧ n.toInt < 0 ∧ mk'.toInt = mk.toInt ∧ wd'.toInt = wd.toInt ∧ sz'.toInt = sz.toInt) ∨ (r'.toInt = 0 ∧ 0 ≤ b.toInt ∧ b.toInt ≤ 3 ∧ 0 ≤ n.toInt ∧ n.toInt ≤ 60 ∧ mk'.toInt = 1 ∧ wd'.toInt = b.toInt ∧ sz'.toInt = n.toInt)) : SR mk' wd' sz' (m' k) (w' k) := by
  have hs : (mk.toInt = 0 ∧ (m k).toInt = -1) ∨ (¬ mk.toInt = 0 ∧ (m k).toInt = sz.toInt ∧ 0 ≤ sz.toInt ∧ (w k).toInt = wd.toInt) := hs
  show (mk'.toInt = 0 ∧ (m' k).toInt = -1) ∨ (¬ mk'.toInt = 0 ∧ (m' k).toInt = sz'.toInt ∧ 0 ≤ sz'.toInt ∧ (w' k).toInt = wd'.toInt)
  rcases h with ⟨h1, h2, h3, h4⟩ | ⟨h1, h2, h3, h4, h5, h6⟩ | ⟨h1, h2, h3, h4, h5, h6⟩
  · rw [h3, h4]; omega
  · rw [h5, h6]; omega
  · have e1 : m' k = n := by rw [h5, hk]; exact if_pos rfl
    have e2 : w' k = b := by rw [h6, hk]; exact if_pos rfl
    rw [e1, e2]; omega
