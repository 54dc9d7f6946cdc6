theorem IB0 {fl fh al ah : Nat → Int} {F : Nat → Int32} {A : Nat → Nat → Int32} (h1 : ∀ k : Nat, fl k ≤ (F k).toInt ∧ (F k).toInt ≤ fh k) (h2 : ∀ a j : Nat, al a ≤ (A a j).toInt ∧ (A a j).toInt ≤ ah a) : IB fl fh al ah F A := ⟨h1, h2⟩
theorem I0X0 : IX0 (fun _ => 0) (fun _ _ => 0) := IB0 (fun k => by
  show flX0 k ≤ (0 : Int32).toInt ∧ (0 : Int32).toInt ≤ fhX0 k
  unfold flX0 fhX0
  (repeat' split) <;> first | decide | contradiction | simp_all) (fun a j => by
  show alX0 a ≤ (0 : Int32).toInt ∧ (0 : Int32).toInt ≤ ahX0 a
  unfold alX0 ahX0
  (repeat' split) <;> first | decide | contradiction | simp_all)
theorem I0X1 : IX1 (fun k => if k = 6 then -1 else 0) (fun _ _ => 0) := IB0 (fun k => by
  by_cases h6 : k = 6
  · subst h6; decide
  show flX1 k ≤ (if k = 6 then (-1 : Int32) else 0).toInt ∧ (if k = 6 then (-1 : Int32) else 0).toInt ≤ fhX1 k
  rw [if_neg h6]
  unfold flX1 fhX1
  (repeat' split) <;> first | decide | contradiction | simp_all) (fun a j => by
  show alX1 a ≤ (0 : Int32).toInt ∧ (0 : Int32).toInt ≤ ahX1 a
  unfold alX1 ahX1
  (repeat' split) <;> first | decide | contradiction | simp_all)
theorem I0X2 : IX2 (fun _ => 0) (fun _ _ => 0) := IB0 (fun k => by
  show flX2 k ≤ (0 : Int32).toInt ∧ (0 : Int32).toInt ≤ fhX2 k
  unfold flX2 fhX2
  (repeat' split) <;> first | decide | contradiction | simp_all) (fun a j => by
  show alX2 a ≤ (0 : Int32).toInt ∧ (0 : Int32).toInt ≤ ahX2 a
  unfold alX2 ahX2
  (repeat' split) <;> first | decide | contradiction | simp_all)
theorem I0X3 : IX3 (fun _ => 0) (fun _ _ => 0) := IB0 (fun k => by
  show flX3 k ≤ (0 : Int32).toInt ∧ (0 : Int32).toInt ≤ fhX3 k
  unfold flX3 fhX3
  (repeat' split) <;> first | decide | contradiction | simp_all) (fun a j => by
  show alX3 a ≤ (0 : Int32).toInt ∧ (0 : Int32).toInt ≤ ahX3 a
  unfold alX3 ahX3
  (repeat' split) <;> first | decide | contradiction | simp_all)
theorem I0X4 : IX4 (fun _ => 0) (fun _ _ => 0) := IB0 (fun k => by
  show flX4 k ≤ (0 : Int32).toInt ∧ (0 : Int32).toInt ≤ fhX4 k
  unfold flX4 fhX4
  (repeat' split) <;> first | decide | contradiction | simp_all) (fun a j => by
  show alX4 a ≤ (0 : Int32).toInt ∧ (0 : Int32).toInt ≤ ahX4 a
  unfold alX4 ahX4
  (repeat' split) <;> first | decide | contradiction | simp_all)
theorem I0X5 : IX5 (fun _ => 0) (fun _ _ => 0) := IB0 (fun k => by
  show flX5 k ≤ (0 : Int32).toInt ∧ (0 : Int32).toInt ≤ fhX5 k
  unfold flX5 fhX5
  (repeat' split) <;> first | decide | contradiction | simp_all) (fun a j => by
  show alX5 a ≤ (0 : Int32).toInt ∧ (0 : Int32).toInt ≤ ahX5 a
  unfold alX5 ahX5
  (repeat' split) <;> first | decide | contradiction | simp_all)
theorem I0X6 : IX6 (fun k => if k = 6 then -1 else 0) (fun _ _ => 0) := IB0 (fun k => by
  by_cases h6 : k = 6
  · subst h6; decide
  show flX6 k ≤ (if k = 6 then (-1 : Int32) else 0).toInt ∧ (if k = 6 then (-1 : Int32) else 0).toInt ≤ fhX6 k
  rw [if_neg h6]
  unfold flX6 fhX6
  (repeat' split) <;> first | decide | contradiction | simp_all) (fun a j => by
  show alX6 a ≤ (0 : Int32).toInt ∧ (0 : Int32).toInt ≤ ahX6 a
  unfold alX6 ahX6
  (repeat' split) <;> first | decide | contradiction | simp_all)
theorem I0X7 : IX7 (fun _ => 0) (fun _ _ => 0) := IB0 (fun k => by
  show flX7 k ≤ (0 : Int32).toInt ∧ (0 : Int32).toInt ≤ fhX7 k
  unfold flX7 fhX7
  (repeat' split) <;> first | decide | contradiction | simp_all) (fun a j => by
  show alX7 a ≤ (0 : Int32).toInt ∧ (0 : Int32).toInt ≤ ahX7 a
  unfold alX7 ahX7
  (repeat' split) <;> first | decide | contradiction | simp_all)
theorem I0X8 : IX8 (fun _ => 0) (fun _ _ => 0) := IB0 (fun k => by
  show flX8 k ≤ (0 : Int32).toInt ∧ (0 : Int32).toInt ≤ fhX8 k
  unfold flX8 fhX8
  (repeat' split) <;> first | decide | contradiction | simp_all) (fun a j => by
  show alX8 a ≤ (0 : Int32).toInt ∧ (0 : Int32).toInt ≤ ahX8 a
  unfold alX8 ahX8
  (repeat' split) <;> first | decide | contradiction | simp_all)
theorem I0X9 : IX9 (fun _ => 0) (fun _ _ => 0) := IB0 (fun k => by
  show flX9 k ≤ (0 : Int32).toInt ∧ (0 : Int32).toInt ≤ fhX9 k
  unfold flX9 fhX9
  (repeat' split) <;> first | decide | contradiction | simp_all) (fun a j => by
  show alX9 a ≤ (0 : Int32).toInt ∧ (0 : Int32).toInt ≤ ahX9 a
  unfold alX9 ahX9
  (repeat' split) <;> first | decide | contradiction | simp_all)
theorem I0X10 : IX10 (fun _ => 0) (fun _ _ => 0) := IB0 (fun k => by
  show flX10 k ≤ (0 : Int32).toInt ∧ (0 : Int32).toInt ≤ fhX10 k
  unfold flX10 fhX10
  (repeat' split) <;> first | decide | contradiction | simp_all) (fun a j => by
  show alX10 a ≤ (0 : Int32).toInt ∧ (0 : Int32).toInt ≤ ahX10 a
  unfold alX10 ahX10
  (repeat' split) <;> first | decide | contradiction | simp_all)
theorem XI0 : XI xF0 xA0 := ⟨I0X10, I0X6, I0X9, I0X3, I0X8, I0X3, I0X5, I0X5, I0X0, I0X1, I0X4, I0X2, I0X7, I0X7, I0X7, I0X7, I0X8, I0X3, I0X8, I0X3, I0X8, I0X3, I0X5, I0X5, I0X5, I0X5, I0X5⟩
theorem wb0 (j : Nat) : wLo j ≤ (0 : Int32).toInt ∧ (0 : Int32).toInt ≤ wHi j := w0b j
theorem MI0 : MI mF0 mA0 := by
  refine ⟨⟨fun k => ?_, fun a j => ?_⟩, ?_, ?_⟩
  · unfold mF0
    by_cases hk : k = 13
    · subst hk; decide
    · rw [if_neg hk]
      unfold fLo fHi
      (repeat' split) <;> first | decide | contradiction | simp_all
  · unfold mA0
    by_cases ha : a = 31
    · subst ha
      rw [if_pos rfl]
      show (-1 : Int) ≤ _ ∧ _ ≤ (60 : Int)
      unfold upd
      repeat' split
      all_goals first | decide | (show (-1 : Int) ≤ (0 : Int32).toInt ∧ (0 : Int32).toInt ≤ 60; decide)
    · rw [if_neg ha]
      show aLo a j ≤ (0 : Int32).toInt ∧ (0 : Int32).toInt ≤ aHi a j
      unfold aLo aHi
      (repeat' split) <;> first | exact wb0 _ | decide | contradiction | simp_all
  · intro q hq; exact absurd hq (by show ¬ ((q : Int) < (0 : Int32).toInt); rw [c0T]; omega)
  · intro k _ q hq; exact absurd hq (by show ¬ ((q : Int) < (0 : Int32).toInt); rw [c0T]; omega)
theorem RI0 : RI xF0 mA0 := ⟨Or.inl ⟨by decide, by decide⟩, Or.inl ⟨by decide, by decide⟩, Or.inl ⟨by decide, by decide⟩, Or.inl ⟨by decide, by decide⟩, Or.inl ⟨by decide, by decide⟩, Or.inl ⟨by decide, by decide⟩, Or.inl ⟨by decide, by decide⟩⟩
