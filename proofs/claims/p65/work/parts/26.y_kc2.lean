/-- f, but v at k (the place and the value first: two such rows that differ there are told apart at once) -/
def upv (k : Nat) (v : Int32) (f : Nat → Int32) : Nat → Int32 := fun j => if j = k then v else f j
def vB {α : Type} (a : Nat) (g : Nat → α) (A : Nat → Nat → α) : Nat → Nat → α := fun b => if b = a then g else A b
theorem IB_pv {fl fh al ah : Nat → Int} {F : Nat → Int32} {A : Nat → Nat → Int32} {k : Nat} {v : Int32} (hI : IB fl fh al ah F A) (h : fl k ≤ v.toInt ∧ v.toInt ≤ fh k) : IB fl fh al ah (upv k v F) A := IB_put hI h
theorem IB_av {fl fh al ah : Nat → Int} {F : Nat → Int32} {A : Nat → Nat → Int32} {k : Nat} {g : Nat → Int32} (hI : IB fl fh al ah F A) (h : AJ (al k) (ah k) g) : IB fl fh al ah F (vB k g A) := IB_arr hI h
/-- a number that was taken: none, or within -/
def TNk (r : Int32) (lo hi : Int) : Prop := r.toInt = -1 ∨ (lo ≤ r.toInt ∧ r.toInt ≤ hi)
theorem TNe {r : Int32} {lo hi : Int} (h : TNk r lo hi) : r.toInt = -1 ∨ (lo ≤ r.toInt ∧ r.toInt ≤ hi) := h
