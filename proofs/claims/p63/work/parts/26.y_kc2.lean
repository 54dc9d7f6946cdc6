/-- a number that was taken: none, or within -/
def TNk (r : Int32) (lo hi : Int) : Prop := r.toInt = -1 ∨ (lo ≤ r.toInt ∧ r.toInt ≤ hi)
theorem TNe {r : Int32} {lo hi : Int} (h : TNk r lo hi) : r.toInt = -1 ∨ (lo ≤ r.toInt ∧ r.toInt ≤ hi) := h
