abbrev mS (cs : Nat → ClassId) (h : Nat) (q : Nat → Nat) (F : Nat → Int32) (A : Nat → Nat → Int32) (D : Int64) (B : Nat → Nat → Int64) : va_W := [(h, .inr (11, [.int (F 0), .ref (q 1), .ref (q 2), .ref (q 3), .ref (q 4), .int (F 5), .ref (q 6), .int (F 7), .int (F 8), .int (F 9), .int (F 10), .int (F 11), .int (F 12), .int (F 13), .ref (q 14), .ref (q 15), .ref (q 16), .int (F 17), .int (F 18), .ref (q 19), .ref (q 20), .ref (q 21), .int (F 22), .ref (q 23), .ref (q 24), .ref (q 25), .int (F 26), .ref (q 27), .long D, .int (F 29), .int (F 30), .ref (q 31), .ref (q 32), .ref (q 33), .ref (q 34)])), (q 1, .inl (cs 0, 144, .inl (A 1))), (q 2, .inl (cs 0, 432, .inl (A 2))), (q 3, .inl (cs 3, 3, .inl (A 3))), (q 4, .inl (cs 1, 900, .inl (A 4))), (q 6, .inl (cs 0, 5, .inl (A 6))), (q 14, .inl (cs 0, 144, .inl (A 14))), (q 15, .inl (cs 0, 7, .inl (A 15))), (q 16, .inl (cs 0, 7, .inl (A 16))), (q 19, .inl (cs 0, 5, .inl (A 19))), (q 20, .inl (cs 0, 5, .inl (A 20))), (q 21, .inl (cs 0, 7, .inl (A 21))), (q 23, .inl (cs 0, 6272, .inl (A 23))), (q 24, .inl (cs 0, 6272, .inl (A 24))), (q 25, .inl (cs 0, 6272, .inl (A 25))), (q 27, .inl (cs 0, 64, .inl (A 27))), (q 31, .inl (cs 0, 4, .inl (A 31))), (q 32, .inl (cs 0, 4, .inl (A 32))), (q 33, .inl (cs 2, 240, .inr (.inl (B 33)))), (q 34, .inl (cs 2, 60, .inr (.inl (B 34))))]
abbrev MS : Type := (Nat → Int32) × (Nat → Nat → Int32) × Int64 × (Nat → Nat → Int64)
abbrev mSu (cs : Nat → ClassId) (h : Nat) (q : Nat → Nat) (u : MS) : va_W := mS cs h q u.1 u.2.1 u.2.2.1 u.2.2.2
def fLo (k : Nat) : Int := match k with
  | 5 => 0
  | 7 => 0
  | 8 => 0
  | 9 => 0
  | 10 => 0
  | 11 => 0
  | 12 => 0
  | 13 => (-1)
  | 26 => 0
  | 29 => (-1)
  | 30 => (-1)
  | _ => (-2147483648)
def fHi (k : Nat) : Int := match k with
  | 5 => 900
  | 7 => 900
  | 8 => 900
  | 9 => 900
  | 10 => 4
  | 11 => 99999
  | 12 => 3
  | 13 => 900
  | 26 => 6272
  | 29 => 59
  | 30 => 6
  | _ => 2147483647
def wLo (j : Nat) : Int := if 84 ≤ j then -1 else if j = 6 then -2147483648 else if j < 4 then -2147483648 else 0
def wHi (j : Nat) : Int := if 84 ≤ j then 6 else if j = 6 then 2147483647 else if j < 4 then 2147483647 else if j = 4 then 7 else if j = 5 then 6 else if j = 7 then 60 else if j < 36 then (if j % 4 = 3 then 127 else if j % 4 = 2 then 99 else if j % 4 = 1 then 100 else 999) else if j % 8 = 4 then 99 else if j % 8 = 5 then 63 else 9
def aLo (a j : Nat) : Int := match a with
  | 1 => wLo j
  | 2 => wLo (j % 144)
  | 3 => 0
  | 19 => 0
  | 20 => 0
  | 31 => (-1)
  | 32 => 0
  | 14 => wLo j
  | _ => (-2147483648)
def aHi (a j : Nat) : Int := match a with
  | 1 => wHi j
  | 2 => wHi (j % 144)
  | 3 => 1
  | 19 => 6
  | 20 => 7
  | 31 => 60
  | 32 => 3
  | 14 => wHi j
  | _ => 2147483647
def IM (F : Nat → Int32) (A : Nat → Nat → Int32) : Prop := (∀ k : Nat, fLo k ≤ (F k).toInt ∧ (F k).toInt ≤ fHi k) ∧ ∀ a j : Nat, aLo a j ≤ (A a j).toInt ∧ (A a j).toInt ≤ aHi a j
/-- the arrays, but g for array a -/
def vA {α : Type} (A : Nat → Nat → α) (a : Nat) (g : Nat → α) : Nat → Nat → α := fun b => if b = a then g else A b
def AI (k : Nat) (g : Nat → Int32) : Prop := ∀ j : Nat, aLo k j ≤ (g j).toInt ∧ (g j).toInt ≤ aHi k j
theorem AI_upd {k i : Nat} {g : Nat → Int32} {v : Int32} (hg : AI k g) (h : aLo k i ≤ v.toInt ∧ v.toInt ≤ aHi k i) : AI k (upd g i v) := fun j => by
  unfold upd
  split
  · subst_vars; exact h
  · exact hg j
theorem IM_arr {F : Nat → Int32} {A : Nat → Nat → Int32} {k : Nat} {g : Nat → Int32} (hI : IM F A) (h : AI k g) : IM F (vA A k g) := ⟨hI.1, fun b j => by
  unfold vA
  split
  · subst_vars; exact h j
  · exact hI.2 b j⟩
theorem IM_put {F : Nat → Int32} {A : Nat → Nat → Int32} {k : Nat} {v : Int32} (hI : IM F A) (h : fLo k ≤ v.toInt ∧ v.toInt ≤ fHi k) : IM (upd F k v) A := ⟨fun j => by
  unfold upd
  split
  · subst_vars; exact h
  · exact hI.1 j, hI.2⟩
theorem IM_sto {F : Nat → Int32} {A : Nat → Nat → Int32} {a k : Nat} {v : Int32} (hI : IM F A) (h : aLo a k ≤ v.toInt ∧ v.toInt ≤ aHi a k) : IM F (vA A a (upd (A a) k v)) := ⟨hI.1, fun b j => by
  unfold vA
  split
  · subst_vars
    unfold upd
    split
    · subst_vars; exact h
    · exact hI.2 _ j
  · exact hI.2 b j⟩
theorem of_fact {F : Nat → Int32} {A : Nat → Nat → Int32} (hI : IM F A) {i : Int32} {r w : Int} (hi : i.toInt = 8 + 4 * r + w) (hr : 0 ≤ r ∧ r ≤ 6) (hw : 0 ≤ w ∧ w ≤ 3) : 0 ≤ (A 1 i.toNatClampNeg).toInt ∧ (A 1 i.toNatClampNeg).toInt ≤ 999 ∧ (w = 3 → (A 1 i.toNatClampNeg).toInt ≤ 127) ∧ (w = 2 → (A 1 i.toNatClampNeg).toInt ≤ 99) := by
  have hn := clK hi (by omega)
  generalize i.toNatClampNeg = n at hn ⊢
  have h := hI.2 1 n
  have e1 : aLo 1 n = 0 := by
    show wLo n = 0
    unfold wLo
    rw [if_neg (by omega), if_neg (by omega), if_neg (by omega)]
  have e2 : aHi 1 n = if n % 4 = 3 then 127 else if n % 4 = 2 then 99 else if n % 4 = 1 then 100 else 999 := by
    show wHi n = _
    unfold wHi
    rw [if_neg (by omega), if_neg (by omega), if_neg (by omega), if_neg (by omega), if_neg (by omega), if_neg (by omega), if_pos (by omega)]
  rw [e1, e2] at h
  refine ⟨h.1, ?_, fun h3 => ?_, fun h2 => ?_⟩
  · have := h.2
    split at this
    · omega
    · split at this
      · omega
      · split at this <;> omega
  · have := h.2
    rw [if_pos (by omega)] at this
    exact this
  · have := h.2
    rw [if_neg (by omega), if_pos (by omega)] at this
    exact this
theorem om_fact {F : Nat → Int32} {A : Nat → Nat → Int32} (hI : IM F A) {i : Int32} {r w : Int} (hi : i.toInt = 36 + 8 * r + w) (hr : 0 ≤ r ∧ r ≤ 5) (hw : 0 ≤ w ∧ w ≤ 7) : 0 ≤ (A 1 i.toNatClampNeg).toInt ∧ (A 1 i.toNatClampNeg).toInt ≤ 99 ∧ (w = 1 → (A 1 i.toNatClampNeg).toInt ≤ 63) ∧ (2 ≤ w → (A 1 i.toNatClampNeg).toInt ≤ 9) := by
  have hn := clK hi (by omega)
  generalize i.toNatClampNeg = n at hn ⊢
  have h := hI.2 1 n
  have e1 : aLo 1 n = 0 := by
    show wLo n = 0
    unfold wLo
    rw [if_neg (by omega), if_neg (by omega), if_neg (by omega)]
  have e2 : aHi 1 n = if n % 8 = 4 then 99 else if n % 8 = 5 then 63 else 9 := by
    show wHi n = _
    unfold wHi
    rw [if_neg (by omega), if_neg (by omega), if_neg (by omega), if_neg (by omega), if_neg (by omega), if_neg (by omega), if_neg (by omega)]
  rw [e1, e2] at h
  refine ⟨h.1, ?_, fun h3 => ?_, fun h2 => ?_⟩
  · have := h.2
    split at this
    · omega
    · split at this <;> omega
  · have := h.2
    rw [if_neg (by omega), if_pos (by omega)] at this
    exact this
  · have := h.2
    rw [if_neg (by omega), if_neg (by omega)] at this
    exact this
theorem w84e {n : Nat} (h : 84 ≤ n) : wLo n = -1 ∧ wHi n = 6 := by
  constructor
  · unfold wLo; rw [if_pos h]
  · unfold wHi; rw [if_pos h]
theorem w84 {k n : Nat} {g : Nat → Int32} (hg : AI k g) (hk : aLo k n = wLo n ∧ aHi k n = wHi n := by exact ⟨rfl, rfl⟩) (h : 84 ≤ n) : -1 ≤ (g n).toInt ∧ (g n).toInt ≤ 6 := by
  have z := hg n
  rw [hk.1, hk.2, (w84e h).1, (w84e h).2] at z
  exact z
theorem w84b {n : Nat} {x : Int} (h : 84 ≤ n) (hx : -1 ≤ x ∧ x ≤ 6) : wLo n ≤ x ∧ x ≤ wHi n := by
  rw [(w84e h).1, (w84e h).2]
  exact hx
/-- a place of the world, copied into an image, and back -/
theorem cp_im {g : Nat → Int32} (h : AI 1 g) {i n k : Nat} (hn : n = 144 * k + i) (hi : i < 144) : aLo 2 n ≤ (g i).toInt ∧ (g i).toInt ≤ aHi 2 n := by
  have e : n % 144 = i := by omega
  have z := h i
  show wLo (n % 144) ≤ _ ∧ _ ≤ wHi (n % 144)
  rw [e]
  exact z
theorem cp_mi {g : Nat → Int32} (h : AI 2 g) {i n k : Nat} (hn : n = 144 * k + i) (hi : i < 144) : aLo 1 i ≤ (g n).toInt ∧ (g n).toInt ≤ aHi 1 i := by
  have e : n % 144 = i := by omega
  have z : wLo (n % 144) ≤ (g n).toInt ∧ (g n).toInt ≤ wHi (n % 144) := h n
  rw [e] at z
  exact z
/-- the first x numbers of a SLOT's row are ROOMS or NONE -/
def RV (B : Nat → Nat → Int64) (s : Int32) (x : Int) : Prop := ∀ i : Nat, (i : Int) < x → -1 ≤ (B 33 (60 * s.toNatClampNeg + i)).toInt ∧ (B 33 (60 * s.toNatClampNeg + i)).toInt ≤ 6
theorem RV0 {B : Nat → Nat → Int64} {s : Int32} {x : Int} (h : x ≤ 0) : RV B s x := fun i hi => absurd hi (by omega)
theorem RVle {B : Nat → Nat → Int64} {s : Int32} {x y : Int} (h : RV B s x) (hy : y ≤ x) : RV B s y := fun i hi => h i (by omega)
theorem RVs {B : Nat → Nat → Int64} {s : Int32} {x y : Int} (h : RV B s x) (hy : y = x + 1) {i : Nat} (hi : (i : Int) = x) (hb : -1 ≤ (B 33 (60 * s.toNatClampNeg + i)).toInt ∧ (B 33 (60 * s.toNatClampNeg + i)).toInt ≤ 6) : RV B s y := fun j hj => by
  by_cases e : j = i
  · rw [e]; exact hb
  · exact h j (by omega)
theorem RVroom {B : Nat → Nat → Int64} {s : Int32} {x : Int} (h : RV B s x) {i : Nat} (hi : (i : Int) < x) : -1 ≤ (B 33 (60 * s.toNatClampNeg + i)).toInt32.toInt ∧ (B 33 (60 * s.toNatClampNeg + i)).toInt32.toInt ≤ 6 := by
  have z := h i hi
  rw [l2iT (by omega)]
  exact z
theorem w8e {i : Int32} {r w : Int} (hi : i.toInt = 8 + 4 * r + w) (hr : 0 ≤ r ∧ r ≤ 6) (hw : 0 ≤ w ∧ w ≤ 3) : aLo 1 i.toNatClampNeg = 0 ∧ aHi 1 i.toNatClampNeg = if w = 3 then 127 else if w = 2 then 99 else if w = 1 then 100 else 999 := by
  have hn := clK hi (by omega)
  generalize i.toNatClampNeg = n at hn ⊢
  have e1 : aLo 1 n = 0 := by
    show wLo n = 0
    unfold wLo
    rw [if_neg (by omega), if_neg (by omega), if_neg (by omega)]
  have e2 : aHi 1 n = if n % 4 = 3 then 127 else if n % 4 = 2 then 99 else if n % 4 = 1 then 100 else 999 := by
    show wHi n = _
    unfold wHi
    rw [if_neg (by omega), if_neg (by omega), if_neg (by omega), if_neg (by omega), if_neg (by omega), if_neg (by omega), if_pos (by omega)]
  refine ⟨e1, ?_⟩
  rw [e2]
  rcases (show w = 0 ∨ w = 1 ∨ w = 2 ∨ w = 3 by omega) with h | h | h | h
  · rw [if_neg (by omega), if_neg (by omega), if_neg (by omega), if_neg (by omega), if_neg (by omega), if_neg (by omega)]
  · rw [if_neg (by omega), if_neg (by omega), if_pos (by omega), if_neg (by omega), if_neg (by omega), if_pos (by omega)]
  · rw [if_neg (by omega), if_pos (by omega), if_neg (by omega), if_pos (by omega)]
  · rw [if_pos (by omega), if_pos (by omega)]
theorem tell_fact {i : Int32} {r w n : Int} (hi : i.toInt = 8 + 4 * r + w) (hr : 0 ≤ r ∧ r ≤ 6) (hw : 0 ≤ w ∧ w ≤ 2) (hn : 0 ≤ n ∧ ((w = 0 ∧ n ≤ 999) ∨ (w = 1 ∧ n ≤ 100) ∨ (w = 2 ∧ n ≤ 99))) : aLo 1 i.toNatClampNeg ≤ n ∧ n ≤ aHi 1 i.toNatClampNeg := by
  obtain ⟨e1, e2⟩ := w8e hi hr (by omega)
  rw [e1, e2]
  refine ⟨hn.1, ?_⟩
  rcases hn.2 with ⟨h0, h⟩ | ⟨h0, h⟩ | ⟨h0, h⟩
  · rw [if_neg (by omega), if_neg (by omega), if_neg (by omega)]; exact h
  · rw [if_neg (by omega), if_neg (by omega), if_pos (by omega)]; exact h
  · rw [if_neg (by omega), if_pos (by omega)]; exact h
theorem door_fact {i : Int32} {r n : Int} (hi : i.toInt = 8 + 4 * r + 3) (hr : 0 ≤ r ∧ r ≤ 6) (hn : 0 ≤ n ∧ n ≤ 127) : aLo 1 i.toNatClampNeg ≤ n ∧ n ≤ aHi 1 i.toNatClampNeg := by
  obtain ⟨e1, e2⟩ := w8e (w := 3) hi hr (by omega)
  rw [e1, e2, if_pos rfl]
  exact hn
theorem updS {g : Nat → Int32} {i : Nat} {v : Int32} : upd g i v i = v := if_pos rfl
theorem updN {g : Nat → Int32} {i j : Nat} {v : Int32} (h : ¬ j = i) : upd g i v j = g j := if_neg h
theorem AI_e {k : Nat} {g g' : Nat → Int32} (e : g = g') (h : AI k g') : AI k g := by rw [e]; exact h
theorem AI_upd2 {k i : Nat} {g : Nat → Int32} {v w : Int32} (hg : AI k g) (h : aLo k i ≤ w.toInt ∧ w.toInt ≤ aHi k i) : AI k (upd (upd g i v) i w) := fun j => by
  by_cases e : j = i
  · rw [e, updS]; exact h
  · rw [updN e, updN e]; exact hg j
/-- the way as a number of five digits below 7 -/
def W5 (g : Nat → Int32) : Int := 2401 * (g 0).toInt + 343 * (g 1).toInt + 49 * (g 2).toInt + 7 * (g 3).toInt + (g 4).toInt
def q7 (i : Int) : Int := if i = 4 then 1 else if i = 3 then 7 else if i = 2 then 49 else if i = 1 then 343 else if i = 0 then 2401 else 16807
theorem W5u {g : Nat → Int32} {i : Nat} {v : Int32} {x : Int} (hx : (i : Int) = x) (hi : i ≤ 4) : W5 (upd g i v) = W5 g + q7 x * (v.toInt - (g i).toInt) := by
  subst hx
  unfold W5 upd q7
  rcases (show i = 0 ∨ i = 1 ∨ i = 2 ∨ i = 3 ∨ i = 4 by omega) with rfl | rfl | rfl | rfl | rfl <;> simp <;> omega
theorem q7p (x : Int) : 0 < q7 x := by
  unfold q7
  repeat' split
  all_goals decide
theorem q7s {x : Int} (h : 0 ≤ x ∧ x ≤ 4) : q7 (x - 1) = 7 * q7 x ∧ 0 < q7 x := by
  unfold q7
  rcases (show x = 0 ∨ x = 1 ∨ x = 2 ∨ x = 3 ∨ x = 4 by omega) with rfl | rfl | rfl | rfl | rfl <;> decide
theorem nwT {g g1 G : Nat → Int32} {i : Nat} {v : Int32} {x : Int} (hx : (i : Int) = x) (hi : 0 ≤ x ∧ x ≤ 4) (h : W5 G + 1 ≤ W5 g + q7 x) (e : g1 = upd g i v) (hv : v.toInt = (g i).toInt + 1) : W5 G + 1 ≤ W5 g1 := by
  rw [e, W5u hx (by omega), hv]
  have : q7 x * ((g i).toInt + 1 - (g i).toInt) = q7 x := by
    rw [show (g i).toInt + 1 - (g i).toInt = 1 by omega, Int.mul_one]
  omega
theorem nwF {g g1 g2 G : Nat → Int32} {i : Nat} {v w : Int32} {x y : Int} (hx : (i : Int) = x) (hi : 0 ≤ x ∧ x ≤ 4) (h : W5 G + 1 ≤ W5 g + q7 x) (e : g1 = upd g i v) (e2 : g2 = upd g1 i w) (hw : w.toInt = 0) (hb : (g i).toInt ≤ 6) (hy : y = x - 1) : W5 G + 1 ≤ W5 g2 + q7 y := by
  obtain ⟨hq, hp⟩ := q7s hi
  rw [e2, W5u hx (by omega), e, W5u hx (by omega), updS, hw, hy, hq]
  have e1 : q7 x * (v.toInt - (g i).toInt) + q7 x * (0 - v.toInt) = - (q7 x * (g i).toInt) := by
    rw [← Int.mul_add, ← Int.mul_neg]
    congr 1
    omega
  have e3 : q7 x * (g i).toInt ≤ q7 x * 6 := Int.mul_le_mul_of_nonneg_left hb (by omega)
  omega
theorem W5le {g : Nat → Int32} (h : AI 19 g) : 0 ≤ W5 g ∧ W5 g ≤ 16806 := by
  have h0 : (0 : Int) ≤ (g 0).toInt ∧ (g 0).toInt ≤ 6 := h 0
  have h1 : (0 : Int) ≤ (g 1).toInt ∧ (g 1).toInt ≤ 6 := h 1
  have h2 : (0 : Int) ≤ (g 2).toInt ∧ (g 2).toInt ≤ 6 := h 2
  have h3 : (0 : Int) ≤ (g 3).toInt ∧ (g 3).toInt ≤ 6 := h 3
  have h4 : (0 : Int) ≤ (g 4).toInt ∧ (g 4).toInt ≤ 6 := h 4
  unfold W5
  omega
/-- what sits in the first n ROOMS -/
def PS (g : Nat → Int32) : Nat → Int
  | 0 => 0
  | n + 1 => PS g n + (g (10 + 4 * n)).toInt
theorem PSs {g : Nat → Int32} {x y : Int} {n : Nat} (h : 0 ≤ x) (hn : (n : Int) = x) (hy : y = x + 1) : PS g y.toNat = PS g x.toNat + (g (10 + 4 * n)).toInt := by
  subst hn
  rw [hy, show ((n : Int) + 1).toNat = n + 1 by omega, show ((n : Int)).toNat = n by omega]
  rfl
theorem sitB {g : Nat → Int32} (h : AI 1 g) {n : Nat} (hn : n ≤ 6) : 0 ≤ (g (10 + 4 * n)).toInt ∧ (g (10 + 4 * n)).toInt ≤ 99 := by
  have z := h (10 + 4 * n)
  rcases (show n = 0 ∨ n = 1 ∨ n = 2 ∨ n = 3 ∨ n = 4 ∨ n = 5 ∨ n = 6 by omega) with rfl | rfl | rfl | rfl | rfl | rfl | rfl <;> exact z
theorem PSb {g : Nat → Int32} (h : AI 1 g) : ∀ n : Nat, n ≤ 7 → 0 ≤ PS g n ∧ PS g n ≤ 99 * n
  | 0, _ => ⟨Int.le_refl _, Int.le_refl _⟩
  | n + 1, hn => by
    have z := PSb h n (by omega)
    have w := sitB h (n := n) (by omega)
    show 0 ≤ PS g n + (g (10 + 4 * n)).toInt ∧ PS g n + (g (10 + 4 * n)).toInt ≤ _
    omega
theorem PSm {g : Nat → Int32} (h : AI 1 g) {m n : Nat} (hm : m ≤ n) (hn : n ≤ 7) : PS g m ≤ PS g n := by
  induction n with
  | zero => rw [show m = 0 by omega]; exact Int.le_refl _
  | succ n ih =>
    by_cases e : m = n + 1
    · rw [e]; exact Int.le_refl _
    · have z := ih (by omega) (by omega)
      have w := sitB h (n := n) (by omega)
      show PS g m ≤ PS g n + (g (10 + 4 * n)).toInt
      omega
theorem PSlt {g : Nat → Int32} (h : AI 1 g) {v r w : Int} (hr : 0 ≤ r) (hv : v < PS g w.toNat) (hs : PS g (r + 1).toNat ≤ v) (hr6 : r ≤ 6) : r + 1 < w := by
  apply Int.lt_of_not_ge
  intro hc
  have z := PSm h (m := w.toNat) (n := (r + 1).toNat) (by omega) (by omega)
  omega
theorem PS1 {g : Nat → Int32} {x : Int} (hx : x = 0) : PS g (x + 1).toNat = (g 10).toInt := by
  subst hx
  show (0 : Int) + (g 10).toInt = _
  rw [Int.zero_add]
/-! the chase: each state stands in the queue once -/
def CN (g : Nat → Int32) : Nat → Nat
  | 0 => 0
  | n + 1 => CN g n + if (g n).toInt = -1 then 0 else 1
theorem CNle (g : Nat → Int32) : ∀ n : Nat, CN g n ≤ n
  | 0 => Nat.le_refl _
  | n + 1 => by
    have z := CNle g n
    show CN g n + (if (g n).toInt = -1 then 0 else 1) ≤ n + 1
    split <;> omega
theorem CNlt {g : Nat → Int32} {s : Nat} (hg : (g s).toInt = -1) : ∀ n : Nat, s < n → CN g n + 1 ≤ n
  | 0, h => absurd h (by omega)
  | n + 1, h => by
    show CN g n + (if (g n).toInt = -1 then 0 else 1) + 1 ≤ n + 1
    by_cases e : s = n
    · subst e
      rw [if_pos hg]
      have z := CNle g s
      omega
    · have z := CNlt hg n (by omega)
      split <;> omega
theorem CNx {g : Nat → Int32} {s : Nat} {v : Int32} : ∀ n : Nat, n ≤ s → CN (upd g s v) n = CN g n
  | 0, _ => rfl
  | n + 1, h => by
    show CN (upd g s v) n + (if (upd g s v n).toInt = -1 then 0 else 1) = CN g n + (if (g n).toInt = -1 then 0 else 1)
    rw [CNx n (by omega), updN (by omega)]
theorem CNu {g : Nat → Int32} {s : Nat} {v : Int32} (hg : (g s).toInt = -1) (hv : ¬ v.toInt = -1) : ∀ n : Nat, s < n → CN (upd g s v) n = CN g n + 1
  | 0, h => absurd h (by omega)
  | n + 1, h => by
    show CN (upd g s v) n + (if (upd g s v n).toInt = -1 then 0 else 1) = CN g n + (if (g n).toInt = -1 then 0 else 1) + 1
    by_cases e : s = n
    · subst e
      rw [CNx s (Nat.le_refl _), updS, if_neg hv, if_pos hg]
    · rw [CNu hg hv n (by omega), updN (by omega)]
      omega
def FM (g : Nat → Int32) (x : Int) : Prop := ∀ s : Nat, (s : Int) < x → (g s).toInt = -1
theorem FM0 {g : Nat → Int32} {x : Int} (h : x ≤ 0) : FM g x := fun s hs => absurd hs (by omega)
theorem FMs {g g' : Nat → Int32} {i : Nat} {v : Int32} {x y : Int} (h : FM g x) (e : g' = upd g i v) (hi : (i : Int) = x) (hv : v.toInt = -1) (hy : y = x + 1) : FM g' y := fun s hs => by
  rw [e]
  by_cases q : s = i
  · rw [q, updS]; exact hv
  · rw [updN q]; exact h s (by omega)
theorem CN0 {g : Nat → Int32} : ∀ n : Nat, FM g n → CN g n = 0
  | 0, _ => rfl
  | n + 1, h => by
    show CN g n + (if (g n).toInt = -1 then 0 else 1) = 0
    rw [if_pos (h n (by omega)), CN0 n (fun s hs => h s (by omega))]
/-- queue, minutes, from where, how many -/
def CI (Q g c : Nat → Int32) (n : Int32) : Prop := ((CN g 6272 : Nat) : Int) = n.toInt ∧ (∀ s : Nat, s < 6272 → -1 ≤ (g s).toInt ∧ (g s).toInt + 1 ≤ n.toInt) ∧ (∀ i : Nat, (i : Int) < n.toInt → 0 ≤ (Q i).toInt ∧ (Q i).toInt ≤ 6271 ∧ 0 ≤ (g (Q i).toNatClampNeg).toInt) ∧ ∀ s : Nat, s < 6272 → 1 ≤ (g s).toInt → 0 ≤ (c s).toInt ∧ (c s).toInt ≤ 6271 ∧ (g (c s).toNatClampNeg).toInt = (g s).toInt - 1
theorem CI0 {Q g c : Nat → Int32} {n : Int32} {x : Int} (h : FM g x) (hx : 6272 ≤ x) (hn : n.toInt = 0) : CI Q g c n := by
  refine ⟨by rw [CN0 6272 (fun s hs => h s (by omega)), hn]; rfl, fun s hs => ?_, fun i hi => absurd hi (by omega), fun s hs h1 => absurd h1 ?_⟩
  · rw [h s (by omega), hn]; decide
  · rw [h s (by omega)]; decide
theorem CIq {Q g c : Nat → Int32} {n : Int32} {s : Nat} (h : CI Q g c n) (hs : s < 6272) (hg : (g s).toInt = -1) : n.toInt + 1 ≤ 6272 := by
  have z := CNlt hg 6272 hs
  have e := h.1
  omega
theorem CIm {Q g c Q' g' c' : Nat → Int32} {n n' far was st : Int32} {s : Nat} (h : CI Q g c n) (e1 : Q' = upd Q n.toNatClampNeg st) (e2 : g' = upd g s far) (e3 : c' = upd c s was) (hs : (s : Int) = st.toInt) (hs2 : s < 6272) (hg : (g s).toInt = -1) (hf : 0 ≤ far.toInt ∧ far.toInt ≤ n.toInt) (hw : 1 ≤ far.toInt → 0 ≤ was.toInt ∧ was.toInt ≤ 6271 ∧ (g was.toNatClampNeg).toInt = far.toInt - 1) (hn : 0 ≤ n.toInt) (hn' : n'.toInt = n.toInt + 1) : CI Q' g' c' n' ∧ ∀ x : Nat, 0 ≤ (g x).toInt → g' x = g x := by
  subst e1 e2 e3
  have keep : ∀ x : Nat, 0 ≤ (g x).toInt → upd g s far x = g x := fun x hx => updN (fun q => by rw [q, hg] at hx; omega)
  have hcl := clK (i := n) rfl hn
  have hst := clK (i := st) rfl (by omega)
  refine ⟨⟨by rw [CNu hg (by omega) 6272 hs2, hn']; have e := h.1; omega, fun x hx => ?_, fun i hi => ?_, fun x hx h1 => ?_⟩, keep⟩
  · by_cases q : x = s
    · rw [q, updS]; omega
    · rw [updN q]; have z := h.2.1 x hx; omega
  · by_cases q : i = n.toNatClampNeg
    · rw [q, updS]
      have : st.toNatClampNeg = s := by omega
      rw [this, updS]
      omega
    · rw [updN q]
      have z := h.2.2.1 i (by omega)
      rw [keep _ z.2.2]
      exact z
  · by_cases q : x = s
    · rw [q, updS] at h1 ⊢
      rw [updS]
      have z := hw h1
      have k := keep was.toNatClampNeg (by omega)
      rw [k]
      omega
    · rw [updN q] at h1 ⊢
      rw [updN q]
      have z := h.2.2.2 x hx h1
      have k := keep (c x).toNatClampNeg (by omega)
      rw [k]
      exact z
/-! the questions: exact -/
def bitE (s k : Int32) : Int32 := (s >>> (k &&& 31)) &&& 1
theorem nIc {m : Int32} (h : 0 ≤ m.toInt) : nI m.toNatClampNeg = m := by
  rcases nI_of (x := m) (fun q => by have z := ltT q; rw [c0T] at z; omega) with ⟨j, hj, rfl⟩
  have z := clK (i := nI j) rfl h
  rw [nI_toInt hj] at z
  exact congrArg nI (by omega)
def SYF (g : Nat → Int32) (set q : Int32) : Nat → Int32
  | 0 => 0
  | n + 1 => SYF g set q n ||| (if bitE set (nI n) = 1 ∧ bitE (g (36 + 8 * n + (1 : Int32).toNatClampNeg)) q = 1 then (1 : Int32) <<< (nI n &&& 31) else 0)
theorem SY0 {g : Nat → Int32} {set q : Int32} {n : Nat} (h : n = 0) : SYF g set q n = 0 := by subst h; rfl
theorem SYs {g : Nat → Int32} {set q yes s v m m' : Int32} (h : yes = SYF g set q m.toNatClampNeg) (e : v = yes ||| s) (hs : s = if bitE set m = 1 ∧ bitE (g (36 + 8 * m.toNatClampNeg + (1 : Int32).toNatClampNeg)) q = 1 then (1 : Int32) <<< (m &&& 31) else 0) (hm : 0 ≤ m.toInt) (hm' : m'.toInt = m.toInt + 1) : v = SYF g set q m'.toNatClampNeg := by
  have z := clK (i := m) rfl hm
  have z' := clK (i := m') hm' (by omega)
  rw [show m'.toNatClampNeg = m.toNatClampNeg + 1 by omega]
  show v = SYF g set q m.toNatClampNeg ||| _
  rw [nIc hm, e, h, hs]
theorem sub1 : ∀ s : Fin 64, ∀ n : Fin 6, bitE (nI s.val) (nI n.val) = 1 → ((1 : Int32) <<< (nI n.val &&& 31)) &&& nI s.val = (1 : Int32) <<< (nI n.val &&& 31) := by decide +kernel
theorem or_and {a b s : Int32} : (a ||| b) &&& s = (a &&& s) ||| (b &&& s) := by
  apply Int32.toBitVec_inj.mp
  rw [Int32.toBitVec_and, Int32.toBitVec_or, Int32.toBitVec_or, Int32.toBitVec_and, Int32.toBitVec_and]
  ext i hi
  simp [Bool.and_or_distrib_right]
theorem SYsub {g : Nat → Int32} {q : Int32} {s : Nat} (hs : s < 64) : ∀ n : Nat, n ≤ 6 → SYF g (nI s) q n &&& nI s = SYF g (nI s) q n
  | 0, _ => Int32.zero_and
  | n + 1, h => by
    show (SYF g (nI s) q n ||| _) &&& nI s = SYF g (nI s) q n ||| _
    rw [or_and, SYsub hs n (by omega)]
    congr 1
    split
    · rename_i hc
      exact sub1 ⟨s, hs⟩ ⟨n, by omega⟩ hc.1
    · exact Int32.zero_and
theorem sub2 : ∀ s y : Fin 64, nI y.val &&& nI s.val = nI y.val → ¬ nI y.val = 0 → ¬ nI y.val = nI s.val → (nI y.val).toNatClampNeg < s.val ∧ (nI s.val &&& (nI y.val ^^^ -1)).toNatClampNeg < s.val := by decide +kernel
def AB6 (a g : Nat → Int32) (set q : Int32) : Int32 := if SYF g set q (g 5).toNatClampNeg = 0 ∨ SYF g set q (g 5).toNatClampNeg = set then 1000000000 else 1 + (if a (SYF g set q (g 5).toNatClampNeg).toNatClampNeg < a (set &&& (SYF g set q (g 5).toNatClampNeg ^^^ -1)).toNatClampNeg then a (set &&& (SYF g set q (g 5).toNatClampNeg ^^^ -1)).toNatClampNeg else a (SYF g set q (g 5).toNatClampNeg).toNatClampNeg)
theorem AB6a {a g : Nat → Int32} {set q y : Int32} (h : y = SYF g set q (g 5).toNatClampNeg) (h0 : y = 0 ∨ y = set) : 1000000000 = AB6 a g set q := by
  unfold AB6
  rw [← h, if_pos h0]
theorem AB6b {a g : Nat → Int32} {set q y v : Int32} (h : y = SYF g set q (g 5).toNatClampNeg) (h0 : ¬ (y = 0 ∨ y = set)) (hv : v = 1 + (if a y.toNatClampNeg < a (set &&& (y ^^^ -1)).toNatClampNeg then a (set &&& (y ^^^ -1)).toNatClampNeg else a y.toNatClampNeg)) : v = AB6 a g set q := by
  unfold AB6
  rw [← h, if_neg h0, hv]
theorem and63 {y s : Int32} {n : Nat} (e : s = nI n) (hn : n < 64) (h : y &&& s = y) : ∃ k : Nat, k < 64 ∧ y = nI k := by
  refine ⟨y.toBitVec.toNat, ?_, ?_⟩
  · have e1 : (y &&& s).toBitVec.toNat = y.toBitVec.toNat &&& s.toBitVec.toNat := by rw [Int32.toBitVec_and, BitVec.toNat_and]
    rw [h] at e1
    have e2 : s.toBitVec.toNat = n := by
      rw [e]
      show (BitVec.ofNat 32 n).toNat = n
      rw [BitVec.toNat_ofNat, Nat.mod_eq_of_lt (by omega)]
    have z := Nat.and_le_right (n := y.toBitVec.toNat) (m := s.toBitVec.toNat)
    omega
  · apply Int32.toBitVec_inj.mp
    apply BitVec.eq_of_toNat_eq
    show _ = (BitVec.ofNat 32 y.toBitVec.toNat).toNat
    rw [BitVec.toNat_ofNat, Nat.mod_eq_of_lt y.toBitVec.isLt]
theorem AB6l {a b g : Nat → Int32} {q : Int32} {s : Nat} (hs : s < 64) (hg : (g 5).toInt ≤ 6) (hab : ∀ i : Nat, i < s → a i = b i) : AB6 a g (nI s) q = AB6 b g (nI s) q := by
  have hn : (g 5).toNatClampNeg ≤ 6 := by rw [Int32.toNatClampNeg]; omega
  have hsub := SYsub (g := g) (q := q) hs (g 5).toNatClampNeg hn
  unfold AB6
  generalize SYF g (nI s) q (g 5).toNatClampNeg = y at hsub ⊢
  by_cases h0 : y = 0 ∨ y = nI s
  · rw [if_pos h0, if_pos h0]
  · rw [if_neg h0, if_neg h0]
    obtain ⟨k, hk, rfl⟩ := and63 rfl hs hsub
    obtain ⟨z1, z2⟩ := sub2 ⟨s, hs⟩ ⟨k, hk⟩ hsub (fun q => h0 (Or.inl q)) (fun q => h0 (Or.inr q))
    rw [hab _ z1, hab _ z2]
def GOOD (a g : Nat → Int32) (s : Nat) : Prop := ¬ (a s).toInt = 0 → (a s).toInt < 1000000000 → ∃ q : Int32, 0 ≤ q.toInt ∧ q.toInt ≤ 5 ∧ AB6 a g (nI s) q = a s
def FAg (a g : Nat → Int32) (x : Int) : Prop := ∀ s : Nat, (s : Int) < x → GOOD a g s
theorem FAg0 {a g : Nat → Int32} {x : Int} (h : x ≤ 0) : FAg a g x := fun s hs => absurd hs (by omega)
theorem FAle {a g : Nat → Int32} {x y : Int} (h : FAg a g x) (hy : y ≤ x) : FAg a g y := fun s hs => h s (by omega)
def BS (a g : Nat → Int32) (set best : Int32) : Prop := best.toInt = 0 ∨ 1000000000 ≤ best.toInt ∨ ∃ q : Int32, 0 ≤ q.toInt ∧ q.toInt ≤ 5 ∧ AB6 a g set q = best
theorem BSmin {a g : Nat → Int32} {set best r q v : Int32} (h : BS a g set best) (hr : r = AB6 a g set q) (hq : 0 ≤ q.toInt ∧ q.toInt ≤ 5) (e : v = if r < best then r else best) : BS a g set v := by
  rw [e]
  split
  · exact Or.inr (Or.inr ⟨q, hq.1, hq.2, hr.symm⟩)
  · exact h
theorem FAs {a a' g : Nat → Int32} {i : Nat} {set best : Int32} {x y : Int} (h : FAg a g x) (e : a' = upd a i best) (hi : (i : Int) = x) (hx : x ≤ 63) (hs : set = nI i) (hg : (g 5).toInt ≤ 6) (hb : BS a g set best) (hy : y = x + 1) : FAg a' g y := fun s hlt => by
  subst e
  have loc : ∀ q : Int32, s ≤ i → AB6 (upd a i best) g (nI s) q = AB6 a g (nI s) q := fun q hle => AB6l (by omega) hg (fun j hj => updN (by omega))
  by_cases q : s = i
  · subst q
    intro h0 h1
    rw [updS] at h0 h1 ⊢
    rcases hb with hb | hb | ⟨q, h2, h3, h4⟩
    · exact absurd hb h0
    · exact absurd hb (by omega)
    · exact ⟨q, h2, h3, by rw [loc q (Nat.le_refl _), ← hs, h4]⟩
  · intro h0 h1
    rw [updN q] at h0 h1 ⊢
    obtain ⟨z, h2, h3, h4⟩ := h s (by omega) h0 h1
    exact ⟨z, h2, h3, by rw [loc z (by omega), h4]⟩
theorem qinit {a g : Nat → Int32} {x : Int} {set v q0 : Int32} (h : FAg a g x) (h0 : 0 ≤ set.toInt) (hx : set.toInt < x) (e : v = a set.toNatClampNeg) (hv : ¬ v.toInt = 0) (hv2 : v.toInt < 1000000000) (hq : q0.toInt = 0) : ∃ z : Int32, q0.toInt ≤ z.toInt ∧ z.toInt ≤ 5 ∧ AB6 a g set z = a set.toNatClampNeg := by
  have hc := clK (i := set) rfl h0
  rw [e] at hv hv2
  obtain ⟨z, h1, h2, h3⟩ := h set.toNatClampNeg (by omega) hv hv2
  rw [nIc h0] at h3
  exact ⟨z, by omega, h2, h3⟩
theorem qstep {a g : Nat → Int32} {set q q' r v : Int32} (h : ∃ z : Int32, q.toInt ≤ z.toInt ∧ z.toInt ≤ 5 ∧ AB6 a g set z = a set.toNatClampNeg) (hr : r = AB6 a g set q) (e : v = a set.toNatClampNeg) (hne : ¬ r.toInt = v.toInt) (hq : q'.toInt = q.toInt + 1) : ∃ z : Int32, q'.toInt ≤ z.toInt ∧ z.toInt ≤ 5 ∧ AB6 a g set z = a set.toNatClampNeg := by
  obtain ⟨z, h1, h2, h3⟩ := h
  refine ⟨z, ?_, h2, h3⟩
  have hz : ¬ z.toInt = q.toInt := fun w => hne (by rw [hr, e, ← h3, Int32.toInt_inj.mp w])
  omega
theorem qle {a g : Nat → Int32} {set q r v : Int32} (h : ∃ z : Int32, q.toInt ≤ z.toInt ∧ z.toInt ≤ 5 ∧ AB6 a g set z = a set.toNatClampNeg) (hr : r = AB6 a g set q) (e : v = a set.toNatClampNeg) (hne : ¬ r.toInt = v.toInt) : q.toInt + 1 ≤ 5 := by
  obtain ⟨z, h1, h2, h3⟩ := h
  have hz : ¬ z.toInt = q.toInt := fun w => hne (by rw [hr, e, ← h3, Int32.toInt_inj.mp w])
  omega
/-! what is read: exact -/
def SS (g : Nat → Int32) (m : Nat) : Nat → Int
  | 0 => 0
  | j + 1 => SS g m j + (g (36 + 8 * m + (2 + j))).toInt
def sA (g : Nat → Int32) (m : Nat) : Int := if SS g m (g 5).toNatClampNeg = 0 then 1 else SS g m (g 5).toNatClampNeg
def sO (g : Nat → Int32) (m a : Nat) : Int := if SS g m (g 5).toNatClampNeg = 0 then (if m = a then 1 else 0) else (g (36 + 8 * m + (2 + a))).toInt
def LRp (g : Nat → Int32) (m a : Nat) : Nat → Int
  | 0 => (g (36 + 8 * m)).toInt * sO g m a
  | k + 1 => LRp g m a k * (if k = m then 1 else sA g k)
def AR (g : Nat → Int32) (a : Nat) : Nat → Int
  | 0 => 0
  | m + 1 => AR g a m + LRp g m a (g 5).toNatClampNeg
theorem mulB {x y B D : Int} (hx : 0 ≤ x) (hB : x ≤ B) (hy : 0 ≤ y) (hD : y ≤ D) : 0 ≤ x * y ∧ x * y ≤ B * D := ⟨Int.mul_nonneg hx hy, Int.mul_le_mul hB hD hy (by omega)⟩
theorem slB {g : Nat → Int32} (h : AI 1 g) {m j : Nat} (hm : m ≤ 5) (hj : j ≤ 5) : 0 ≤ (g (36 + 8 * m + (2 + j))).toInt ∧ (g (36 + 8 * m + (2 + j))).toInt ≤ 9 := by
  have z := h (36 + 8 * m + (2 + j))
  rcases (show m = 0 ∨ m = 1 ∨ m = 2 ∨ m = 3 ∨ m = 4 ∨ m = 5 by omega) with rfl | rfl | rfl | rfl | rfl | rfl <;>
  rcases (show j = 0 ∨ j = 1 ∨ j = 2 ∨ j = 3 ∨ j = 4 ∨ j = 5 by omega) with rfl | rfl | rfl | rfl | rfl | rfl <;> exact z
theorem weB {g : Nat → Int32} (h : AI 1 g) {m : Nat} (hm : m ≤ 5) : 0 ≤ (g (36 + 8 * m)).toInt ∧ (g (36 + 8 * m)).toInt ≤ 99 := by
  have z := h (36 + 8 * m)
  rcases (show m = 0 ∨ m = 1 ∨ m = 2 ∨ m = 3 ∨ m = 4 ∨ m = 5 by omega) with rfl | rfl | rfl | rfl | rfl | rfl <;> exact z
theorem n5B {g : Nat → Int32} (h : AI 1 g) : (g 5).toNatClampNeg ≤ 6 ∧ (((g 5).toNatClampNeg : Nat) : Int) = (g 5).toInt := by
  have z : (0 : Int) ≤ (g 5).toInt ∧ (g 5).toInt ≤ 6 := h 5
  have c := clK (i := g 5) rfl z.1
  omega
theorem SSb {g : Nat → Int32} (h : AI 1 g) {m : Nat} (hm : m ≤ 5) : ∀ j : Nat, j ≤ 6 → 0 ≤ SS g m j ∧ SS g m j ≤ 9 * j
  | 0, _ => ⟨Int.le_refl _, Int.le_refl _⟩
  | j + 1, hj => by
    have z := SSb h hm j (by omega)
    have w := slB h hm (j := j) (by omega)
    show 0 ≤ SS g m j + (g (36 + 8 * m + (2 + j))).toInt ∧ SS g m j + (g (36 + 8 * m + (2 + j))).toInt ≤ _
    omega
theorem SSs {g : Nat → Int32} {m : Nat} {j j' r : Int32} {s s' : Int} (hs : s = SS g m j.toNatClampNeg) (hj : 0 ≤ j.toInt) (hj' : j'.toInt = j.toInt + 1) {i : Nat} (hr : r = g i) (hi : i = 36 + 8 * m + (2 + j.toNatClampNeg)) (hn : s' = s + r.toInt) : s' = SS g m j'.toNatClampNeg := by
  have z := clK (i := j) rfl hj
  have z' := clK (i := j') hj' (by omega)
  rw [show j'.toNatClampNeg = j.toNatClampNeg + 1 by omega]
  show s' = SS g m j.toNatClampNeg + _
  rw [hn, hs, hr, hi]
theorem sAb {g : Nat → Int32} (h : AI 1 g) {m : Nat} (hm : m ≤ 5) : 1 ≤ sA g m ∧ sA g m ≤ 54 := by
  have z := SSb h hm (g 5).toNatClampNeg (n5B h).1
  have k := (n5B h).1
  unfold sA
  split <;> omega
theorem sOb {g : Nat → Int32} (h : AI 1 g) {m a : Nat} (hm : m ≤ 5) (ha : a ≤ 5) : 0 ≤ sO g m a ∧ sO g m a ≤ 9 := by
  have z := slB h hm ha
  unfold sO
  split
  · split <;> omega
  · exact z
theorem LRb {g : Nat → Int32} (h : AI 1 g) {m a : Nat} (hm : m ≤ 5) (ha : a ≤ 5) : ∀ k : Nat, k ≤ 6 → 0 ≤ LRp g m a k ∧ LRp g m a k ≤ ((891 * 54 ^ k : Nat) : Int)
  | 0, _ => by
    have z := sOb h hm ha
    have w := weB h hm
    exact mulB w.1 w.2 z.1 z.2
  | k + 1, hk => by
    have z := LRb h hm ha k (by omega)
    have w : 0 ≤ (if k = m then 1 else sA g k) ∧ (if k = m then 1 else sA g k) ≤ 54 := by
      have y := sAb h (m := k) (by omega)
      split <;> omega
    have r := mulB z.1 z.2 w.1 w.2
    show 0 ≤ LRp g m a k * _ ∧ LRp g m a k * _ ≤ _
    rw [show 891 * 54 ^ (k + 1) = (891 * 54 ^ k) * 54 by rw [Nat.pow_succ, Nat.mul_assoc]]
    exact ⟨r.1, by rw [Int.natCast_mul]; exact r.2⟩
theorem LRc {g : Nat → Int32} (h : AI 1 g) {m a : Nat} (hm : m ≤ 5) (ha : a ≤ 5) {k : Nat} (hk : k ≤ 6) : 0 ≤ LRp g m a k ∧ LRp g m a k ≤ 22092265964736 := by
  have z := LRb h hm ha k hk
  refine ⟨z.1, Int.le_trans z.2 ?_⟩
  rcases (show k = 0 ∨ k = 1 ∨ k = 2 ∨ k = 3 ∨ k = 4 ∨ k = 5 ∨ k = 6 by omega) with rfl | rfl | rfl | rfl | rfl | rfl | rfl <;> decide
theorem LRs {g : Nat → Int32} (h : AI 1 g) {m a : Nat} {k : Int32} {v s v' : Int} (hm : m ≤ 5) (ha : a ≤ 5) (hv : v = LRp g m a k.toNatClampNeg) (hs : s = if k.toNatClampNeg = m then 1 else sA g k.toNatClampNeg) (e : v' = v * s) (hk : 0 ≤ k.toInt ∧ k.toInt ≤ 5) : v' = LRp g m a (k.toNatClampNeg + 1) ∧ 0 ≤ v' ∧ v' ≤ 22092265964736 := by
  have z := clK (i := k) rfl hk.1
  have e1 : v' = LRp g m a (k.toNatClampNeg + 1) := by rw [e, hv, hs]; rfl
  rw [e1]
  exact ⟨rfl, LRc h hm ha (by omega)⟩
theorem LRpos {g : Nat → Int32} (h : AI 1 g) {m a : Nat} (hw : 1 ≤ (g (36 + 8 * m)).toInt) (ho : 1 ≤ sO g m a) : ∀ k : Nat, k ≤ 6 → 1 ≤ LRp g m a k
  | 0, _ => by
    show 1 ≤ (g (36 + 8 * m)).toInt * sO g m a
    have := Int.mul_le_mul hw ho (by decide) (by omega)
    omega
  | k + 1, hk => by
    have z := LRpos h hw ho k (by omega)
    have w : 1 ≤ (if k = m then 1 else sA g k) := by
      have y := sAb h (m := k) (by omega)
      split <;> omega
    show 1 ≤ LRp g m a k * _
    have := Int.mul_le_mul z w (by decide) (by omega)
    omega
theorem ARb {g : Nat → Int32} (h : AI 1 g) {a : Nat} (ha : a ≤ 5) : ∀ m : Nat, m ≤ 6 → 0 ≤ AR g a m ∧ AR g a m ≤ 22092265964736 * m
  | 0, _ => ⟨Int.le_refl _, Int.le_refl _⟩
  | m + 1, hm => by
    have z := ARb h ha m (by omega)
    have w := LRc h (m := m) (by omega) ha (n5B h).1
    show 0 ≤ AR g a m + LRp g m a (g 5).toNatClampNeg ∧ AR g a m + LRp g m a (g 5).toNatClampNeg ≤ _
    omega
theorem ARs {g : Nat → Int32} {a : Nat} {m m' : Int32} {s s' r : Int} (hs : s = AR g a m.toNatClampNeg) (hm : 0 ≤ m.toInt) (hm' : m'.toInt = m.toInt + 1) (hr : r = LRp g m.toNatClampNeg a (g 5).toNatClampNeg) (e : s' = s + r) : s' = AR g a m'.toNatClampNeg := by
  have z := clK (i := m) rfl hm
  have z' := clK (i := m') hm' (by omega)
  rw [show m'.toNatClampNeg = m.toNatClampNeg + 1 by omega]
  show s' = AR g a m.toNatClampNeg + _
  rw [e, hs, hr]
def WG (g : Nat → Int32) : Prop := ∀ m : Nat, (m : Int) < (g 5).toInt → 1 ≤ (g (36 + 8 * m)).toInt
/-- nothing of a MAN's is read so far -/
def ZR (g : Nat → Int32) (m : Nat) (x : Int) : Prop := ∀ j : Nat, (j : Int) < x → sO g m j ≤ 0
theorem SSz {g : Nat → Int32} {m : Nat} (h : AI 1 g) (hm : m ≤ 5) : ∀ n : Nat, n ≤ 6 → (∀ j : Nat, j < n → (g (36 + 8 * m + (2 + j))).toInt ≤ 0) → SS g m n ≤ 0
  | 0, _, _ => Int.le_refl _
  | n + 1, hn, hz => by
    have z := SSz h hm n (by omega) (fun j hj => hz j (by omega))
    have w := hz n (by omega)
    show SS g m n + (g (36 + 8 * m + (2 + n))).toInt ≤ 0
    omega
theorem ZRx {g : Nat → Int32} {m : Nat} {x : Int} (h : AI 1 g) (hm : (m : Int) < (g 5).toInt) (hx : (g 5).toInt ≤ x) : ¬ ZR g m x := fun hz => by
  obtain ⟨h6, hc⟩ := n5B h
  have z := SSb h (m := m) (by omega) (g 5).toNatClampNeg h6
  by_cases e : SS g m (g 5).toNatClampNeg = 0
  · have q := hz m (by omega)
    unfold sO at q
    rw [if_pos e, if_pos rfl] at q
    omega
  · have q := SSz h (m := m) (by omega) (g 5).toNatClampNeg h6 (fun j hj => by
      have q := hz j (by omega)
      unfold sO at q
      rw [if_neg e] at q
      exact q)
    omega
theorem ZRs {g : Nat → Int32} {m : Nat} {a a' : Int32} {b b' r : Int} (h : AI 1 g) (hw : 1 ≤ (g (36 + 8 * m)).toInt) (hm : m ≤ 5) (hi : 1 ≤ b ∨ ZR g m a.toInt) (hb : 0 ≤ b) (hr : r = LRp g m a.toNatClampNeg (g 5).toNatClampNeg) (ha : 0 ≤ a.toInt ∧ a.toInt ≤ 5) (ha' : a'.toInt = a.toInt + 1) (e : b' = b + r) : 1 ≤ b' ∨ ZR g m a'.toInt := by
  have c := clK (i := a) rfl ha.1
  have z := LRc h hm (a := a.toNatClampNeg) (by omega) (n5B h).1
  by_cases q : 1 ≤ b'
  · exact Or.inl q
  · refine Or.inr (fun j hj => ?_)
    by_cases ej : j = a.toNatClampNeg
    · rw [ej]
      apply Int.le_of_not_gt
      intro ho
      have p := LRpos h hw (a := a.toNatClampNeg) (by omega) (g 5).toNatClampNeg (n5B h).1
      omega
    · rcases hi with hi | hi
      · omega
      · exact hi j (by omega)
/-- none of the first x MEN is in the set -/
def BZ (s : Int32) (x : Int) : Prop := ∀ j : Nat, (j : Int) < x → bitE s (nI j) = 0
theorem BZ1 : ∀ s : Fin 64, ∀ n : Fin 7, s.val < 2 ^ n.val → (∀ j : Fin 6, j.val < n.val → bitE (nI s.val) (nI j.val) = 0) → s.val = 0 := by decide +kernel
theorem BZx {s : Int32} {n x : Int} (h : BZ s x) (hx : n ≤ x) (hn : 0 ≤ n ∧ n ≤ 6) (hs : 1 ≤ s.toInt ∧ s.toInt ≤ 63 ∧ s.toInt < P2 n) : False := by
  have c := clK (i := s) rfl (by omega)
  have e := nIc (m := s) (by omega)
  have hp : P2 n = ((2 ^ n.toNat : Nat) : Int) := rfl
  have q := BZ1 ⟨s.toNatClampNeg, by omega⟩ ⟨n.toNat, by omega⟩ (by show s.toNatClampNeg < 2 ^ n.toNat; omega) (fun j hj => by
    show bitE (nI s.toNatClampNeg) (nI j.val) = 0
    rw [e]
    exact h j.val (by have : j.val < n.toNat := hj; omega))
  have q2 : s.toNatClampNeg = 0 := q
  omega
theorem BZs {s k k' b : Int32} {w a a' p : Int} (hi : 1 ≤ a ∨ BZ s k.toInt) (ha : 0 ≤ a) (hb : b = bitE s k) (hp : (b.toInt = 0 ∧ p = 0) ∨ (b.toInt = 1 ∧ p = w)) (hw : 1 ≤ w) (hk : 0 ≤ k.toInt) (hk' : k'.toInt = k.toInt + 1) (e : a' = a + p) : 1 ≤ a' ∨ BZ s k'.toInt := by
  rcases hp with ⟨h0, hp⟩ | ⟨h0, hp⟩
  · rcases hi with hi | hi
    · exact Or.inl (by omega)
    · refine Or.inr (fun j hj => ?_)
      have c := clK (i := k) rfl hk
      by_cases ej : j = k.toNatClampNeg
      · rw [ej, nIc hk, ← hb]
        exact Int32.toInt_inj.mp (h0.trans (by decide))
      · exact hi j (by omega)
  · exact Or.inl (by omega)
/-! the text -/
def SEE (t : Nat → Int32) (n k : Int32) : Int32 := if k.toInt < n.toInt then t k.toNatClampNeg &&& 255 else -1
theorem SEEa {t : Nat → Int32} {n k v w : Int32} (h : k.toInt < n.toInt) (hv : v = t k.toNatClampNeg) (e : w = v &&& 255) : w = SEE t n k := by
  unfold SEE
  rw [if_pos h, e, hv]
theorem SEEb {t : Nat → Int32} {n k : Int32} (h : n.toInt ≤ k.toInt) : -1 = SEE t n k := by
  unfold SEE
  rw [if_neg (by omega)]
/-- what is not a MAN's weight, nor their number, may be written -/
theorem WGe {g g' : Nat → Int32} {i : Nat} {v : Int32} (h : WG g) (e : g' = upd g i v) (h6 : (g 5).toInt ≤ 6) (hi : ¬ i = 5 ∧ (i < 36 ∨ 84 ≤ i ∨ ¬ (i - 36) % 8 = 0)) : WG g' := fun m hm => by
  rw [e] at hm ⊢
  rw [updN (by omega)] at hm
  rw [updN (by omega)]
  exact h m hm
/-- a MAN that isn't counted yet gets his weight -/
theorem WGn {g g' : Nat → Int32} {i : Nat} {v : Int32} (h : WG g) (e : g' = upd g i v) {m : Int} (hm : m = (g 5).toInt) (hi : (i : Int) = 36 + 8 * m) : WG g' := fun k hk => by
  rw [e] at hk ⊢
  rw [updN (by omega)] at hk
  rw [updN (by omega)]
  exact h k hk
/-- and is counted -/
theorem WGc {g g' : Nat → Int32} {v : Int32} {n : Nat} (h : WG g) (e : g' = upd g 5 v) (hv : v.toInt = (g 5).toInt + 1) (hn : (n : Int) = 36 + 8 * (g 5).toInt) (hw : 1 ≤ (g n).toInt) : WG g' := fun k hk => by
  rw [e] at hk ⊢
  rw [updS] at hk
  rw [updN (by omega)]
  by_cases q : (k : Int) < (g 5).toInt
  · exact h k q
  · rw [show 36 + 8 * k = n by omega]
    exact hw
theorem upE {g g' : Nat → Int32} {i j : Nat} {v : Int32} (e : g' = upd g i v) (h : ¬ j = i) : (g' j).toInt = (g j).toInt := by rw [e, updN h]
theorem upS {g g' : Nat → Int32} {i : Nat} {v : Int32} (e : g' = upd g i v) : (g' i).toInt = v.toInt := by rw [e, updS]
/-- places of a MAN -/
theorem w36e {i : Int32} {r w : Int} (hi : i.toInt = 36 + 8 * r + w) (hr : 0 ≤ r ∧ r ≤ 5) (hw : 0 ≤ w ∧ w ≤ 7) : aLo 1 i.toNatClampNeg = 0 ∧ aHi 1 i.toNatClampNeg = if w = 0 then 99 else if w = 1 then 63 else 9 := by
  have hn := clK hi (by omega)
  generalize i.toNatClampNeg = n at hn ⊢
  have e1 : aLo 1 n = 0 := by
    show wLo n = 0
    unfold wLo
    rw [if_neg (by omega), if_neg (by omega), if_neg (by omega)]
  have e2 : aHi 1 n = if n % 8 = 4 then 99 else if n % 8 = 5 then 63 else 9 := by
    show wHi n = _
    unfold wHi
    rw [if_neg (by omega), if_neg (by omega), if_neg (by omega), if_neg (by omega), if_neg (by omega), if_neg (by omega), if_neg (by omega)]
  refine ⟨e1, ?_⟩
  rw [e2]
  by_cases h0 : w = 0
  · rw [if_pos (by omega), if_pos h0]
  · by_cases h1 : w = 1
    · rw [if_neg (by omega), if_pos (by omega), if_neg h0, if_pos h1]
    · rw [if_neg (by omega), if_neg (by omega), if_neg h0, if_neg h1]
theorem man_fact {i : Int32} {r w n : Int} (hi : i.toInt = 36 + 8 * r + w) (hr : 0 ≤ r ∧ r ≤ 5) (hw : 0 ≤ w ∧ w ≤ 7) (hn : 0 ≤ n ∧ ((w = 0 ∧ n ≤ 99) ∨ (w = 1 ∧ n ≤ 63) ∨ (2 ≤ w ∧ n ≤ 9))) : aLo 14 i.toNatClampNeg ≤ n ∧ n ≤ aHi 14 i.toNatClampNeg := by
  obtain ⟨e1, e2⟩ := w36e hi hr hw
  show aLo 1 _ ≤ n ∧ n ≤ aHi 1 _
  rw [e1, e2]
  refine ⟨hn.1, ?_⟩
  rcases hn.2 with ⟨h0, h⟩ | ⟨h0, h⟩ | ⟨h0, h⟩
  · rw [if_pos h0]; exact h
  · rw [if_neg (by omega), if_pos h0]; exact h
  · rw [if_neg (by omega), if_neg (by omega)]; exact h
theorem tell14 {i : Int32} {r w n : Int} (hi : i.toInt = 8 + 4 * r + w) (hr : 0 ≤ r ∧ r ≤ 6) (hw : 0 ≤ w ∧ w ≤ 2) (hn : 0 ≤ n ∧ ((w = 0 ∧ n ≤ 999) ∨ (w = 1 ∧ n ≤ 100) ∨ (w = 2 ∧ n ≤ 99))) : aLo 14 i.toNatClampNeg ≤ n ∧ n ≤ aHi 14 i.toNatClampNeg := tell_fact hi hr hw hn
theorem door14 {i : Int32} {r n : Int} (hi : i.toInt = 8 + 4 * r + 3) (hr : 0 ≤ r ∧ r ≤ 6) (hn : 0 ≤ n ∧ n ≤ 127) : aLo 14 i.toNatClampNeg ≤ n ∧ n ≤ aHi 14 i.toNatClampNeg := door_fact hi hr hn
theorem dld14 {g : Nat → Int32} (hg : AI 14 g) {i : Int32} {r : Int} (hi : i.toInt = 8 + 4 * r + 3) (hr : 0 ≤ r ∧ r ≤ 6) : 0 ≤ (g i.toNatClampNeg).toInt ∧ (g i.toNatClampNeg).toInt ≤ 127 := by
  obtain ⟨e1, e2⟩ := w8e (w := 3) hi hr (by omega)
  have z : aLo 1 i.toNatClampNeg ≤ (g i.toNatClampNeg).toInt ∧ (g i.toNatClampNeg).toInt ≤ aHi 1 i.toNatClampNeg := hg _
  rw [e1, e2, if_pos rfl] at z
  exact z
/-- the first x places are alike -/
def CPY (f g : Nat → Int32) (x : Int) : Prop := ∀ j : Nat, (j : Int) < x → g j = f j
theorem CPY0 {f g : Nat → Int32} {x : Int} (h : x ≤ 0) : CPY f g x := fun j hj => absurd hj (by omega)
theorem CPYs {f g g' : Nat → Int32} {i : Nat} {v : Int32} {x y : Int} (h : CPY f g x) (e : g' = upd g i v) (hv : v = f i) (hi : (i : Int) = x) (hy : y = x + 1) : CPY f g' y := fun j hj => by
  rw [e]
  by_cases q : j = i
  · rw [q, updS, hv]
  · rw [updN q]; exact h j (by omega)
theorem WGcp {f g : Nat → Int32} {x : Int} (h : CPY f g x) (hx : 84 ≤ x) (h6 : (f 5).toInt ≤ 6) (hw : WG f) : WG g := fun m hm => by
  rw [h 5 (by omega)] at hm
  rw [h (36 + 8 * m) (by omega)]
  exact hw m hm
/-- an image's world -/
def im (A2 : Nat → Int32) (k : Nat) : Nat → Int32 := fun j => A2 (144 * k + j)
theorem WG0 {g : Nat → Int32} (h : (g 5).toInt ≤ 0) : WG g := fun m hm => absurd hm (by omega)
def ZR0 (g : Nat → Int32) (x : Int) : Prop := ∀ j : Nat, (j : Int) < x → (g j).toInt ≤ 0
theorem ZR00 {g : Nat → Int32} {x : Int} (h : x ≤ 0) : ZR0 g x := fun j hj => absurd hj (by omega)
theorem ZR0s {g g' : Nat → Int32} {i : Nat} {v : Int32} {x y : Int} (h : ZR0 g x) (e : g' = upd g i v) (hi : (i : Int) = x) (hv : v.toInt ≤ 0) (hy : y = x + 1) : ZR0 g' y := fun j hj => by
  rw [e]
  by_cases q : j = i
  · rw [q, updS]; exact hv
  · rw [updN q]; exact h j (by omega)
theorem w0b (n : Nat) : aLo 14 n ≤ (0 : Int32).toInt ∧ (0 : Int32).toInt ≤ aHi 14 n := by
  show wLo n ≤ (0 : Int32).toInt ∧ (0 : Int32).toInt ≤ wHi n
  rw [show (0 : Int32).toInt = 0 by decide]
  unfold wLo wHi
  constructor
  · repeat' split
    all_goals decide
  · repeat' split
    all_goals decide
theorem im6 {g : Nat → Int32} (h : AI 2 g) (k : Nat) : (im g k 5).toInt ≤ 6 := by
  have z : wLo ((144 * k + 5) % 144) ≤ (g (144 * k + 5)).toInt ∧ (g (144 * k + 5)).toInt ≤ wHi ((144 * k + 5) % 144) := h (144 * k + 5)
  rw [show (144 * k + 5) % 144 = 5 by omega] at z
  exact z.2
/-- an image k gets the first x places of the world -/
def IMG (f a g : Nat → Int32) (k : Nat) (x : Int) : Prop := (∀ j : Nat, (j : Int) < x → g (144 * k + j) = f j) ∧ ∀ n : Nat, (n < 144 * k ∨ 144 * k + 144 ≤ n) → g n = a n
theorem IMG0 {f a : Nat → Int32} {k : Nat} {x : Int} (h : x ≤ 0) : IMG f a a k x := ⟨fun j hj => absurd hj (by omega), fun _ _ => rfl⟩
theorem IMGs {f a g g' : Nat → Int32} {k n i : Nat} {v : Int32} {x y : Int} (h : IMG f a g k x) (e : g' = upd g n v) (hn : n = 144 * k + i) (hv : v = f i) (hi : (i : Int) = x) (h144 : i < 144) (hy : y = x + 1) : IMG f a g' k y := by
  subst e hn
  refine ⟨fun j hj => ?_, fun m hm => ?_⟩
  · by_cases q : j = i
    · rw [q, updS, hv]
    · rw [updN (by omega)]; exact h.1 j (by omega)
  · rw [updN (by omega)]; exact h.2 m hm
theorem IMGw {f a g : Nat → Int32} {k : Nat} {x : Int} (h : IMG f a g k x) (hx : 144 ≤ x) (hf : AI 1 f) (ha : AI 2 a) (hw : WG f) (hW : ∀ i : Nat, i < 3 → WG (im a i)) : ∀ i : Nat, i < 3 → WG (im g i) := fun i hi => by
  by_cases q : i = k
  · subst q
    have h6 : (f 5).toInt ≤ 6 := (hf 5).2
    exact WGcp (f := f) (g := im g i) (x := 144) (fun j hj => h.1 j (by omega)) (by decide) h6 hw
  · refine WGcp (f := im a i) (g := im g i) (x := 144) (fun j hj => ?_) (by decide) (im6 ha i) (hW i hi)
    exact h.2 (144 * i + j) (by omega)
/-- what row does to a SLOT's number of numbers and width, and its answer -/
def RowM (r a b n : Int32) (m m' w w' : Nat → Int32) : Prop := (r.toInt = -2 ∧ (a.toInt < 0 ∨ 3 < a.toInt ∨ b.toInt < 0 ∨ 3 < b.toInt ∨ 60 < n.toInt) ∧ m' = m ∧ w' = w) ∨ (r.toInt = -3 ∧ (0 ≤ a.toInt ∧ a.toInt ≤ 3) ∧ (0 ≤ b.toInt ∧ b.toInt ≤ 3) ∧ n.toInt < 0 ∧ m' = m ∧ w' = w) ∨ (r.toInt = 0 ∧ (0 ≤ a.toInt ∧ a.toInt ≤ 3) ∧ (0 ≤ b.toInt ∧ b.toInt ≤ 3) ∧ (0 ≤ n.toInt ∧ n.toInt ≤ 60) ∧ m' = upd m a.toNatClampNeg n ∧ w' = upd w a.toNatClampNeg b)
