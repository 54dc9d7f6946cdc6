abbrev mS (cs : Nat → ClassId) (h : Nat) (q : Nat → Nat) (F : Nat → Int32) (A : Nat → Nat → Int32) (D : Int64) (B : Nat → Nat → Int64) : va_W := [(h, .inr (11, [.int (F 0), .ref (q 1), .ref (q 2), .ref (q 3), .ref (q 4), .int (F 5), .ref (q 6), .int (F 7), .int (F 8), .int (F 9), .int (F 10), .int (F 11), .int (F 12), .int (F 13), .ref (q 14), .ref (q 15), .ref (q 16), .int (F 17), .int (F 18), .ref (q 19), .ref (q 20), .ref (q 21), .int (F 22), .ref (q 23), .ref (q 24), .ref (q 25), .int (F 26), .ref (q 27), .long D, .int (F 29), .int (F 30), .ref (q 31), .ref (q 32), .ref (q 33), .ref (q 34)])), (q 1, .inl (cs 0, 144, .inl (A 1))), (q 2, .inl (cs 0, 432, .inl (A 2))), (q 3, .inl (cs 3, 3, .inl (A 3))), (q 4, .inl (cs 1, 900, .inl (A 4))), (q 6, .inl (cs 0, 5, .inl (A 6))), (q 14, .inl (cs 0, 144, .inl (A 14))), (q 15, .inl (cs 0, 7, .inl (A 15))), (q 16, .inl (cs 0, 7, .inl (A 16))), (q 19, .inl (cs 0, 5, .inl (A 19))), (q 20, .inl (cs 0, 5, .inl (A 20))), (q 21, .inl (cs 0, 7, .inl (A 21))), (q 23, .inl (cs 0, 6272, .inl (A 23))), (q 24, .inl (cs 0, 6272, .inl (A 24))), (q 25, .inl (cs 0, 6272, .inl (A 25))), (q 27, .inl (cs 0, 64, .inl (A 27))), (q 31, .inl (cs 0, 4, .inl (A 31))), (q 32, .inl (cs 0, 4, .inl (A 32))), (q 33, .inl (cs 2, 240, .inr (.inl (B 33)))), (q 34, .inl (cs 2, 60, .inr (.inl (B 34))))]
abbrev MS : Type := (Nat → Int32) × (Nat → Nat → Int32) × Int64 × (Nat → Nat → Int64)
abbrev mSu (cs : Nat → ClassId) (h : Nat) (q : Nat → Nat) (u : MS) : va_W := mS cs h q u.1 u.2.1 u.2.2.1 u.2.2.2
def fLo (k : Nat) : Int := match k with
  | 5 => 0
  | 7 => 0
  | 8 => 0
  | 9 => 0
  | 10 => 0
  | 11 => 0
  | 12 => 0
  | 13 => (-1)
  | 26 => 0
  | 29 => (-1)
  | 30 => (-1)
  | _ => (-2147483648)
def fHi (k : Nat) : Int := match k with
  | 5 => 900
  | 7 => 900
  | 8 => 900
  | 9 => 900
  | 10 => 4
  | 11 => 99999
  | 12 => 3
  | 13 => 900
  | 26 => 6272
  | 29 => 59
  | 30 => 6
  | _ => 2147483647
def wLo (j : Nat) : Int := if 84 ≤ j then -1 else if j = 6 then -2147483648 else if j < 4 then -2147483648 else 0
def wHi (j : Nat) : Int := if 84 ≤ j then 6 else if j = 6 then 2147483647 else if j < 4 then 2147483647 else if j = 4 then 7 else if j = 5 then 6 else if j = 7 then 60 else if j < 36 then (if j % 4 = 3 then 127 else if j % 4 = 2 then 99 else if j % 4 = 1 then 100 else 999) else if j % 8 = 4 then 99 else if j % 8 = 5 then 63 else 9
def aLo (a j : Nat) : Int := match a with
  | 1 => wLo j
  | 2 => wLo (j % 144)
  | 3 => 0
  | 19 => 0
  | 20 => 0
  | 31 => (-1)
  | 32 => 0
  | 14 => wLo j
  | _ => (-2147483648)
def aHi (a j : Nat) : Int := match a with
  | 1 => wHi j
  | 2 => wHi (j % 144)
  | 3 => 1
  | 19 => 6
  | 20 => 7
  | 31 => 60
  | 32 => 3
  | 14 => wHi j
  | _ => 2147483647
def IM (F : Nat → Int32) (A : Nat → Nat → Int32) : Prop := (∀ k : Nat, fLo k ≤ (F k).toInt ∧ (F k).toInt ≤ fHi k) ∧ ∀ a j : Nat, aLo a j ≤ (A a j).toInt ∧ (A a j).toInt ≤ aHi a j
/-- the arrays, but g for array a -/
def vA {α : Type} (A : Nat → Nat → α) (a : Nat) (g : Nat → α) : Nat → Nat → α := fun b => if b = a then g else A b
def AI (k : Nat) (g : Nat → Int32) : Prop := ∀ j : Nat, aLo k j ≤ (g j).toInt ∧ (g j).toInt ≤ aHi k j
theorem AI_upd {k i : Nat} {g : Nat → Int32} {v : Int32} (hg : AI k g) (h : aLo k i ≤ v.toInt ∧ v.toInt ≤ aHi k i) : AI k (upd g i v) := fun j => by
  unfold upd
  split
  · subst_vars; exact h
  · exact hg j
theorem IM_arr {F : Nat → Int32} {A : Nat → Nat → Int32} {k : Nat} {g : Nat → Int32} (hI : IM F A) (h : AI k g) : IM F (vA A k g) := ⟨hI.1, fun b j => by
  unfold vA
  split
  · subst_vars; exact h j
  · exact hI.2 b j⟩
theorem IM_put {F : Nat → Int32} {A : Nat → Nat → Int32} {k : Nat} {v : Int32} (hI : IM F A) (h : fLo k ≤ v.toInt ∧ v.toInt ≤ fHi k) : IM (upd F k v) A := ⟨fun j => by
  unfold upd
  split
  · subst_vars; exact h
  · exact hI.1 j, hI.2⟩
theorem IM_sto {F : Nat → Int32} {A : Nat → Nat → Int32} {a k : Nat} {v : Int32} (hI : IM F A) (h : aLo a k ≤ v.toInt ∧ v.toInt ≤ aHi a k) : IM F (vA A a (upd (A a) k v)) := ⟨hI.1, fun b j => by
  unfold vA
  split
  · subst_vars
    unfold upd
    split
    · subst_vars; exact h
    · exact hI.2 _ j
  · exact hI.2 b j⟩
theorem of_fact {F : Nat → Int32} {A : Nat → Nat → Int32} (hI : IM F A) {i : Int32} {r w : Int} (hi : i.toInt = 8 + 4 * r + w) (hr : 0 ≤ r ∧ r ≤ 6) (hw : 0 ≤ w ∧ w ≤ 3) : 0 ≤ (A 1 i.toNatClampNeg).toInt ∧ (A 1 i.toNatClampNeg).toInt ≤ 999 ∧ (w = 3 → (A 1 i.toNatClampNeg).toInt ≤ 127) ∧ (w = 2 → (A 1 i.toNatClampNeg).toInt ≤ 99) := by
  have hn := clK hi (by omega)
  generalize i.toNatClampNeg = n at hn ⊢
  have h := hI.2 1 n
  have e1 : aLo 1 n = 0 := by
    show wLo n = 0
    unfold wLo
    rw [if_neg (by omega), if_neg (by omega), if_neg (by omega)]
  have e2 : aHi 1 n = if n % 4 = 3 then 127 else if n % 4 = 2 then 99 else if n % 4 = 1 then 100 else 999 := by
    show wHi n = _
    unfold wHi
    rw [if_neg (by omega), if_neg (by omega), if_neg (by omega), if_neg (by omega), if_neg (by omega), if_neg (by omega), if_pos (by omega)]
  rw [e1, e2] at h
  refine ⟨h.1, ?_, fun h3 => ?_, fun h2 => ?_⟩
  · have := h.2
    split at this
    · omega
    · split at this
      · omega
      · split at this <;> omega
  · have := h.2
    rw [if_pos (by omega)] at this
    exact this
  · have := h.2
    rw [if_neg (by omega), if_pos (by omega)] at this
    exact this
theorem om_fact {F : Nat → Int32} {A : Nat → Nat → Int32} (hI : IM F A) {i : Int32} {r w : Int} (hi : i.toInt = 36 + 8 * r + w) (hr : 0 ≤ r ∧ r ≤ 5) (hw : 0 ≤ w ∧ w ≤ 7) : 0 ≤ (A 1 i.toNatClampNeg).toInt ∧ (A 1 i.toNatClampNeg).toInt ≤ 99 ∧ (w = 1 → (A 1 i.toNatClampNeg).toInt ≤ 63) ∧ (2 ≤ w → (A 1 i.toNatClampNeg).toInt ≤ 9) := by
  have hn := clK hi (by omega)
  generalize i.toNatClampNeg = n at hn ⊢
  have h := hI.2 1 n
  have e1 : aLo 1 n = 0 := by
    show wLo n = 0
    unfold wLo
    rw [if_neg (by omega), if_neg (by omega), if_neg (by omega)]
  have e2 : aHi 1 n = if n % 8 = 4 then 99 else if n % 8 = 5 then 63 else 9 := by
    show wHi n = _
    unfold wHi
    rw [if_neg (by omega), if_neg (by omega), if_neg (by omega), if_neg (by omega), if_neg (by omega), if_neg (by omega), if_neg (by omega)]
  rw [e1, e2] at h
  refine ⟨h.1, ?_, fun h3 => ?_, fun h2 => ?_⟩
  · have := h.2
    split at this
    · omega
    · split at this <;> omega
  · have := h.2
    rw [if_neg (by omega), if_pos (by omega)] at this
    exact this
  · have := h.2
    rw [if_neg (by omega), if_neg (by omega)] at this
    exact this
theorem w84e {n : Nat} (h : 84 ≤ n) : wLo n = -1 ∧ wHi n = 6 := by
  constructor
  · unfold wLo; rw [if_pos h]
  · unfold wHi; rw [if_pos h]
theorem w84 {k n : Nat} {g : Nat → Int32} (hg : AI k g) (hk : aLo k n = wLo n ∧ aHi k n = wHi n := by exact ⟨rfl, rfl⟩) (h : 84 ≤ n) : -1 ≤ (g n).toInt ∧ (g n).toInt ≤ 6 := by
  have z := hg n
  rw [hk.1, hk.2, (w84e h).1, (w84e h).2] at z
  exact z
theorem w84b {n : Nat} {x : Int} (h : 84 ≤ n) (hx : -1 ≤ x ∧ x ≤ 6) : wLo n ≤ x ∧ x ≤ wHi n := by
  rw [(w84e h).1, (w84e h).2]
  exact hx
/-- a place of the world, copied into an image, and back -/
theorem cp_im {g : Nat → Int32} (h : AI 1 g) {i n k : Nat} (hn : n = 144 * k + i) (hi : i < 144) : aLo 2 n ≤ (g i).toInt ∧ (g i).toInt ≤ aHi 2 n := by
  have e : n % 144 = i := by omega
  have z := h i
  show wLo (n % 144) ≤ _ ∧ _ ≤ wHi (n % 144)
  rw [e]
  exact z
theorem cp_mi {g : Nat → Int32} (h : AI 2 g) {i n k : Nat} (hn : n = 144 * k + i) (hi : i < 144) : aLo 1 i ≤ (g n).toInt ∧ (g n).toInt ≤ aHi 1 i := by
  have e : n % 144 = i := by omega
  have z : wLo (n % 144) ≤ (g n).toInt ∧ (g n).toInt ≤ wHi (n % 144) := h n
  rw [e] at z
  exact z
/-- the first x numbers of a SLOT's row are ROOMS or NONE -/
def RV (B : Nat → Nat → Int64) (s : Int32) (x : Int) : Prop := ∀ i : Nat, (i : Int) < x → -1 ≤ (B 33 (60 * s.toNatClampNeg + i)).toInt ∧ (B 33 (60 * s.toNatClampNeg + i)).toInt ≤ 6
theorem RV0 {B : Nat → Nat → Int64} {s : Int32} {x : Int} (h : x ≤ 0) : RV B s x := fun i hi => absurd hi (by omega)
theorem RVle {B : Nat → Nat → Int64} {s : Int32} {x y : Int} (h : RV B s x) (hy : y ≤ x) : RV B s y := fun i hi => h i (by omega)
theorem RVs {B : Nat → Nat → Int64} {s : Int32} {x y : Int} (h : RV B s x) (hy : y = x + 1) {i : Nat} (hi : (i : Int) = x) (hb : -1 ≤ (B 33 (60 * s.toNatClampNeg + i)).toInt ∧ (B 33 (60 * s.toNatClampNeg + i)).toInt ≤ 6) : RV B s y := fun j hj => by
  by_cases e : j = i
  · rw [e]; exact hb
  · exact h j (by omega)
theorem RVroom {B : Nat → Nat → Int64} {s : Int32} {x : Int} (h : RV B s x) {i : Nat} (hi : (i : Int) < x) : -1 ≤ (B 33 (60 * s.toNatClampNeg + i)).toInt32.toInt ∧ (B 33 (60 * s.toNatClampNeg + i)).toInt32.toInt ≤ 6 := by
  have z := h i hi
  rw [l2iT (by omega)]
  exact z
theorem w8e {i : Int32} {r w : Int} (hi : i.toInt = 8 + 4 * r + w) (hr : 0 ≤ r ∧ r ≤ 6) (hw : 0 ≤ w ∧ w ≤ 3) : aLo 1 i.toNatClampNeg = 0 ∧ aHi 1 i.toNatClampNeg = if w = 3 then 127 else if w = 2 then 99 else if w = 1 then 100 else 999 := by
  have hn := clK hi (by omega)
  generalize i.toNatClampNeg = n at hn ⊢
  have e1 : aLo 1 n = 0 := by
    show wLo n = 0
    unfold wLo
    rw [if_neg (by omega), if_neg (by omega), if_neg (by omega)]
  have e2 : aHi 1 n = if n % 4 = 3 then 127 else if n % 4 = 2 then 99 else if n % 4 = 1 then 100 else 999 := by
    show wHi n = _
    unfold wHi
    rw [if_neg (by omega), if_neg (by omega), if_neg (by omega), if_neg (by omega), if_neg (by omega), if_neg (by omega), if_pos (by omega)]
  refine ⟨e1, ?_⟩
  rw [e2]
  rcases (show w = 0 ∨ w = 1 ∨ w = 2 ∨ w = 3 by omega) with h | h | h | h
  · rw [if_neg (by omega), if_neg (by omega), if_neg (by omega), if_neg (by omega), if_neg (by omega), if_neg (by omega)]
  · rw [if_neg (by omega), if_neg (by omega), if_pos (by omega), if_neg (by omega), if_neg (by omega), if_pos (by omega)]
  · rw [if_neg (by omega), if_pos (by omega), if_neg (by omega), if_pos (by omega)]
  · rw [if_pos (by omega), if_pos (by omega)]
theorem tell_fact {i : Int32} {r w n : Int} (hi : i.toInt = 8 + 4 * r + w) (hr : 0 ≤ r ∧ r ≤ 6) (hw : 0 ≤ w ∧ w ≤ 2) (hn : 0 ≤ n ∧ ((w = 0 ∧ n ≤ 999) ∨ (w = 1 ∧ n ≤ 100) ∨ (w = 2 ∧ n ≤ 99))) : aLo 1 i.toNatClampNeg ≤ n ∧ n ≤ aHi 1 i.toNatClampNeg := by
  obtain ⟨e1, e2⟩ := w8e hi hr (by omega)
  rw [e1, e2]
  refine ⟨hn.1, ?_⟩
  rcases hn.2 with ⟨h0, h⟩ | ⟨h0, h⟩ | ⟨h0, h⟩
  · rw [if_neg (by omega), if_neg (by omega), if_neg (by omega)]; exact h
  · rw [if_neg (by omega), if_neg (by omega), if_pos (by omega)]; exact h
  · rw [if_neg (by omega), if_pos (by omega)]; exact h
theorem door_fact {i : Int32} {r n : Int} (hi : i.toInt = 8 + 4 * r + 3) (hr : 0 ≤ r ∧ r ≤ 6) (hn : 0 ≤ n ∧ n ≤ 127) : aLo 1 i.toNatClampNeg ≤ n ∧ n ≤ aHi 1 i.toNatClampNeg := by
  obtain ⟨e1, e2⟩ := w8e (w := 3) hi hr (by omega)
  rw [e1, e2, if_pos rfl]
  exact hn
