def IB (fl fh al ah : Nat → Int) (F : Nat → Int32) (A : Nat → Nat → Int32) : Prop := (∀ k : Nat, fl k ≤ (F k).toInt ∧ (F k).toInt ≤ fh k) ∧ ∀ a j : Nat, al a ≤ (A a j).toInt ∧ (A a j).toInt ≤ ah a
def AJ (lo hi : Int) (g : Nat → Int32) : Prop := ∀ j : Nat, lo ≤ (g j).toInt ∧ (g j).toInt ≤ hi
theorem AJ_upd {lo hi : Int} {i : Nat} {g : Nat → Int32} {v : Int32} (hg : AJ lo hi g) (h : lo ≤ v.toInt ∧ v.toInt ≤ hi) : AJ lo hi (upd g i v) := fun j => by
  unfold upd
  split
  · exact h
  · exact hg j
theorem AJ_full (g : Nat → Int32) : AJ (-2147483648) 2147483647 g := fun j => i32b _
theorem IB_put {fl fh al ah : Nat → Int} {F : Nat → Int32} {A : Nat → Nat → Int32} {k : Nat} {v : Int32} (hI : IB fl fh al ah F A) (h : fl k ≤ v.toInt ∧ v.toInt ≤ fh k) : IB fl fh al ah (upd F k v) A := ⟨fun j => by
  unfold upd
  split
  · subst_vars; exact h
  · exact hI.1 j, hI.2⟩
theorem IB_arr {fl fh al ah : Nat → Int} {F : Nat → Int32} {A : Nat → Nat → Int32} {k : Nat} {g : Nat → Int32} (hI : IB fl fh al ah F A) (h : AJ (al k) (ah k) g) : IB fl fh al ah F (vA A k g) := ⟨hI.1, fun b j => by
  unfold vA
  split
  · subst_vars; exact h j
  · exact hI.2 b j⟩
abbrev uX0 (cs : Nat → ClassId) (h : Nat) (q : Nat → Nat) (F : Nat → Int32) (A : Nat → Nat → Int32) (B : Nat → Nat → Int64) (D : Int64) : va_W := [(h, .inr (0, [.ref (q 0), .ref (q 1), .ref (q 2)])), (q 0, .inl (cs 6, 5, .inr (.inr (.inr (.inr (va_up (va_up (va_up (va_up (va_up (fun _ => none) 0 (some (q 10))) 1 (some (q 11))) 2 (some (q 12))) 3 (some (q 13))) 4 (some (q 14)))))))), (q 1, .inl (cs 7, 5, .inr (.inr (.inr (.inr (va_up (va_up (va_up (va_up (va_up (fun _ => none) 0 (some (q 20))) 1 (some (q 21))) 2 (some (q 22))) 3 (some (q 23))) 4 (some (q 24)))))))), (q 2, .inl (cs 0, 7, .inl (A 2))), (q 20, .inl (cs 0, 5, .inl (A 20))), (q 21, .inl (cs 0, 5, .inl (A 21))), (q 22, .inl (cs 0, 5, .inl (A 22))), (q 23, .inl (cs 0, 5, .inl (A 23))), (q 24, .inl (cs 0, 5, .inl (A 24)))]
/-- the same, by another name: what a call leaves is held against what is known cell by cell -/
abbrev wX0 (cs : Nat → ClassId) (h : Nat) (q : Nat → Nat) (F : Nat → Int32) (A : Nat → Nat → Int32) (B : Nat → Nat → Int64) (D : Int64) : va_W := [(h, .inr (0, [.ref (q 0), .ref (q 1), .ref (q 2)])), (q 0, .inl (cs 6, 5, .inr (.inr (.inr (.inr (va_up (va_up (va_up (va_up (va_up (fun _ => none) 0 (some (q 10))) 1 (some (q 11))) 2 (some (q 12))) 3 (some (q 13))) 4 (some (q 14)))))))), (q 1, .inl (cs 7, 5, .inr (.inr (.inr (.inr (va_up (va_up (va_up (va_up (va_up (fun _ => none) 0 (some (q 20))) 1 (some (q 21))) 2 (some (q 22))) 3 (some (q 23))) 4 (some (q 24)))))))), (q 2, .inl (cs 0, 7, .inl (A 2))), (q 20, .inl (cs 0, 5, .inl (A 20))), (q 21, .inl (cs 0, 5, .inl (A 21))), (q 22, .inl (cs 0, 5, .inl (A 22))), (q 23, .inl (cs 0, 5, .inl (A 23))), (q 24, .inl (cs 0, 5, .inl (A 24)))]
def flX0 (k : Nat) : Int := match k with
  | _ => (-2147483648)
def fhX0 (k : Nat) : Int := match k with
  | _ => 2147483647
def alX0 (k : Nat) : Int := match k with
  | _ => (-2147483648)
def ahX0 (k : Nat) : Int := match k with
  | _ => 2147483647
abbrev IX0 (F : Nat → Int32) (A : Nat → Nat → Int32) : Prop := IB flX0 fhX0 alX0 ahX0 F A
abbrev uX1 (cs : Nat → ClassId) (h : Nat) (q : Nat → Nat) (F : Nat → Int32) (A : Nat → Nat → Int32) (B : Nat → Nat → Int64) (D : Int64) : va_W := [(h, .inr (1, [.ref (q 0), .ref (q 1), .ref (q 2), .ref (q 3), .ref (q 4), .int (F 5), .int (F 6)])), (q 0, .inl (cs 2, 98, .inr (.inl (B 0)))), (q 1, .inl (cs 0, 1792, .inl (A 1))), (q 2, .inl (cs 0, 1792, .inl (A 2))), (q 3, .inl (cs 0, 7, .inl (A 3))), (q 4, .inl (cs 0, 49, .inl (A 4)))]
/-- the same, by another name: what a call leaves is held against what is known cell by cell -/
abbrev wX1 (cs : Nat → ClassId) (h : Nat) (q : Nat → Nat) (F : Nat → Int32) (A : Nat → Nat → Int32) (B : Nat → Nat → Int64) (D : Int64) : va_W := [(h, .inr (1, [.ref (q 0), .ref (q 1), .ref (q 2), .ref (q 3), .ref (q 4), .int (F 5), .int (F 6)])), (q 0, .inl (cs 2, 98, .inr (.inl (B 0)))), (q 1, .inl (cs 0, 1792, .inl (A 1))), (q 2, .inl (cs 0, 1792, .inl (A 2))), (q 3, .inl (cs 0, 7, .inl (A 3))), (q 4, .inl (cs 0, 49, .inl (A 4)))]
def flX1 (k : Nat) : Int := match k with
  | 5 => 0
  | 6 => (-1)
  | _ => (-2147483648)
def fhX1 (k : Nat) : Int := match k with
  | 5 => 1792
  | 6 => 1791
  | _ => 2147483647
def alX1 (k : Nat) : Int := match k with
  | 1 => 0
  | 2 => (-1)
  | 3 => 0
  | _ => (-2147483648)
def ahX1 (k : Nat) : Int := match k with
  | 1 => 6271
  | 2 => 1791
  | 3 => 6
  | _ => 2147483647
abbrev IX1 (F : Nat → Int32) (A : Nat → Nat → Int32) : Prop := IB flX1 fhX1 alX1 ahX1 F A
abbrev uX2 (cs : Nat → ClassId) (h : Nat) (q : Nat → Nat) (F : Nat → Int32) (A : Nat → Nat → Int32) (B : Nat → Nat → Int64) (D : Int64) : va_W := [(h, .inr (2, [.long D, .int (F 1), .int (F 2)]))]
/-- the same, by another name: what a call leaves is held against what is known cell by cell -/
abbrev wX2 (cs : Nat → ClassId) (h : Nat) (q : Nat → Nat) (F : Nat → Int32) (A : Nat → Nat → Int32) (B : Nat → Nat → Int64) (D : Int64) : va_W := [(h, .inr (2, [.long D, .int (F 1), .int (F 2)]))]
def flX2 (k : Nat) : Int := match k with
  | 2 => (-1)
  | _ => (-2147483648)
def fhX2 (k : Nat) : Int := match k with
  | 2 => 6
  | _ => 2147483647
def alX2 (k : Nat) : Int := match k with
  | _ => (-2147483648)
def ahX2 (k : Nat) : Int := match k with
  | _ => 2147483647
abbrev IX2 (F : Nat → Int32) (A : Nat → Nat → Int32) : Prop := IB flX2 fhX2 alX2 ahX2 F A
abbrev uX3 (cs : Nat → ClassId) (h : Nat) (q : Nat → Nat) (F : Nat → Int32) (A : Nat → Nat → Int32) (B : Nat → Nat → Int64) (D : Int64) : va_W := [(h, .inr (3, [.int (F 0), .int (F 1), .int (F 2), .int (F 3), .int (F 4), .int (F 5), .int (F 6), .ref (q 7), .ref (q 8), .ref (q 9), .ref (q 10), .ref (q 11), .ref (q 12), .ref (q 13)])), (q 7, .inl (cs 0, 7, .inl (A 7))), (q 8, .inl (cs 0, 7, .inl (A 8))), (q 9, .inl (cs 0, 7, .inl (A 9))), (q 10, .inl (cs 0, 7, .inl (A 10))), (q 11, .inl (cs 0, 6, .inl (A 11))), (q 12, .inl (cs 0, 6, .inl (A 12))), (q 13, .inl (cs 0, 36, .inl (A 13)))]
/-- the same, by another name: what a call leaves is held against what is known cell by cell -/
abbrev wX3 (cs : Nat → ClassId) (h : Nat) (q : Nat → Nat) (F : Nat → Int32) (A : Nat → Nat → Int32) (B : Nat → Nat → Int64) (D : Int64) : va_W := [(h, .inr (3, [.int (F 0), .int (F 1), .int (F 2), .int (F 3), .int (F 4), .int (F 5), .int (F 6), .ref (q 7), .ref (q 8), .ref (q 9), .ref (q 10), .ref (q 11), .ref (q 12), .ref (q 13)])), (q 7, .inl (cs 0, 7, .inl (A 7))), (q 8, .inl (cs 0, 7, .inl (A 8))), (q 9, .inl (cs 0, 7, .inl (A 9))), (q 10, .inl (cs 0, 7, .inl (A 10))), (q 11, .inl (cs 0, 6, .inl (A 11))), (q 12, .inl (cs 0, 6, .inl (A 12))), (q 13, .inl (cs 0, 36, .inl (A 13)))]
def flX3 (k : Nat) : Int := match k with
  | 5 => 0
  | 6 => 0
  | _ => (-2147483648)
def fhX3 (k : Nat) : Int := match k with
  | 5 => 7
  | 6 => 6
  | _ => 2147483647
def alX3 (k : Nat) : Int := match k with
  | 10 => 0
  | 12 => 0
  | _ => (-2147483648)
def ahX3 (k : Nat) : Int := match k with
  | 10 => 127
  | 12 => 63
  | _ => 2147483647
abbrev IX3 (F : Nat → Int32) (A : Nat → Nat → Int32) : Prop := IB flX3 fhX3 alX3 ahX3 F A
abbrev uX4 (cs : Nat → ClassId) (h : Nat) (q : Nat → Nat) (F : Nat → Int32) (A : Nat → Nat → Int32) (B : Nat → Nat → Int64) (D : Int64) : va_W := [(h, .inr (4, [.ref (q 0)])), (q 0, .inl (cs 0, 64, .inl (A 0)))]
/-- the same, by another name: what a call leaves is held against what is known cell by cell -/
abbrev wX4 (cs : Nat → ClassId) (h : Nat) (q : Nat → Nat) (F : Nat → Int32) (A : Nat → Nat → Int32) (B : Nat → Nat → Int64) (D : Int64) : va_W := [(h, .inr (4, [.ref (q 0)])), (q 0, .inl (cs 0, 64, .inl (A 0)))]
def flX4 (k : Nat) : Int := match k with
  | _ => (-2147483648)
def fhX4 (k : Nat) : Int := match k with
  | _ => 2147483647
def alX4 (k : Nat) : Int := match k with
  | _ => (-2147483648)
def ahX4 (k : Nat) : Int := match k with
  | _ => 2147483647
abbrev IX4 (F : Nat → Int32) (A : Nat → Nat → Int32) : Prop := IB flX4 fhX4 alX4 ahX4 F A
abbrev uX5 (cs : Nat → ClassId) (h : Nat) (q : Nat → Nat) (F : Nat → Int32) (A : Nat → Nat → Int32) (B : Nat → Nat → Int64) (D : Int64) : va_W := [(h, .inr (5, [.ref (q 0), .ref (q 1), .int (F 2), .int (F 3)])), (q 0, .inl (cs 0, 7, .inl (A 0))), (q 1, .inl (cs 0, 7, .inl (A 1)))]
/-- the same, by another name: what a call leaves is held against what is known cell by cell -/
abbrev wX5 (cs : Nat → ClassId) (h : Nat) (q : Nat → Nat) (F : Nat → Int32) (A : Nat → Nat → Int32) (B : Nat → Nat → Int64) (D : Int64) : va_W := [(h, .inr (5, [.ref (q 0), .ref (q 1), .int (F 2), .int (F 3)])), (q 0, .inl (cs 0, 7, .inl (A 0))), (q 1, .inl (cs 0, 7, .inl (A 1)))]
def flX5 (k : Nat) : Int := match k with
  | _ => (-2147483648)
def fhX5 (k : Nat) : Int := match k with
  | _ => 2147483647
def alX5 (k : Nat) : Int := match k with
  | _ => (-2147483648)
def ahX5 (k : Nat) : Int := match k with
  | _ => 2147483647
abbrev IX5 (F : Nat → Int32) (A : Nat → Nat → Int32) : Prop := IB flX5 fhX5 alX5 ahX5 F A
abbrev uX6 (cs : Nat → ClassId) (h : Nat) (q : Nat → Nat) (F : Nat → Int32) (A : Nat → Nat → Int32) (B : Nat → Nat → Int64) (D : Int64) : va_W := [(h, .inr (6, [.ref (q 0), .int (F 1), .int (F 2), .int (F 3), .int (F 4), .int (F 5), .int (F 6)]))]
/-- the same, by another name: what a call leaves is held against what is known cell by cell -/
abbrev wX6 (cs : Nat → ClassId) (h : Nat) (q : Nat → Nat) (F : Nat → Int32) (A : Nat → Nat → Int32) (B : Nat → Nat → Int64) (D : Int64) : va_W := [(h, .inr (6, [.ref (q 0), .int (F 1), .int (F 2), .int (F 3), .int (F 4), .int (F 5), .int (F 6)]))]
def flX6 (k : Nat) : Int := match k with
  | 1 => 0
  | 2 => 0
  | 3 => 0
  | _ => (-2147483648)
def fhX6 (k : Nat) : Int := match k with
  | 1 => 900
  | 2 => 4
  | 3 => 900
  | _ => 2147483647
def alX6 (k : Nat) : Int := match k with
  | _ => (-2147483648)
def ahX6 (k : Nat) : Int := match k with
  | _ => 2147483647
abbrev IX6 (F : Nat → Int32) (A : Nat → Nat → Int32) : Prop := IB flX6 fhX6 alX6 ahX6 F A
abbrev uX7 (cs : Nat → ClassId) (h : Nat) (q : Nat → Nat) (F : Nat → Int32) (A : Nat → Nat → Int32) (B : Nat → Nat → Int64) (D : Int64) : va_W := [(h, .inr (7, [.ref (q 0), .int (F 1), .int (F 2), .int (F 3)])), (q 0, .inl (cs 2, 60, .inr (.inl (B 0))))]
/-- the same, by another name: what a call leaves is held against what is known cell by cell -/
abbrev wX7 (cs : Nat → ClassId) (h : Nat) (q : Nat → Nat) (F : Nat → Int32) (A : Nat → Nat → Int32) (B : Nat → Nat → Int64) (D : Int64) : va_W := [(h, .inr (7, [.ref (q 0), .int (F 1), .int (F 2), .int (F 3)])), (q 0, .inl (cs 2, 60, .inr (.inl (B 0))))]
def flX7 (k : Nat) : Int := match k with
  | 1 => 0
  | 3 => 0
  | _ => (-2147483648)
def fhX7 (k : Nat) : Int := match k with
  | 1 => 1
  | 3 => 60
  | _ => 2147483647
def alX7 (k : Nat) : Int := match k with
  | _ => (-2147483648)
def ahX7 (k : Nat) : Int := match k with
  | _ => 2147483647
abbrev IX7 (F : Nat → Int32) (A : Nat → Nat → Int32) : Prop := IB flX7 fhX7 alX7 ahX7 F A
abbrev uX8 (cs : Nat → ClassId) (h : Nat) (q : Nat → Nat) (F : Nat → Int32) (A : Nat → Nat → Int32) (B : Nat → Nat → Int64) (D : Int64) : va_W := [(h, .inr (8, [.ref (q 0), .ref (q 1), .int (F 2), .int (F 3)])), (q 1, .inl (cs 0, 60, .inl (A 1)))]
/-- the same, by another name: what a call leaves is held against what is known cell by cell -/
abbrev wX8 (cs : Nat → ClassId) (h : Nat) (q : Nat → Nat) (F : Nat → Int32) (A : Nat → Nat → Int32) (B : Nat → Nat → Int64) (D : Int64) : va_W := [(h, .inr (8, [.ref (q 0), .ref (q 1), .int (F 2), .int (F 3)])), (q 1, .inl (cs 0, 60, .inl (A 1)))]
def flX8 (k : Nat) : Int := match k with
  | 2 => 0
  | 3 => 0
  | _ => (-2147483648)
def fhX8 (k : Nat) : Int := match k with
  | 2 => 60
  | 3 => 1
  | _ => 2147483647
def alX8 (k : Nat) : Int := match k with
  | _ => (-2147483648)
def ahX8 (k : Nat) : Int := match k with
  | _ => 2147483647
abbrev IX8 (F : Nat → Int32) (A : Nat → Nat → Int32) : Prop := IB flX8 fhX8 alX8 ahX8 F A
abbrev uX9 (cs : Nat → ClassId) (h : Nat) (q : Nat → Nat) (F : Nat → Int32) (A : Nat → Nat → Int32) (B : Nat → Nat → Int64) (D : Int64) : va_W := [(h, .inr (9, [.ref (q 0), .int (F 1)])), (q 0, .inl (cs 1, 900, .inl (A 0)))]
/-- the same, by another name: what a call leaves is held against what is known cell by cell -/
abbrev wX9 (cs : Nat → ClassId) (h : Nat) (q : Nat → Nat) (F : Nat → Int32) (A : Nat → Nat → Int32) (B : Nat → Nat → Int64) (D : Int64) : va_W := [(h, .inr (9, [.ref (q 0), .int (F 1)])), (q 0, .inl (cs 1, 900, .inl (A 0)))]
def flX9 (k : Nat) : Int := match k with
  | 1 => 0
  | _ => (-2147483648)
def fhX9 (k : Nat) : Int := match k with
  | 1 => 900
  | _ => 2147483647
def alX9 (k : Nat) : Int := match k with
  | _ => (-2147483648)
def ahX9 (k : Nat) : Int := match k with
  | _ => 2147483647
abbrev IX9 (F : Nat → Int32) (A : Nat → Nat → Int32) : Prop := IB flX9 fhX9 alX9 ahX9 F A
abbrev uX10 (cs : Nat → ClassId) (h : Nat) (q : Nat → Nat) (F : Nat → Int32) (A : Nat → Nat → Int32) (B : Nat → Nat → Int64) (D : Int64) : va_W := [(h, .inr (10, [.ref (q 0), .ref (q 1), .ref (q 2), .ref (q 3), .ref (q 4), .ref (q 5), .ref (q 6), .ref (q 7), .ref (q 8), .ref (q 9), .ref (q 10), .ref (q 11)])), (q 4, .inl (cs 4, 3, .inr (.inr (.inr (.inr (va_up (va_up (va_up (fun _ => none) 0 (some (q 30))) 1 (some (q 31))) 2 (some (q 32)))))))), (q 5, .inl (cs 5, 4, .inr (.inr (.inr (.inr (va_up (va_up (va_up (va_up (fun _ => none) 0 (some (q 20))) 1 (some (q 21))) 2 (some (q 22))) 3 (some (q 23))))))))]
/-- the same, by another name: what a call leaves is held against what is known cell by cell -/
abbrev wX10 (cs : Nat → ClassId) (h : Nat) (q : Nat → Nat) (F : Nat → Int32) (A : Nat → Nat → Int32) (B : Nat → Nat → Int64) (D : Int64) : va_W := [(h, .inr (10, [.ref (q 0), .ref (q 1), .ref (q 2), .ref (q 3), .ref (q 4), .ref (q 5), .ref (q 6), .ref (q 7), .ref (q 8), .ref (q 9), .ref (q 10), .ref (q 11)])), (q 4, .inl (cs 4, 3, .inr (.inr (.inr (.inr (va_up (va_up (va_up (fun _ => none) 0 (some (q 30))) 1 (some (q 31))) 2 (some (q 32)))))))), (q 5, .inl (cs 5, 4, .inr (.inr (.inr (.inr (va_up (va_up (va_up (va_up (fun _ => none) 0 (some (q 20))) 1 (some (q 21))) 2 (some (q 22))) 3 (some (q 23))))))))]
def flX10 (k : Nat) : Int := match k with
  | _ => (-2147483648)
def fhX10 (k : Nat) : Int := match k with
  | _ => 2147483647
def alX10 (k : Nat) : Int := match k with
  | _ => (-2147483648)
def ahX10 (k : Nat) : Int := match k with
  | _ => 2147483647
abbrev IX10 (F : Nat → Int32) (A : Nat → Nat → Int32) : Prop := IB flX10 fhX10 alX10 ahX10 F A
theorem AJ_cpy {lo hi : Int} {f g : Nat → Int32} {a b n : Nat} (hf : AJ lo hi f) (hg : AJ lo hi g) : AJ lo hi (va_cpy f g a b n) := fun j => by
  unfold va_cpy
  split
  · exact hf _
  · exact hg j
section KC
variable {p : Program} {l : Launch} {e : Env} {R : Room} {s : State} {m : MethodId} {args : Array Value} {below : List Frame} {meth : Method} {c : Code} {H : Heap} {locs : List Loc} {cells slots mc ms : Nat} {Q : State → Prop}
variable {cc : ByteArray} {pc : Nat} {ls : Array Slot} {rest st0 : List Value} {G : va_G} {A : Nat → Prop} {tys : List (ClassId × FieldType)} {ws wr : va_W} {H0 : Heap} {nL : Nat} {own host : String}
variable {C : String} {idx : Nat} {y : MethodName} {b : ByteArray} {n : Nat} {fr : Nat} {o : Nat} {As : List Value} {wd : va_W} {a : Nat}
/-- a static method of another class that writes nothing -/
theorem runTP {ret : Option FieldType} {Qc : Nat → Array Value → State → Outcome → State → Prop} (S : CF p m c cc nL s args own) (hM : ∀ sz : Nat, Met l y (wk y b n ret) (rmk fr 0 0) (PreP G tys As wd sz) (Qc sz) 0 0 (fun q => sz ≤ q)) (hw : okT own idx y b n ret As.length) (hR : fr + 1 ≤ R.frames ∧ 8 + (n + 11) + 60 * fr ≤ R.locals) (hK : KK G tys s) (hP : va_P G vwCl ws H) (is : List Nat) (hs : is.filterMap (fun i => ws[i]?) = wd) (hsz : ls.size = nL) (hst : st0 = As.reverse ++ rest) (hroom : (rest.map fun v => v.category).sum ≤ 8) (hdg : decode cc pc = .ok (.invokestatic idx, 3)) (hcs : cells ≤ R.cells ∧ slots ≤ R.slots) :
    va_Run p l e R s m args below meth c H locs cells slots 0 0 (F0 m pc ls st0) rest (Qc H.size As.toArray) (fun q => H.size ≤ q) :=
  va_runS (As := As) (rest := rest) S (hM H.size) ⟨callB_of As.length S.2.2.2.2 (gk hw.1.2.2.2) rfl rfl rfl (S.2.2.2.2 _ hw.1.2.2.1) (S.2.2.2.2 _ hw.1.1) hw.2 hR, S.2.2.2.2 _ hw.1.2.1⟩ ⟨PreP.blind, fun U hU hW => ⟨rfl, by rw [hU], by rw [hU]; exact hP.sub is hs, KK.warm hW hK⟩⟩ rfl rfl hsz hst (lv_room hroom) hdg hcs
/-- a row of rows: one of them -/
theorem va_ald2 (hexec : p.tables.exec = Jvm.exec) (hb : c.code = cc) (hK : va_K G vwCl tys s) (hP : va_P G vwCl ws H) (q0 t0 : Nat) {cA : ClassId} {ty : FieldType} {n : Nat} {f : Nat → Option Nat} (ha : ws[q0]? = some (a, .inl (cA, n, .inr (.inr (.inr (.inr f)))))) (ht : tys[t0]? = some (cA, .array ty)) {i : Int32} (hin : vp_in i n) (hdg : decode cc pc = .ok (.aaload, 1))
    (kk : W p l e R s m args below meth c H locs cells slots Q (F0 m (pc + 1) ls (va_rf (f i.toNatClampNeg) :: rest))) : W p l e R s m args below meth c H locs cells slots Q (F0 m pc ls (.int i :: .ref a :: rest)) := by
  have hlt : i.toNatClampNeg < n := Nat.not_le.mp fun q => hin (Or.inr q)
  exact W.aald (v := va_rf (f i.toNatClampNeg)) (ty := .array ty) hexec hb (hP q0 _ ha) ((hK.2 t0 _ ht).1 n (fun j => va_rf (f j))) rfl (fun q => by cases q) (by show ¬ (i < 0 ∨ (arrV _ _ _).slots.size ≤ _); rw [arrV_size]; exact hin) (by show (arrV _ _ _).slots[_]? = _; rw [arrV_read _ _ hlt]) rfl rfl hdg kk
/-- answers a reference that is known, changes nothing -/
def QRr (k : Nat) (sz : Nat) : Array Value → State → Outcome → State → Prop := va_Qr (fun _ : Unit => True) (fun _ x _ => x = k) (fun q => sz ≤ q)
theorem behRr {k : Nat} {a : Array Value} (hr : va_Run p l e R s m args below meth c H locs cells slots 0 0 (F0 m pc ls st0) rest (QRr k H.size a) (fun q => H.size ≤ q)) (hP : va_P G vwCl ws H) (hS : va_S A H0 H locs) (hA : ∀ q : Nat, H0.size ≤ q → A q)
    (kk : ∀ (H1 : Heap) (locs1 : List Loc), va_P G vwCl ws H1 → va_S A H0 H1 locs1 → W p l e R s m args below meth c H1 locs1 cells slots Q (F0 m (pc + 3) ls (.ref k :: rest))) : W p l e R s m args below meth c H locs cells slots Q (F0 m pc ls st0) := by
  refine va_callr (A1 := fun q => H.size ≤ q) hr hS (fun q h1 h2 => absurd h1 (Nat.not_lt.mpr h2)) (fun q h => hA q (Nat.le_trans hS.1 h)) (fun u ra t H1 locs1 ht' hvm hw' hB hz hk hS' => ?_)
  cases hB
  exact kk H1 locs1 (hP.kept (fun k q hq => hk q.1 ((hP k q hq).lt) (Nat.not_le.mpr (hP k q hq).lt))) hS'
theorem retRr {k : Nat} {ls : Array Slot} {t9 : FieldType} (hx : p.tables.exec = Jvm.exec) (hb : c.code = cc) (hr : meth.sig.returnType = some (.array t9)) (hlk : meth.locks = false) (hS : va_S (fun q => s.heap.size ≤ q) s.heap H locs) (hdg : decode cc pc = .ok (.areturn, 1)) : W p l e R s m args below meth c H locs 0 0 (MQ below (QRr k s.heap.size) args s 0 0 (fun q => s.heap.size ≤ q)) (F0 m pc ls [.ref k]) :=
  W.aret hx hb hr (Or.inr ⟨_, rfl⟩) (Or.inr ⟨_, rfl⟩) (fun t ht hW => ⟨⟨(), k, rfl, trivial, rfl⟩, hS.F ht⟩) hS.2.2 hdg hlk
end KC
theorem shr7 : ∀ x : Fin 128, ∀ c : Fin 32, ((nI x.val) >>> (nI c.val &&& 31)).toInt = ((x.val / 2 ^ c.val : Nat) : Int) := by decide +kernel
theorem ushr7 : ∀ x : Fin 128, ∀ c : Fin 32, (((nI x.val).toUInt32 >>> ((nI c.val).toUInt32 &&& Int32.toUInt32 31)).toInt32).toInt = ((x.val / 2 ^ c.val : Nat) : Int) := by decide +kernel
theorem shrT {a y : Int32} {x d : Int} (c : Nat) (hc : c < 32) (hy : y = nI c) (hd : ((2 ^ c : Nat) : Int) = d) (ha : a.toInt = x) (h : 0 ≤ x ∧ x ≤ 127) : (a >>> (y &&& 31)).toInt = x / d := by
  have z := clK (i := a) ha h.1
  have k := shr7 ⟨a.toNatClampNeg, by omega⟩ ⟨c, hc⟩
  have e : nI a.toNatClampNeg = a := nIc (by omega)
  have k1 : ((nI a.toNatClampNeg) >>> (nI c &&& 31)).toInt = ((a.toNatClampNeg / 2 ^ c : Nat) : Int) := k
  rw [e, ← hy] at k1
  rw [k1, Int.natCast_ediv, z, hd]
theorem ushrT {a y : Int32} {x d : Int} (c : Nat) (hc : c < 32) (hy : y = nI c) (hd : ((2 ^ c : Nat) : Int) = d) (ha : a.toInt = x) (h : 0 ≤ x ∧ x ≤ 127) : ((a.toUInt32 >>> (y.toUInt32 &&& Int32.toUInt32 31)).toInt32).toInt = x / d := by
  have z := clK (i := a) ha h.1
  have k := ushr7 ⟨a.toNatClampNeg, by omega⟩ ⟨c, hc⟩
  have e : nI a.toNatClampNeg = a := nIc (by omega)
  have k1 : (((nI a.toNatClampNeg).toUInt32 >>> ((nI c).toUInt32 &&& Int32.toUInt32 31)).toInt32).toInt = ((a.toNatClampNeg / 2 ^ c : Nat) : Int) := k
  rw [e, ← hy] at k1
  rw [k1, Int.natCast_ediv, z, hd]
theorem ntz7 : ∀ x : Fin 128, 1 ≤ x.val → 0 ≤ (((nI x.val) ^^^ -1) &&& (nI x.val - 1)).toInt ∧ (((nI x.val) ^^^ -1) &&& (nI x.val - 1)).toInt ≤ 63 := by decide +kernel
theorem ntzA {x : Int32} (h : (1 : Int) ≤ x.toInt ∧ x.toInt ≤ 127) : 0 ≤ ((x ^^^ -1) &&& (x - 1)).toInt ∧ ((x ^^^ -1) &&& (x - 1)).toInt ≤ 63 := by
  have z := clK (i := x) rfl (by omega)
  have k := ntz7 ⟨x.toNatClampNeg, by omega⟩ (by show 1 ≤ x.toNatClampNeg; omega)
  have k1 : 0 ≤ (((nI x.toNatClampNeg) ^^^ -1) &&& (nI x.toNatClampNeg - 1)).toInt ∧ (((nI x.toNatClampNeg) ^^^ -1) &&& (nI x.toNatClampNeg - 1)).toInt ≤ 63 := k
  rw [nIc (by omega)] at k1
  exact k1
theorem orGe {a b : Int32} {x y : Int} (ha : a.toInt = x) (hb : b.toInt = y) (hx : 0 ≤ x) (h : 0 ≤ (a ||| b).toInt) : x ≤ (a ||| b).toInt := by
  have t := tnT ha hx
  have v := tnT (a := a ||| b) rfl h
  rw [Int32.toBitVec_or, BitVec.toNat_or] at v
  have := Nat.left_le_or (n := a.toBitVec.toNat) (m := b.toBitVec.toNat)
  omega
/-- where r = v the first n numbers are within -/
def RWk (r : Int32) (v : Int) (B : Nat → Int64) (lo hi n : Int) : Prop := r.toInt = v → ∀ i : Nat, (i : Int) < n → lo ≤ (B i).toInt ∧ (B i).toInt ≤ hi
def RWn (B : Nat → Int64) (lo hi n : Int) : Prop := ∀ i : Nat, (i : Int) < n → lo ≤ (B i).toInt ∧ (B i).toInt ≤ hi
theorem RWn0 {B : Nat → Int64} {lo hi n : Int} (h : n ≤ 0) : RWn B lo hi n := fun i hi => absurd hi (by omega)
theorem RWns {B : Nat → Int64} {lo hi x y : Int} {i : Nat} (h : RWn B lo hi x) (hi' : (i : Int) = x) (hb : lo ≤ (B i).toInt ∧ (B i).toInt ≤ hi) (hy : y = x + 1) : RWn B lo hi y := fun j hj => by
  by_cases e : j = i
  · rw [e]; exact hb
  · exact h j (by omega)
theorem RWnle {B : Nat → Int64} {lo hi x y : Int} (h : RWn B lo hi x) (hy : y ≤ x) : RWn B lo hi y := fun j hj => h j (by omega)
/-- a number of the row, as an int -/
def RAt (r i : Int32) (B : Nat → Int64) (n : Int) : Prop := 0 ≤ i.toInt → i.toInt < n → r = (B i.toNatClampNeg).toInt32
theorem RWr {r i : Int32} {B : Nat → Int64} {n lo hi : Int} (h : RAt r i B n) (hw : RWn B lo hi n) (hi0 : 0 ≤ i.toInt) (hin : i.toInt < n) (hlo : -1 ≤ lo) (hhi : hi ≤ 6) : -1 ≤ r.toInt ∧ r.toInt ≤ 6 := by
  have c := clK (i := i) rfl hi0
  have z := hw i.toNatClampNeg (by omega)
  rw [h hi0 hin, l2iT (by omega)]
  omega
