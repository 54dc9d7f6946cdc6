/-- answers an int of a kind, changes nothing -/
def QRi (P : Int32 → Prop) (sz : Nat) : Array Value → State → Outcome → State → Prop := va_Qi (fun (x : Int32) (_ : Unit) => P x) (fun _ _ => True) (fun q => sz ≤ q)
def QRl (P : Int64 → Prop) (sz : Nat) : Array Value → State → Outcome → State → Prop := va_Ql (fun (x : Int64) (_ : Unit) => P x) (fun _ _ => True) (fun q => sz ≤ q)
def SafeR (l : Launch) (y : MethodName) (b : ByteArray) (n : Nat) (ret : Option FieldType) (fr : Nat) (G : va_G) (tys : List (ClassId × FieldType)) (av : List Value) (wd : va_W) (P : Int32 → Prop) : Prop := ∀ sz : Nat, Met l y (wk y b n ret) (rmk fr 0 0) (PreP G tys av wd sz) (QRi P sz) 0 0 (fun q => sz ≤ q)
def SafeL (l : Launch) (y : MethodName) (b : ByteArray) (n : Nat) (ret : Option FieldType) (fr : Nat) (G : va_G) (tys : List (ClassId × FieldType)) (av : List Value) (wd : va_W) (P : Int64 → Prop) : Prop := ∀ sz : Nat, Met l y (wk y b n ret) (rmk fr 0 0) (PreP G tys av wd sz) (QRl P sz) 0 0 (fun q => sz ≤ q)
section KSafe
variable {p : Program} {l : Launch} {e : Env} {R : Room} {s : State} {m : MethodId} {args : Array Value} {below : List Frame} {meth : Method} {c : Code} {H : Heap} {locs : List Loc} {cells slots : Nat} {Q : State → Prop}
variable {cc : ByteArray} {pc : Nat} {ls : Array Slot} {rest st0 : List Value} {G : va_G} {A : Nat → Prop} {ws : va_W} {H0 : Heap}
theorem behR {P : Int32 → Prop} {a : Array Value} (hr : va_Run p l e R s m args below meth c H locs cells slots 0 0 (F0 m pc ls st0) rest (QRi P H.size a) (fun q => H.size ≤ q)) (hP : va_P G vwCl ws H) (hS : va_S A H0 H locs) (hA : ∀ q : Nat, H0.size ≤ q → A q)
    (kk : ∀ (r : Int32) (H1 : Heap) (locs1 : List Loc), P r → va_P G vwCl ws H1 → va_S A H0 H1 locs1 → W p l e R s m args below meth c H1 locs1 cells slots Q (F0 m (pc + 3) ls (.int r :: rest))) : W p l e R s m args below meth c H locs cells slots Q (F0 m pc ls st0) := by
  refine va_calli (A1 := fun q => H.size ≤ q) hr hS (fun q h1 h2 => absurd h1 (Nat.not_lt.mpr h2)) (fun q h => hA q (Nat.le_trans hS.1 h)) (fun r' u t H1 locs1 ht' hvm hw' hB hz hk hS' => ?_)
  exact kk r' H1 locs1 hw' (hP.kept (fun k q hq => hk q.1 ((hP k q hq).lt) (Nat.not_le.mpr (hP k q hq).lt))) hS'
theorem behRL {P : Int64 → Prop} {a : Array Value} (hr : va_Run p l e R s m args below meth c H locs cells slots 0 0 (F0 m pc ls st0) rest (QRl P H.size a) (fun q => H.size ≤ q)) (hP : va_P G vwCl ws H) (hS : va_S A H0 H locs) (hA : ∀ q : Nat, H0.size ≤ q → A q)
    (kk : ∀ (r : Int64) (H1 : Heap) (locs1 : List Loc), P r → va_P G vwCl ws H1 → va_S A H0 H1 locs1 → W p l e R s m args below meth c H1 locs1 cells slots Q (F0 m (pc + 3) ls (.long r :: rest))) : W p l e R s m args below meth c H locs cells slots Q (F0 m pc ls st0) := by
  refine va_calll (A1 := fun q => H.size ≤ q) hr hS (fun q h1 h2 => absurd h1 (Nat.not_lt.mpr h2)) (fun q h => hA q (Nat.le_trans hS.1 h)) (fun r' u t H1 locs1 ht' hvm hw' hB hz hk hS' => ?_)
  exact kk r' H1 locs1 hw' (hP.kept (fun k q hq => hk q.1 ((hP k q hq).lt) (Nat.not_le.mpr (hP k q hq).lt))) hS'
theorem retRi {P : Int32 → Prop} {v : Int32} {ls : Array Slot} (hx : p.tables.exec = Jvm.exec) (hb : c.code = cc) (hr : meth.sig.returnType = some .int) (hlk : meth.locks = false) (hS : va_S (fun q => s.heap.size ≤ q) s.heap H locs) (hdg : decode cc pc = .ok (.ireturn, 1)) (e9 : P v) : W p l e R s m args below meth c H locs 0 0 (MQ below (QRi P s.heap.size) args s 0 0 (fun q => s.heap.size ≤ q)) (F0 m pc ls [.int v]) :=
  W.iret hx hb hr (fun t ht hW => ⟨⟨v, (), rfl, e9, trivial⟩, hS.F ht⟩) hS.2.2 hdg hlk
theorem retRz {P : Int32 → Prop} {v : Int32} {ls : Array Slot} (hx : p.tables.exec = Jvm.exec) (hb : c.code = cc) (hr : meth.sig.returnType = some .boolean) (hlk : meth.locks = false) (hS : va_S (fun q => s.heap.size ≤ q) s.heap H locs) (hdg : decode cc pc = .ok (.ireturn, 1)) (hn : narrow .boolean (.int v) = .int v) (e9 : P v) : W p l e R s m args below meth c H locs 0 0 (MQ below (QRi P s.heap.size) args s 0 0 (fun q => s.heap.size ≤ q)) (F0 m pc ls [.int v]) :=
  W.zret hx hb hr hn (fun t ht hW => ⟨⟨v, (), rfl, e9, trivial⟩, hS.F ht⟩) hS.2.2 hdg hlk
theorem retRl {P : Int64 → Prop} {v : Int64} {ls : Array Slot} (hx : p.tables.exec = Jvm.exec) (hb : c.code = cc) (hr : meth.sig.returnType = some .long) (hlk : meth.locks = false) (hS : va_S (fun q => s.heap.size ≤ q) s.heap H locs) (hdg : decode cc pc = .ok (.lreturn, 1)) (e9 : P v) : W p l e R s m args below meth c H locs 0 0 (MQ below (QRl P s.heap.size) args s 0 0 (fun q => s.heap.size ≤ q)) (F0 m pc ls [.long v]) :=
  W.lret hx hb hr (fun t ht hW => ⟨⟨v, (), rfl, e9, trivial⟩, hS.F ht⟩) hS.2.2 hdg hlk
end KSafe
/-! numbers: what an operation does to the integers behind the ints, where nothing wraps -/
theorem bmod_id {x : Int} (h : -2147483648 ≤ x ∧ x ≤ 2147483647) : Int.bmod x (2 ^ 32) = x := by
  apply Int.bmod_eq_of_le <;> omega
theorem addT {a b : Int32} {x y : Int} (ha : a.toInt = x) (hb : b.toInt = y) (h : -2147483648 ≤ x + y ∧ x + y ≤ 2147483647) : (a + b).toInt = x + y := by
  rw [Int32.toInt_add, ha, hb]
  exact bmod_id h
theorem subT {a b : Int32} {x y : Int} (ha : a.toInt = x) (hb : b.toInt = y) (h : -2147483648 ≤ x - y ∧ x - y ≤ 2147483647) : (a - b).toInt = x - y := by
  rw [Int32.toInt_sub, ha, hb]
  exact bmod_id h
theorem mulT {a b : Int32} {x y : Int} (ha : a.toInt = x) (hb : b.toInt = y) (h : -2147483648 ≤ x * y ∧ x * y ≤ 2147483647) : (a * b).toInt = x * y := by
  rw [Int32.toInt_mul, ha, hb]
  exact bmod_id h
theorem ltK {a b : Int32} {x y : Int} (ha : a.toInt = x) (hb : b.toInt = y) (h : a < b) : x < y := by rw [← ha, ← hb]; exact ltT h
theorem nltK {a b : Int32} {x y : Int} (ha : a.toInt = x) (hb : b.toInt = y) (h : ¬ a < b) : y ≤ x := by rw [← ha, ← hb]; exact nltT h
theorem leK {a b : Int32} {x y : Int} (ha : a.toInt = x) (hb : b.toInt = y) (h : a ≤ b) : x ≤ y := by rw [← ha, ← hb]; exact leT h
theorem nleK {a b : Int32} {x y : Int} (ha : a.toInt = x) (hb : b.toInt = y) (h : ¬ a ≤ b) : y < x := by rw [← ha, ← hb]; exact nleT h
theorem eqK {a b : Int32} {x y : Int} (ha : a.toInt = x) (hb : b.toInt = y) (h : a = b) : x = y := by rw [← ha, ← hb]; exact eqT h
theorem neK {a b : Int32} {x y : Int} (ha : a.toInt = x) (hb : b.toInt = y) (h : ¬ a = b) : ¬ x = y := by rw [← ha, ← hb]; exact neT h
theorem inK {i : Int32} {x : Int} {n : Nat} (hi : i.toInt = x) (h : 0 ≤ x ∧ x < n) (hn : n < 2147483648) : vp_in i n := by
  subst hi
  rcases pk_ix i (n := n) (by omega) with h1 | h1 | ⟨j, hj, rfl⟩
  · have z := ltT h1
    have k0 : (0 : Int32).toInt = 0 := (by decide)
    omega
  · have z := leT h1
    rw [nI_toInt (by omega)] at z
    omega
  · exact vp_in_nI hj (by omega)
theorem clK {i : Int32} {x : Int} (hi : i.toInt = x) (h : 0 ≤ x) : ((i.toNatClampNeg : Nat) : Int) = x := by
  subst hi
  rw [Int32.toNatClampNeg]
  omega
theorem n0K {a : Int32} {x : Int} (ha : a.toInt = x) (h : ¬ x = 0) : ¬ a = 0 := fun e => h (by rw [← ha, e]; rfl)
theorem narZ {v : Int32} (h : 0 ≤ v.toInt ∧ v.toInt ≤ 1) : narrow .boolean (.int v) = .int v := by
  rcases (show v.toInt = 0 ∨ v.toInt = 1 by omega) with h | h
  · obtain rfl : v = 0 := Int32.toInt_inj.mp (h.trans (by decide))
    rfl
  · obtain rfl : v = 1 := Int32.toInt_inj.mp (h.trans (by decide))
    rfl
theorem andT {x m : Int32} {M : Int} (k : Nat) (hm : m.toBitVec.toNat = 2 ^ k - 1) (hk : k ≤ 30) (hM : ((2 ^ k - 1 : Nat) : Int) = M) : 0 ≤ (x &&& m).toInt ∧ (x &&& m).toInt ≤ M := by
  have hp : 2 ^ k ≤ 2 ^ 30 := Nat.pow_le_pow_right (by decide) hk
  have h0 : 0 < 2 ^ k := Nat.pow_pos (by decide)
  have hl := Nat.mod_lt x.toBitVec.toNat h0
  rw [pk_and x k hm, nI_toInt (by omega), ← hM]
  omega
theorem divT {a b : Int32} {x y : Int} (ha : a.toInt = x) (hb : b.toInt = y) (h : 0 ≤ x) (hy : 0 < y) : (a / b).toInt = x / y := by
  have hlt : x ≤ 2147483647 := by rw [← ha]; have := Int32.toInt_lt a; omega
  have hq : x / y ≤ x := Int.ediv_le_self y h
  have hq0 : 0 ≤ x / y := Int.ediv_nonneg h (by omega)
  rw [Int32.toInt_div, ha, hb, Int.tdiv_eq_ediv_of_nonneg h]
  exact bmod_id (by omega)
theorem remT {a b : Int32} {x y : Int} (ha : a.toInt = x) (hb : b.toInt = y) (h : 0 ≤ x) (hy : 0 < y) : (a - a / b * b).toInt = x % y := by
  have hlt : x ≤ 2147483647 := by rw [← ha]; have := Int32.toInt_lt a; omega
  have hm : y * (x / y) + x % y = x := Int.mul_ediv_add_emod x y
  have hr := Int.emod_lt_of_pos x hy
  have hr0 := Int.emod_nonneg x (show y ≠ 0 by omega)
  have hc : x / y * y = x - x % y := by rw [Int.mul_comm]; omega
  have hn : 0 ≤ x / y * y := Int.mul_nonneg (Int.ediv_nonneg h (by omega)) (by omega)
  have e1 : (a / b * b).toInt = x / y * y := mulT (divT ha hb h hy) hb (by omega)
  have e2 := subT ha e1 (by omega)
  rw [e2]
  omega
theorem l2iT {a : Int64} (h : -2147483648 ≤ a.toInt ∧ a.toInt ≤ 2147483647) : a.toInt32.toInt = a.toInt := by
  rw [Int64.toInt_toInt32]
  exact bmod_id h
theorem n0L {a : Int64} {x : Int} (ha : a.toInt = x) (h : ¬ x = 0) : ¬ a = 0 := fun e => h (by rw [← ha, e]; rfl)
theorem c0T : (0 : Int32).toInt = 0 := by decide
theorem cmpLT {a b : Int64} {x y : Int} {v : Int32} (ha : a.toInt = x) (hb : b.toInt = y) (e : v = lg_cmp a b) (h : v.toInt < 0) : x < y := by
  rw [← ha, ← hb]
  exact Int64.lt_iff_toInt_lt.mp ((lg_cmp_lt a b).mp (Int32.lt_iff_toInt_lt.mpr (by rw [← e, c0T]; exact h)))
theorem cmpLTn {a b : Int64} {x y : Int} {v : Int32} (ha : a.toInt = x) (hb : b.toInt = y) (e : v = lg_cmp a b) (h : 0 ≤ v.toInt) : y ≤ x := by
  rw [← ha, ← hb]
  exact Int64.le_iff_toInt_le.mp ((lg_cmp_ge a b).mp (Int32.le_iff_toInt_le.mpr (by rw [← e, c0T]; exact h)))
theorem cmpGT {a b : Int64} {x y : Int} {v : Int32} (ha : a.toInt = x) (hb : b.toInt = y) (e : v = lg_cmp a b) (h : 0 < v.toInt) : y < x := by
  rw [← ha, ← hb]
  exact Int64.lt_iff_toInt_lt.mp ((lg_cmp_gt a b).mp (Int32.lt_iff_toInt_lt.mpr (by rw [← e, c0T]; exact h)))
theorem cmpGTn {a b : Int64} {x y : Int} {v : Int32} (ha : a.toInt = x) (hb : b.toInt = y) (e : v = lg_cmp a b) (h : v.toInt ≤ 0) : x ≤ y := by
  rw [← ha, ← hb]
  exact Int64.le_iff_toInt_le.mp ((lg_cmp_le a b).mp (Int32.le_iff_toInt_le.mpr (by rw [← e, c0T]; exact h)))
theorem cmpEQ {a b : Int64} {x y : Int} {v : Int32} (ha : a.toInt = x) (hb : b.toInt = y) (e : v = lg_cmp a b) (h : v.toInt = 0) : x = y := by
  rw [← ha, ← hb]
  exact congrArg Int64.toInt ((lg_cmp_eq a b).mp (Int32.toInt_inj.mp (by rw [← e, c0T]; exact h)))
theorem cmpEQn {a b : Int64} {x y : Int} {v : Int32} (ha : a.toInt = x) (hb : b.toInt = y) (e : v = lg_cmp a b) (h : ¬ v.toInt = 0) : ¬ x = y := fun q => by
  rw [← ha, ← hb] at q
  exact h (by rw [e, (lg_cmp_eq a b).mpr (Int64.toInt_inj.mp q), c0T])
