/-- answers an int of a kind, changes nothing -/
def QRi (P : Int32 → Prop) (sz : Nat) : Array Value → State → Outcome → State → Prop := va_Qi (fun (x : Int32) (_ : Unit) => P x) (fun _ _ => True) (fun q => sz ≤ q)
def QRl (P : Int64 → Prop) (sz : Nat) : Array Value → State → Outcome → State → Prop := va_Ql (fun (x : Int64) (_ : Unit) => P x) (fun _ _ => True) (fun q => sz ≤ q)
def SafeR (l : Launch) (y : MethodName) (b : ByteArray) (n : Nat) (ret : Option FieldType) (fr : Nat) (G : va_G) (tys : List (ClassId × FieldType)) (av : List Value) (wd : va_W) (P : Int32 → Prop) : Prop := ∀ sz : Nat, Met l y (wk y b n ret) (rmk fr 0 0) (PreP G tys av wd sz) (QRi P sz) 0 0 (fun q => sz ≤ q)
def SafeL (l : Launch) (y : MethodName) (b : ByteArray) (n : Nat) (ret : Option FieldType) (fr : Nat) (G : va_G) (tys : List (ClassId × FieldType)) (av : List Value) (wd : va_W) (P : Int64 → Prop) : Prop := ∀ sz : Nat, Met l y (wk y b n ret) (rmk fr 0 0) (PreP G tys av wd sz) (QRl P sz) 0 0 (fun q => sz ≤ q)
section KSafe
variable {p : Program} {l : Launch} {e : Env} {R : Room} {s : State} {m : MethodId} {args : Array Value} {below : List Frame} {meth : Method} {c : Code} {H : Heap} {locs : List Loc} {cells slots : Nat} {Q : State → Prop}
variable {cc : ByteArray} {pc : Nat} {ls : Array Slot} {rest st0 : List Value} {G : va_G} {A : Nat → Prop} {ws : va_W} {H0 : Heap}
theorem behR {P : Int32 → Prop} {a : Array Value} (hr : va_Run p l e R s m args below meth c H locs cells slots 0 0 (F0 m pc ls st0) rest (QRi P H.size a) (fun q => H.size ≤ q)) (hP : va_P G vwCl ws H) (hS : va_S A H0 H locs) (hA : ∀ q : Nat, H0.size ≤ q → A q)
    (kk : ∀ (r : Int32) (H1 : Heap) (locs1 : List Loc), P r → va_P G vwCl ws H1 → va_S A H0 H1 locs1 → W p l e R s m args below meth c H1 locs1 cells slots Q (F0 m (pc + 3) ls (.int r :: rest))) : W p l e R s m args below meth c H locs cells slots Q (F0 m pc ls st0) := by
  refine va_calli (A1 := fun q => H.size ≤ q) hr hS (fun q h1 h2 => absurd h1 (Nat.not_lt.mpr h2)) (fun q h => hA q (Nat.le_trans hS.1 h)) (fun r' u t H1 locs1 ht' hvm hw' hB hz hk hS' => ?_)
  exact kk r' H1 locs1 hw' (hP.kept (fun k q hq => hk q.1 ((hP k q hq).lt) (Nat.not_le.mpr (hP k q hq).lt))) hS'
theorem behRL {P : Int64 → Prop} {a : Array Value} (hr : va_Run p l e R s m args below meth c H locs cells slots 0 0 (F0 m pc ls st0) rest (QRl P H.size a) (fun q => H.size ≤ q)) (hP : va_P G vwCl ws H) (hS : va_S A H0 H locs) (hA : ∀ q : Nat, H0.size ≤ q → A q)
    (kk : ∀ (r : Int64) (H1 : Heap) (locs1 : List Loc), P r → va_P G vwCl ws H1 → va_S A H0 H1 locs1 → W p l e R s m args below meth c H1 locs1 cells slots Q (F0 m (pc + 3) ls (.long r :: rest))) : W p l e R s m args below meth c H locs cells slots Q (F0 m pc ls st0) := by
  refine va_calll (A1 := fun q => H.size ≤ q) hr hS (fun q h1 h2 => absurd h1 (Nat.not_lt.mpr h2)) (fun q h => hA q (Nat.le_trans hS.1 h)) (fun r' u t H1 locs1 ht' hvm hw' hB hz hk hS' => ?_)
  exact kk r' H1 locs1 hw' (hP.kept (fun k q hq => hk q.1 ((hP k q hq).lt) (Nat.not_le.mpr (hP k q hq).lt))) hS'
theorem retRi {P : Int32 → Prop} {v : Int32} {ls : Array Slot} (hx : p.tables.exec = Jvm.exec) (hb : c.code = cc) (hr : meth.sig.returnType = some .int) (hlk : meth.locks = false) (hS : va_S (fun q => s.heap.size ≤ q) s.heap H locs) (hdg : decode cc pc = .ok (.ireturn, 1)) (e9 : P v) : W p l e R s m args below meth c H locs 0 0 (MQ below (QRi P s.heap.size) args s 0 0 (fun q => s.heap.size ≤ q)) (F0 m pc ls [.int v]) :=
  W.iret hx hb hr (fun t ht hW => ⟨⟨v, (), rfl, e9, trivial⟩, hS.F ht⟩) hS.2.2 hdg hlk
theorem retRz {P : Int32 → Prop} {v : Int32} {ls : Array Slot} (hx : p.tables.exec = Jvm.exec) (hb : c.code = cc) (hr : meth.sig.returnType = some .boolean) (hlk : meth.locks = false) (hS : va_S (fun q => s.heap.size ≤ q) s.heap H locs) (hdg : decode cc pc = .ok (.ireturn, 1)) (hn : narrow .boolean (.int v) = .int v) (e9 : P v) : W p l e R s m args below meth c H locs 0 0 (MQ below (QRi P s.heap.size) args s 0 0 (fun q => s.heap.size ≤ q)) (F0 m pc ls [.int v]) :=
  W.zret hx hb hr hn (fun t ht hW => ⟨⟨v, (), rfl, e9, trivial⟩, hS.F ht⟩) hS.2.2 hdg hlk
theorem retRl {P : Int64 → Prop} {v : Int64} {ls : Array Slot} (hx : p.tables.exec = Jvm.exec) (hb : c.code = cc) (hr : meth.sig.returnType = some .long) (hlk : meth.locks = false) (hS : va_S (fun q => s.heap.size ≤ q) s.heap H locs) (hdg : decode cc pc = .ok (.lreturn, 1)) (e9 : P v) : W p l e R s m args below meth c H locs 0 0 (MQ below (QRl P s.heap.size) args s 0 0 (fun q => s.heap.size ≤ q)) (F0 m pc ls [.long v]) :=
  W.lret hx hb hr (fun t ht hW => ⟨⟨v, (), rfl, e9, trivial⟩, hS.F ht⟩) hS.2.2 hdg hlk
end KSafe
theorem i32b (v : Int32) : -2147483648 ≤ v.toInt ∧ v.toInt ≤ 2147483647 := by
  have h1 := Int32.le_toInt v
  have h2 := Int32.toInt_lt v
  omega
/-! numbers: what an operation does to the integers behind the ints, where nothing wraps -/
theorem bmod_id {x : Int} (h : -2147483648 ≤ x ∧ x ≤ 2147483647) : Int.bmod x (2 ^ 32) = x := by
  apply Int.bmod_eq_of_le <;> omega
theorem addT {a b : Int32} {x y : Int} (ha : a.toInt = x) (hb : b.toInt = y) (h : -2147483648 ≤ x + y ∧ x + y ≤ 2147483647) : (a + b).toInt = x + y := by
  rw [Int32.toInt_add, ha, hb]
  exact bmod_id h
theorem subT {a b : Int32} {x y : Int} (ha : a.toInt = x) (hb : b.toInt = y) (h : -2147483648 ≤ x - y ∧ x - y ≤ 2147483647) : (a - b).toInt = x - y := by
  rw [Int32.toInt_sub, ha, hb]
  exact bmod_id h
theorem mulT {a b : Int32} {x y : Int} (ha : a.toInt = x) (hb : b.toInt = y) (h : -2147483648 ≤ x * y ∧ x * y ≤ 2147483647) : (a * b).toInt = x * y := by
  rw [Int32.toInt_mul, ha, hb]
  exact bmod_id h
theorem ltK {a b : Int32} {x y : Int} (ha : a.toInt = x) (hb : b.toInt = y) (h : a < b) : x < y := by rw [← ha, ← hb]; exact ltT h
theorem nltK {a b : Int32} {x y : Int} (ha : a.toInt = x) (hb : b.toInt = y) (h : ¬ a < b) : y ≤ x := by rw [← ha, ← hb]; exact nltT h
theorem leK {a b : Int32} {x y : Int} (ha : a.toInt = x) (hb : b.toInt = y) (h : a ≤ b) : x ≤ y := by rw [← ha, ← hb]; exact leT h
theorem nleK {a b : Int32} {x y : Int} (ha : a.toInt = x) (hb : b.toInt = y) (h : ¬ a ≤ b) : y < x := by rw [← ha, ← hb]; exact nleT h
theorem eqK {a b : Int32} {x y : Int} (ha : a.toInt = x) (hb : b.toInt = y) (h : a = b) : x = y := by rw [← ha, ← hb]; exact eqT h
theorem neK {a b : Int32} {x y : Int} (ha : a.toInt = x) (hb : b.toInt = y) (h : ¬ a = b) : ¬ x = y := by rw [← ha, ← hb]; exact neT h
theorem inK {i : Int32} {x : Int} {n : Nat} (hi : i.toInt = x) (h : 0 ≤ x ∧ x < n) (hn : n < 2147483648) : vp_in i n := by
  subst hi
  rcases pk_ix i (n := n) (by omega) with h1 | h1 | ⟨j, hj, rfl⟩
  · have z := ltT h1
    have k0 : (0 : Int32).toInt = 0 := (by decide)
    omega
  · have z := leT h1
    rw [nI_toInt (by omega)] at z
    omega
  · exact vp_in_nI hj (by omega)
theorem clK {i : Int32} {x : Int} (hi : i.toInt = x) (h : 0 ≤ x) : ((i.toNatClampNeg : Nat) : Int) = x := by
  subst hi
  rw [Int32.toNatClampNeg]
  omega
theorem n0K {a : Int32} {x : Int} (ha : a.toInt = x) (h : ¬ x = 0) : ¬ a = 0 := fun e => h (by rw [← ha, e]; rfl)
theorem narZ {v : Int32} (h : 0 ≤ v.toInt ∧ v.toInt ≤ 1) : narrow .boolean (.int v) = .int v := by
  rcases (show v.toInt = 0 ∨ v.toInt = 1 by omega) with h | h
  · obtain rfl : v = 0 := Int32.toInt_inj.mp (h.trans (by decide))
    rfl
  · obtain rfl : v = 1 := Int32.toInt_inj.mp (h.trans (by decide))
    rfl
theorem andT {x m : Int32} {M : Int} (k : Nat) (hm : m.toBitVec.toNat = 2 ^ k - 1) (hk : k ≤ 30) (hM : ((2 ^ k - 1 : Nat) : Int) = M) : 0 ≤ (x &&& m).toInt ∧ (x &&& m).toInt ≤ M := by
  have hp : 2 ^ k ≤ 2 ^ 30 := Nat.pow_le_pow_right (by decide) hk
  have h0 : 0 < 2 ^ k := Nat.pow_pos (by decide)
  have hl := Nat.mod_lt x.toBitVec.toNat h0
  rw [pk_and x k hm, nI_toInt (by omega), ← hM]
  omega
theorem divT {a b : Int32} {x y : Int} (ha : a.toInt = x) (hb : b.toInt = y) (h : 0 ≤ x) (hy : 0 < y) : (a / b).toInt = x / y := by
  have hlt : x ≤ 2147483647 := by rw [← ha]; have := Int32.toInt_lt a; omega
  have hq : x / y ≤ x := Int.ediv_le_self y h
  have hq0 : 0 ≤ x / y := Int.ediv_nonneg h (by omega)
  rw [Int32.toInt_div, ha, hb, Int.tdiv_eq_ediv_of_nonneg h]
  exact bmod_id (by omega)
theorem remT {a b : Int32} {x y : Int} (ha : a.toInt = x) (hb : b.toInt = y) (h : 0 ≤ x) (hy : 0 < y) : (a - a / b * b).toInt = x % y := by
  have hlt : x ≤ 2147483647 := by rw [← ha]; have := Int32.toInt_lt a; omega
  have hm : y * (x / y) + x % y = x := Int.mul_ediv_add_emod x y
  have hr := Int.emod_lt_of_pos x hy
  have hr0 := Int.emod_nonneg x (show y ≠ 0 by omega)
  have hc : x / y * y = x - x % y := by rw [Int.mul_comm]; omega
  have hn : 0 ≤ x / y * y := Int.mul_nonneg (Int.ediv_nonneg h (by omega)) (by omega)
  have e1 : (a / b * b).toInt = x / y * y := mulT (divT ha hb h hy) hb (by omega)
  have e2 := subT ha e1 (by omega)
  rw [e2]
  omega
theorem l2iT {a : Int64} (h : -2147483648 ≤ a.toInt ∧ a.toInt ≤ 2147483647) : a.toInt32.toInt = a.toInt := by
  rw [Int64.toInt_toInt32]
  exact bmod_id h
theorem n0L {a : Int64} {x : Int} (ha : a.toInt = x) (h : ¬ x = 0) : ¬ a = 0 := fun e => h (by rw [← ha, e]; rfl)
theorem c0T : (0 : Int32).toInt = 0 := by decide
theorem cmpLT {a b : Int64} {x y : Int} {v : Int32} (ha : a.toInt = x) (hb : b.toInt = y) (e : v = lg_cmp a b) (h : v.toInt < 0) : x < y := by
  rw [← ha, ← hb]
  exact Int64.lt_iff_toInt_lt.mp ((lg_cmp_lt a b).mp (Int32.lt_iff_toInt_lt.mpr (by rw [← e, c0T]; exact h)))
theorem cmpLTn {a b : Int64} {x y : Int} {v : Int32} (ha : a.toInt = x) (hb : b.toInt = y) (e : v = lg_cmp a b) (h : 0 ≤ v.toInt) : y ≤ x := by
  rw [← ha, ← hb]
  exact Int64.le_iff_toInt_le.mp ((lg_cmp_ge a b).mp (Int32.le_iff_toInt_le.mpr (by rw [← e, c0T]; exact h)))
theorem cmpGT {a b : Int64} {x y : Int} {v : Int32} (ha : a.toInt = x) (hb : b.toInt = y) (e : v = lg_cmp a b) (h : 0 < v.toInt) : y < x := by
  rw [← ha, ← hb]
  exact Int64.lt_iff_toInt_lt.mp ((lg_cmp_gt a b).mp (Int32.lt_iff_toInt_lt.mpr (by rw [← e, c0T]; exact h)))
theorem cmpGTn {a b : Int64} {x y : Int} {v : Int32} (ha : a.toInt = x) (hb : b.toInt = y) (e : v = lg_cmp a b) (h : v.toInt ≤ 0) : x ≤ y := by
  rw [← ha, ← hb]
  exact Int64.le_iff_toInt_le.mp ((lg_cmp_le a b).mp (Int32.le_iff_toInt_le.mpr (by rw [← e, c0T]; exact h)))
theorem cmpEQ {a b : Int64} {x y : Int} {v : Int32} (ha : a.toInt = x) (hb : b.toInt = y) (e : v = lg_cmp a b) (h : v.toInt = 0) : x = y := by
  rw [← ha, ← hb]
  exact congrArg Int64.toInt ((lg_cmp_eq a b).mp (Int32.toInt_inj.mp (by rw [← e, c0T]; exact h)))
theorem cmpEQn {a b : Int64} {x y : Int} {v : Int32} (ha : a.toInt = x) (hb : b.toInt = y) (e : v = lg_cmp a b) (h : ¬ v.toInt = 0) : ¬ x = y := fun q => by
  rw [← ha, ← hb] at q
  exact h (by rw [e, (lg_cmp_eq a b).mpr (Int64.toInt_inj.mp q), c0T])
theorem nK {a b : Int32} {y : Int} (h : ¬ a.toInt = y) (hb : b.toInt = y := by decide) : ¬ a = b := fun e => h (by rw [e, hb])
theorem csN2 (x : Int32) : x.toInt < 0 ∨ 2 ≤ x.toInt ∨ x = 0 ∨ x = 1 := by
  rcases pk_ix x (n := 2) (by decide) with h | h | ⟨j, hj, rfl⟩
  · exact Or.inl (by have z := ltT h; rw [c0T] at z; exact z)
  · exact Or.inr (Or.inl (by have z := leT h; rw [nI_toInt (by decide)] at z; exact z))
  · rcases (show j = 0 ∨ j = 1 by omega) with rfl | rfl <;> simp [nI]
theorem csN3 (x : Int32) : x.toInt < 0 ∨ 3 ≤ x.toInt ∨ x = 0 ∨ x = 1 ∨ x = 2 := by
  rcases pk_ix x (n := 3) (by decide) with h | h | ⟨j, hj, rfl⟩
  · exact Or.inl (by have z := ltT h; rw [c0T] at z; exact z)
  · exact Or.inr (Or.inl (by have z := leT h; rw [nI_toInt (by decide)] at z; exact z))
  · rcases (show j = 0 ∨ j = 1 ∨ j = 2 by omega) with rfl | rfl | rfl <;> simp [nI]
theorem csN8 (x : Int32) : x.toInt < 0 ∨ 8 ≤ x.toInt ∨ x = 0 ∨ x = 1 ∨ x = 2 ∨ x = 3 ∨ x = 4 ∨ x = 5 ∨ x = 6 ∨ x = 7 := by
  rcases pk_ix x (n := 8) (by decide) with h | h | ⟨j, hj, rfl⟩
  · exact Or.inl (by have z := ltT h; rw [c0T] at z; exact z)
  · exact Or.inr (Or.inl (by have z := leT h; rw [nI_toInt (by decide)] at z; exact z))
  · rcases (show j = 0 ∨ j = 1 ∨ j = 2 ∨ j = 3 ∨ j = 4 ∨ j = 5 ∨ j = 6 ∨ j = 7 by omega) with rfl | rfl | rfl | rfl | rfl | rfl | rfl | rfl <;> simp [nI]
/-- a void method that writes, with a word on what it leaves -/
def QDw {S : Type} (G : va_G) (post : S → Prop) (wd' : S → va_W) (A : Nat → Prop) : Array Value → State → Outcome → State → Prop := va_Qv post (fun u t => va_P G vwCl (wd' u) t.heap ∧ va_D A (wd' u)) A
def ImpW {S : Type} (l : Launch) (y : MethodName) (b : ByteArray) (n : Nat) (fr mc ms : Nat) (G : va_G) (tys : List (ClassId × FieldType)) (av : List Value) (wd : va_W) (post : S → Prop) (wd' : S → va_W) : Prop := ∀ sz : Nat, Met l y (wk y b n none) (rmk fr mc ms) (PreD G tys av wd sz) (QDw G post wd' (va_A wd sz)) mc ms (va_A wd sz)
section KW2
variable {p : Program} {l : Launch} {e : Env} {R : Room} {s : State} {m : MethodId} {args : Array Value} {below : List Frame} {meth : Method} {c : Code} {H : Heap} {locs : List Loc} {cells slots mc ms : Nat} {Q : State → Prop}
variable {cc : ByteArray} {pc : Nat} {ls : Array Slot} {rest st0 : List Value} {G : va_G} {A : Nat → Prop} {ws wr wd : va_W} {H0 : Heap}
theorem behDw {S : Type} {post : S → Prop} {wd' : S → va_W} {a : Array Value} (hr : va_Run p l e R s m args below meth c H locs cells slots mc ms (F0 m pc ls st0) rest (QDw G post wd' (va_A wd H.size) a) (va_A wd H.size)) (hP : va_P G vwCl ws H) (hD : va_D A ws) (hS : va_S A H0 H locs) (hA : ∀ q : Nat, H0.size ≤ q → A q) (isC isR : List Nat) (hC : isC.map (fun i => ws[i]?) = wd.map some) (hR : isR.map (fun i => ws[i]?) = wr.map some) (hn : va_nd isR = true) (hdis : ∀ i ∈ isR, i ∉ isC)
    (kk : ∀ (u : S) (H1 : Heap) (locs1 : List Loc), post u → va_P G vwCl (wr ++ wd' u) H1 → va_D A (wr ++ wd' u) → va_S A H0 H1 locs1 → W p l e R s m args below meth c H1 locs1 (cells + mc) (slots + ms) Q (F0 m (pc + 3) ls rest)) : W p l e R s m args below meth c H locs cells slots Q (F0 m pc ls st0) := by
  have hFc := va_free (wc := wd) hD hS hA isC hC
  refine va_callv hr hS (fun q _ h => hFc q h) hFc (fun u t H1 locs1 ht hvm hw hB hz hk hS' => ?_)
  obtain ⟨hP1, hD1⟩ := hB
  rw [ht] at hP1
  obtain ⟨hP', hD'⟩ := va_join (wr := wr) (w1 := wd' u) hP hD isC isR hC hR hn hdis hk hFc hP1 hD1
  exact kk u H1 locs1 hw hP' hD' hS'
theorem retDw {S : Type} {post : S → Prop} {wd' : S → va_W} {ls : Array Slot} (u : S) (hx : p.tables.exec = Jvm.exec) (hb : c.code = cc) (hr : meth.sig.returnType = none) (hlk : meth.locks = false) (hP : va_P G vwCl (wd' u) H) (hD : va_D A (wd' u)) (hS : va_S A s.heap H locs) (hdg : decode cc pc = .ok (.return_, 1)) (hp : post u) (h1 : cells ≤ mc) (h2 : slots ≤ ms) : W p l e R s m args below meth c H locs cells slots (MQ below (QDw G post wd' A) args s mc ms A) (F0 m pc ls []) :=
  W.widen h1 h2 (W.vret hx hb hr (fun t ht hW => ⟨⟨u, rfl, hp, by rw [ht]; exact hP, hD⟩, hS.F ht⟩) hS.2.2 hdg hlk)
end KW2
theorem bmodL {x : Int} (h : -9223372036854775808 ≤ x ∧ x ≤ 9223372036854775807) : Int.bmod x (2 ^ 64) = x := by
  apply Int.bmod_eq_of_le <;> omega
theorem addL {a b : Int64} {x y : Int} (ha : a.toInt = x) (hb : b.toInt = y) (h : -9223372036854775808 ≤ x + y ∧ x + y ≤ 9223372036854775807) : (a + b).toInt = x + y := by
  rw [Int64.toInt_add, ha, hb]
  exact bmodL h
theorem subL {a b : Int64} {x y : Int} (ha : a.toInt = x) (hb : b.toInt = y) (h : -9223372036854775808 ≤ x - y ∧ x - y ≤ 9223372036854775807) : (a - b).toInt = x - y := by
  rw [Int64.toInt_sub, ha, hb]
  exact bmodL h
theorem mulL {a b : Int64} {x y : Int} (ha : a.toInt = x) (hb : b.toInt = y) (h : -9223372036854775808 ≤ x * y ∧ x * y ≤ 9223372036854775807) : (a * b).toInt = x * y := by
  rw [Int64.toInt_mul, ha, hb]
  exact bmodL h
theorem divL {a b : Int64} {x y : Int} (ha : a.toInt = x) (hb : b.toInt = y) (h : 0 ≤ x) (hy : 0 < y) : (a / b).toInt = x / y := by
  have hlt : x ≤ 9223372036854775807 := by rw [← ha]; have := Int64.toInt_lt a; omega
  have hq : x / y ≤ x := Int.ediv_le_self y h
  have hq0 : 0 ≤ x / y := Int.ediv_nonneg h (by omega)
  rw [Int64.toInt_div, ha, hb, Int.tdiv_eq_ediv_of_nonneg h]
  exact bmodL (by omega)
theorem remL {a b : Int64} {x y : Int} (ha : a.toInt = x) (hb : b.toInt = y) (h : 0 ≤ x) (hy : 0 < y) : (a - a / b * b).toInt = x % y := by
  have hlt : x ≤ 9223372036854775807 := by rw [← ha]; have := Int64.toInt_lt a; omega
  have hm : y * (x / y) + x % y = x := Int.mul_ediv_add_emod x y
  have hr := Int.emod_lt_of_pos x hy
  have hr0 := Int.emod_nonneg x (show y ≠ 0 by omega)
  have hc : x / y * y = x - x % y := by rw [Int.mul_comm]; omega
  have hn : 0 ≤ x / y * y := Int.mul_nonneg (Int.ediv_nonneg h (by omega)) (by omega)
  have e1 : (a / b * b).toInt = x / y * y := mulL (divL ha hb h hy) hb (by omega)
  have e2 := subL ha e1 (by omega)
  rw [e2]
  omega
theorem remB {x y : Int} (h : 0 ≤ x) (hy : 0 < y) : 0 ≤ x % y ∧ x % y < y ∧ x % y ≤ x := by
  have hr := Int.emod_lt_of_pos x hy
  have hr0 := Int.emod_nonneg x (show y ≠ 0 by omega)
  have hm : y * (x / y) + x % y = x := Int.mul_ediv_add_emod x y
  have hn : 0 ≤ y * (x / y) := Int.mul_nonneg (by omega) (Int.ediv_nonneg h (by omega))
  omega
theorem divB {x y : Int} (h : 0 ≤ x) (hy : 0 < y) : 0 ≤ x / y ∧ x / y ≤ x := ⟨Int.ediv_nonneg h (by omega), Int.ediv_le_self y h⟩
/-! bits of numbers that are not below 0 -/
theorem tnT {a : Int32} {x : Int} (ha : a.toInt = x) (h : 0 ≤ x) : ((a.toBitVec.toNat : Nat) : Int) = x := by
  rcases nI_of (x := a) (fun q => by have z := ltT q; rw [c0T, ha] at z; omega) with ⟨j, hj, rfl⟩
  rw [pk_tn (by omega)]
  rw [nI_toInt hj] at ha
  exact ha
theorem ofTn {a : Int32} {n k : Nat} {M : Int} (h : a.toBitVec.toNat = n) (hn : n < 2 ^ k) (hk : k ≤ 31) (hM : ((2 ^ k - 1 : Nat) : Int) = M) : 0 ≤ a.toInt ∧ a.toInt ≤ M := by
  have hp : 2 ^ k ≤ 2 ^ 31 := Nat.pow_le_pow_right (by decide) hk
  have e : a = nI n := by
    apply Int32.toBitVec_inj.mp
    apply BitVec.eq_of_toNat_eq
    rw [h]
    show n = (BitVec.ofNat 32 n).toNat
    rw [BitVec.toNat_ofNat, Nat.mod_eq_of_lt (by omega)]
  rw [e, nI_toInt (by omega), ← hM]
  omega
theorem andA {a b : Int32} {x M : Int} (k : Nat) (ha : a.toInt = x) (h : 0 ≤ x ∧ x ≤ ((2 ^ k - 1 : Nat) : Int)) (hM : k ≤ 31 ∧ ((2 ^ k - 1 : Nat) : Int) = M) : 0 ≤ (a &&& b).toInt ∧ (a &&& b).toInt ≤ M := by
  have t := tnT ha h.1
  have h0 : 0 < 2 ^ k := Nat.pow_pos (by decide)
  refine ofTn (k := k) rfl ?_ hM.1 hM.2
  have e : (a &&& b).toBitVec.toNat = a.toBitVec.toNat &&& b.toBitVec.toNat := by rw [Int32.toBitVec_and, BitVec.toNat_and]
  rw [e]
  have := Nat.and_le_left (n := a.toBitVec.toNat) (m := b.toBitVec.toNat)
  omega
theorem andB {a b : Int32} {x M : Int} (k : Nat) (ha : b.toInt = x) (h : 0 ≤ x ∧ x ≤ ((2 ^ k - 1 : Nat) : Int)) (hM : k ≤ 31 ∧ ((2 ^ k - 1 : Nat) : Int) = M) : 0 ≤ (a &&& b).toInt ∧ (a &&& b).toInt ≤ M := by
  have t := tnT ha h.1
  have h0 : 0 < 2 ^ k := Nat.pow_pos (by decide)
  refine ofTn (k := k) rfl ?_ hM.1 hM.2
  have e : (a &&& b).toBitVec.toNat = a.toBitVec.toNat &&& b.toBitVec.toNat := by rw [Int32.toBitVec_and, BitVec.toNat_and]
  rw [e]
  have := Nat.and_le_right (n := a.toBitVec.toNat) (m := b.toBitVec.toNat)
  omega
theorem orA {a b : Int32} {x y M : Int} (k : Nat) (ha : a.toInt = x) (hb : b.toInt = y) (h : 0 ≤ x ∧ x ≤ ((2 ^ k - 1 : Nat) : Int)) (g : 0 ≤ y ∧ y ≤ ((2 ^ k - 1 : Nat) : Int)) (hM : k ≤ 31 ∧ ((2 ^ k - 1 : Nat) : Int) = M) : 0 ≤ (a ||| b).toInt ∧ (a ||| b).toInt ≤ M := by
  have t := tnT ha h.1
  have u := tnT hb g.1
  have h0 : 0 < 2 ^ k := Nat.pow_pos (by decide)
  refine ofTn (k := k) rfl ?_ hM.1 hM.2
  rw [Int32.toBitVec_or, BitVec.toNat_or]
  exact Nat.or_lt_two_pow (by omega) (by omega)
theorem xorA {a b : Int32} {x y M : Int} (k : Nat) (ha : a.toInt = x) (hb : b.toInt = y) (h : 0 ≤ x ∧ x ≤ ((2 ^ k - 1 : Nat) : Int)) (g : 0 ≤ y ∧ y ≤ ((2 ^ k - 1 : Nat) : Int)) (hM : k ≤ 31 ∧ ((2 ^ k - 1 : Nat) : Int) = M) : 0 ≤ (a ^^^ b).toInt ∧ (a ^^^ b).toInt ≤ M := by
  have t := tnT ha h.1
  have u := tnT hb g.1
  have h0 : 0 < 2 ^ k := Nat.pow_pos (by decide)
  refine ofTn (k := k) rfl ?_ hM.1 hM.2
  rw [Int32.toBitVec_xor, BitVec.toNat_xor]
  exact Nat.xor_lt_two_pow (by omega) (by omega)
theorem shlT {a : Int32} {x M : Int} (k : Nat) (hk : k ≤ 7) (ha : a.toInt = x) (h : 0 ≤ x ∧ x ≤ (k : Int)) (hM : ((2 ^ k : Nat) : Int) = M) : 1 ≤ ((1 : Int32) <<< (a &&& 31)).toInt ∧ ((1 : Int32) <<< (a &&& 31)).toInt ≤ M := by
  rcases nI_of (x := a) (fun q => by have z := ltT q; rw [c0T, ha] at z; omega) with ⟨j, hj, rfl⟩
  rw [nI_toInt hj] at ha
  have hjk : j ≤ k := by omega
  have hp := Nat.pow_le_pow_right (show 0 < 2 by decide) hjk
  have e : ((1 : Int32) <<< (nI j &&& 31)).toInt = ((2 ^ j : Nat) : Int) := by
    rcases (show j = 0 ∨ j = 1 ∨ j = 2 ∨ j = 3 ∨ j = 4 ∨ j = 5 ∨ j = 6 ∨ j = 7 by omega) with rfl | rfl | rfl | rfl | rfl | rfl | rfl | rfl <;> decide
  have h1 : 0 < 2 ^ j := Nat.pow_pos (by decide)
  rw [e, ← hM]
  omega
theorem maxK {a b : Int32} : ((if a < b then b else a).toInt = a.toInt ∨ (if a < b then b else a).toInt = b.toInt) ∧ a.toInt ≤ (if a < b then b else a).toInt ∧ b.toInt ≤ (if a < b then b else a).toInt := by
  split
  · have := ltT (by assumption : a < b)
    omega
  · have := nltT (by assumption : ¬ a < b)
    omega
theorem minK {a b : Int32} : ((if b < a then b else a).toInt = a.toInt ∨ (if b < a then b else a).toInt = b.toInt) ∧ (if b < a then b else a).toInt ≤ a.toInt ∧ (if b < a then b else a).toInt ≤ b.toInt := by
  split
  · have := ltT (by assumption : b < a)
    omega
  · have := nltT (by assumption : ¬ b < a)
    omega
theorem shl01T {b a : Int32} {x y M : Int} (k : Nat) (hk : k ≤ 7) (hb : b.toInt = y) (ha : a.toInt = x) (hy : 0 ≤ y ∧ y ≤ 1) (h : 0 ≤ x ∧ x ≤ (k : Int)) (hM : ((2 ^ k : Nat) : Int) = M) : 0 ≤ (b <<< (a &&& 31)).toInt ∧ (b <<< (a &&& 31)).toInt ≤ M := by
  rcases (show y = 0 ∨ y = 1 by omega) with h0 | h0
  · obtain rfl : b = 0 := Int32.toInt_inj.mp (by rw [hb, h0]; decide)
    have e : ((0 : Int32) <<< (a &&& 31)) = 0 := by
      apply Int32.toBitVec_inj.mp
      simp [Int32.toBitVec_shiftLeft]
    have h1 : 0 < 2 ^ k := Nat.pow_pos (by decide)
    rw [e, c0T, ← hM]
    omega
  · obtain rfl : b = 1 := Int32.toInt_inj.mp (by rw [hb, h0]; decide)
    have z := shlT k hk ha h hM
    omega
def P2 (k : Int) : Int := ((2 ^ k.toNat : Nat) : Int)
theorem shlP {a : Int32} {x : Int} (ha : a.toInt = x) (h : 0 ≤ x ∧ x ≤ 7) : ((1 : Int32) <<< (a &&& 31)).toInt = P2 x := by
  rcases (show x = 0 ∨ x = 1 ∨ x = 2 ∨ x = 3 ∨ x = 4 ∨ x = 5 ∨ x = 6 ∨ x = 7 by omega) with rfl | rfl | rfl | rfl | rfl | rfl | rfl | rfl
  · obtain rfl : a = 0 := Int32.toInt_inj.mp (ha.trans (by decide)); decide
  · obtain rfl : a = 1 := Int32.toInt_inj.mp (ha.trans (by decide)); decide
  · obtain rfl : a = 2 := Int32.toInt_inj.mp (ha.trans (by decide)); decide
  · obtain rfl : a = 3 := Int32.toInt_inj.mp (ha.trans (by decide)); decide
  · obtain rfl : a = 4 := Int32.toInt_inj.mp (ha.trans (by decide)); decide
  · obtain rfl : a = 5 := Int32.toInt_inj.mp (ha.trans (by decide)); decide
  · obtain rfl : a = 6 := Int32.toInt_inj.mp (ha.trans (by decide)); decide
  · obtain rfl : a = 7 := Int32.toInt_inj.mp (ha.trans (by decide)); decide
theorem mul01T {a b : Int32} {x y : Int} (ha : a.toInt = x) (hb : b.toInt = y) (h : 0 ≤ x ∧ x ≤ 1) : (x = 0 ∧ (a * b).toInt = 0) ∨ (x = 1 ∧ (a * b).toInt = y) := by
  rcases (show x = 0 ∨ x = 1 by omega) with rfl | rfl
  · obtain rfl : a = 0 := Int32.toInt_inj.mp (ha.trans (by decide))
    exact Or.inl ⟨rfl, by rw [Int32.zero_mul]; decide⟩
  · obtain rfl : a = 1 := Int32.toInt_inj.mp (ha.trans (by decide))
    exact Or.inr ⟨rfl, by rw [Int32.one_mul]; exact hb⟩
theorem remN {x y : Int64} (hy : ¬ y.toInt = 0) : ((x - x / y * y).toInt).natAbs < y.toInt.natAbs := by
  have hx1 := Int64.le_toInt x
  have hx2 := Int64.toInt_lt x
  have hy1 := Int64.le_toInt y
  have hy2 := Int64.toInt_lt y
  have e : (x - x / y * y).toInt = x.toInt.tmod y.toInt := by
    rw [Int64.toInt_sub, Int64.toInt_mul, Int64.toInt_div]
    have h1 : (x.toInt - ((x.toInt.tdiv y.toInt).bmod (2 ^ 64) * y.toInt).bmod (2 ^ 64)).bmod (2 ^ 64) = (x.toInt - x.toInt.tdiv y.toInt * y.toInt).bmod (2 ^ 64) := by
      simp
    rw [h1]
    have h2 : x.toInt - x.toInt.tdiv y.toInt * y.toInt = x.toInt.tmod y.toInt := by
      have := Int.mul_tdiv_add_tmod x.toInt y.toInt
      rw [Int.mul_comm]; omega
    rw [h2]
    apply bmodL
    have h3 : (x.toInt.tmod y.toInt).natAbs < y.toInt.natAbs := by rw [Int.natAbs_tmod]; exact Nat.mod_lt _ (by omega)
    omega
  rw [e, Int.natAbs_tmod]
  exact Nat.mod_lt _ (by omega)
