/-! words of the tables that every contract may use: the good ones of lw_tbl -/
def tb : List Cond := lw_tbl.filter goodWord
theorem tb_in {w : Cond} (h : w ∈ lw_tbl) (g : goodWord w = true) : w ∈ tb := List.mem_filter.mpr ⟨h, g⟩
theorem tb_t {w : Cond} (h : w ∈ tables_1) (g : goodWord w = true) : w ∈ tb := tb_in (List.mem_append_right _ h) g
theorem tb_s {q : MethodName × Nat} (h : q ∈ lw_privs) (g : goodWord (Cond.selects q.1.cls q.1 q.1) = true) : Cond.selects q.1.cls q.1 q.1 ∈ tb := tb_in (List.mem_append_left _ (List.mem_map.mpr ⟨q, h, rfl⟩)) g
abbrev wk (y : MethodName) (b : ByteArray) (n : Nat) (r : Option FieldType) : List Cond := Cond.code y b n r :: tb
theorem tb_good : ∀ w ∈ tb, (w.onTables && w.keeps) = true ∨ ∃ ty, w = .arrayClass ty := fun _ h => good_of_word (List.mem_filter.mp h).2
theorem gk {y : MethodName} {b : ByteArray} {n : Nat} {r : Option FieldType} (h : Cond.code y b n r ∈ tb) : GoodIn tb (wk y b n r) := fun w hw => by
  rcases List.mem_cons.mp hw with rfl | hw
  · exact ⟨h, tb_good _ h⟩
  · exact ⟨hw, tb_good _ hw⟩
theorem gk1 {w : Cond} {ws : List Cond} (h : w ∈ tb) (hg : GoodIn tb ws) : GoodIn tb (w :: ws) := fun v hv => by
  rcases List.mem_cons.mp hv with rfl | hv
  · exact ⟨h, tb_good _ h⟩
  · exact hg v hv
theorem gkV {own C : String} {idx : Nat} {y : MethodName} {b : ByteArray} {n : Nat} {r : Option FieldType} (h1 : Cond.methodLink own idx y ∈ tb) (h2 : Cond.instanceMethod y ∈ tb) (h3 : Cond.selects C y y ∈ tb) (h4 : Cond.initialized C ∈ tb) (h5 : Cond.code y b n r ∈ tb) : GoodIn tb (wsV own idx C y (wk y b n r)) := gk1 h1 (gk1 h2 (gk1 h3 (gk1 h4 (gk h5))))
theorem gkS {own : String} {idx : Nat} {y : MethodName} {b : ByteArray} {n : Nat} {r : Option FieldType} (h1 : Cond.methodLink own idx y ∈ tb) (h2 : Cond.static y ∈ tb) (h4 : Cond.initialized own ∈ tb) (h5 : Cond.code y b n r ∈ tb) : GoodIn tb (wsS own idx y (wk y b n r)) := gk1 h1 (gk1 h2 (gk1 h4 (gk h5)))
/-! words of nest mates and of arrays of references: they are carried by every world -/
def NX (U : State) : Prop := (∀ (a : String) (i : Nat) (x : MethodName) (h : String), Cond.methodLinkNest a i x h ∈ lw_tbl → va_Nw (.methodLinkNest a i x h) U) ∧ (∀ C : String, Cond.arrayOver (.object C) ∈ lw_tbl → va_AO C U) ∧ ∀ ty : FieldType, Cond.arrayOver (.array ty) ∈ lw_tbl → va_AOA ty U
def KK (G : va_G) (tys : List (ClassId × FieldType)) (U : State) : Prop := va_K G vwCl tys U ∧ NX U
theorem KK.warm {G : va_G} {tys : List (ClassId × FieldType)} {s U : State} (hW : s.WarmedH U.vm) (h : KK G tys s) : KK G tys U := ⟨va_K.moved hW.alike h.1, fun a i x z hm => (h.2.1 a i x z hm).warmM hW, fun C hm => (h.2.2.1 C hm).moved hW.alike, fun ty hm => (h.2.2.2 ty hm).moved hW.alike⟩
theorem KK.call {G : va_G} {tys : List (ClassId × FieldType)} {U : State} {g : JFrame} {mk : MethodId} {a : Array Value} (h : KK G tys U) : KK G tys (U.calling g mk a) := ⟨va_K.moved (u := U) (U := U.calling g mk a) (Vm.Alike.refl U.vm) h.1, fun a9 i x z hm => va_tabs rfl (rfl : U.vm = (U.calling g mk a).vm) (h.2.1 a9 i x z hm), fun C hm => va_AO.moved (u := U) (Vm.Alike.refl U.vm) (h.2.2.1 C hm), fun ty hm => va_AOA.moved (u := U) (Vm.Alike.refl U.vm) (h.2.2.2 ty hm)⟩
/-! contracts: what is known at the start -/
def PreP (G : va_G) (tys : List (ClassId × FieldType)) (av : List Value) (wd : va_W) (sz : Nat) : Array Value → State → Prop := va_Pc av (fun U => U.heap.size = sz ∧ va_P G vwCl wd U.heap ∧ KK G tys U)
def PreD (G : va_G) (tys : List (ClassId × FieldType)) (av : List Value) (wd : va_W) (sz : Nat) : Array Value → State → Prop := va_Pc av (fun U => U.heap.size = sz ∧ va_P G vwCl wd U.heap ∧ KK G tys U ∧ va_D (fun _ => True) wd)
theorem PreP.blind {G : va_G} {tys : List (ClassId × FieldType)} {av : List Value} {wd : va_W} {sz : Nat} : FrameBlind (PreP G tys av wd sz) := fun a U g mk q => by
  obtain ⟨q0, q1, q2, q3⟩ := q
  exact ⟨q0, q1, q2, q3.call⟩
theorem PreD.blind {G : va_G} {tys : List (ClassId × FieldType)} {av : List Value} {wd : va_W} {sz : Nat} : FrameBlind (PreD G tys av wd sz) := fun a U g mk q => by
  obtain ⟨q0, q1, q2, q3, q4⟩ := q
  exact ⟨q0, q1, q2, q3.call, q4⟩
abbrev rmk (fr cl sl : Nat) : Room := { frames := fr, cells := cl, slots := sl, locals := 60 * fr }
/-- answers an int, changes nothing -/
def QPi (r : Int32) (sz : Nat) : Array Value → State → Outcome → State → Prop := va_Qi (fun (x : Int32) (_ : Unit) => x = r) (fun _ _ => True) (fun q => sz ≤ q)
def QPl (r : Int64) (sz : Nat) : Array Value → State → Outcome → State → Prop := va_Ql (fun (x : Int64) (_ : Unit) => x = r) (fun _ _ => True) (fun q => sz ≤ q)
/-- answers (an int, a long, nothing), leaves the world wd' u -/
def QDi {S : Type} (G : va_G) (post : Int32 → S → Prop) (wd' : S → va_W) (A : Nat → Prop) : Array Value → State → Outcome → State → Prop := va_Qi post (fun u t => va_P G vwCl (wd' u) t.heap ∧ va_D A (wd' u)) A
def QDv {S : Type} (G : va_G) (wd' : S → va_W) (A : Nat → Prop) : Array Value → State → Outcome → State → Prop := va_Qv (fun _ : S => True) (fun u t => va_P G vwCl (wd' u) t.heap ∧ va_D A (wd' u)) A
def PureI (l : Launch) (y : MethodName) (b : ByteArray) (n : Nat) (ret : Option FieldType) (fr : Nat) (G : va_G) (tys : List (ClassId × FieldType)) (av : List Value) (wd : va_W) (r : Int32) : Prop := ∀ sz : Nat, Met l y (wk y b n ret) (rmk fr 0 0) (PreP G tys av wd sz) (QPi r sz) 0 0 (fun q => sz ≤ q)
def PureL (l : Launch) (y : MethodName) (b : ByteArray) (n : Nat) (ret : Option FieldType) (fr : Nat) (G : va_G) (tys : List (ClassId × FieldType)) (av : List Value) (wd : va_W) (r : Int64) : Prop := ∀ sz : Nat, Met l y (wk y b n ret) (rmk fr 0 0) (PreP G tys av wd sz) (QPl r sz) 0 0 (fun q => sz ≤ q)
def ImpI {S : Type} (l : Launch) (y : MethodName) (b : ByteArray) (n : Nat) (ret : Option FieldType) (fr mc ms : Nat) (G : va_G) (tys : List (ClassId × FieldType)) (av : List Value) (wd : va_W) (post : Int32 → S → Prop) (wd' : S → va_W) : Prop := ∀ sz : Nat, Met l y (wk y b n ret) (rmk fr mc ms) (PreD G tys av wd sz) (QDi G post wd' (va_A wd sz)) mc ms (va_A wd sz)
def ImpV {S : Type} (l : Launch) (y : MethodName) (b : ByteArray) (n : Nat) (fr mc ms : Nat) (G : va_G) (tys : List (ClassId × FieldType)) (av : List Value) (wd : va_W) (wd' : S → va_W) : Prop := ∀ sz : Nat, Met l y (wk y b n none) (rmk fr mc ms) (PreD G tys av wd sz) (QDv G wd' (va_A wd sz)) mc ms (va_A wd sz)
/-- the walk that a contract without writes needs -/
theorem mkP {l : Launch} {y : MethodName} {b : ByteArray} {n : Nat} {ret : Option FieldType} {fr : Nat} {G : va_G} {tys : List (ClassId × FieldType)} {av : List Value} {wd : va_W} {Qc : Nat → Array Value → State → Outcome → State → Prop} (hy : plainName y.cls = true) (hav : (lg_sl av).length ≤ n)
    (body : ∀ (p : Program) (e : Env) (s : State) (m : MethodId) (args : Array Value) (below : List Frame) (meth : Method) (c : Code) (ls : Array Slot), p.tables.exec = Jvm.exec → c.code = b → c.maxLocals = n → meth.sig.returnType = ret → meth.locks = false → s.vm.findClass y.cls = some m.cls → (∀ w ∈ tb, w.before args s = true) → KK G tys s → va_P G vwCl wd s.heap → va_S (fun q => s.heap.size ≤ q) s.heap s.heap [] → lv_has ls n (lv_args 0 av) →
      W p l e (rmk fr 0 0) s m args below meth c s.heap [] 0 0 (MQ below (Qc s.heap.size) args s 0 0 (fun q => s.heap.size ≤ q)) (F0 m 0 ls [])) : ∀ sz : Nat, Met l y (wk y b n ret) (rmk fr 0 0) (PreP G tys av wd sz) (Qc sz) 0 0 (fun q => sz ≤ q) := by
  intro sz
  refine Met.ofW (cc := b) (maxL := n) (ret := ret) hy rfl ?_
  intro p e s m args below meth c s₁ B hml hv
  obtain ⟨rfl, hsz, hP, hK⟩ := hv
  subst hsz
  have hl := lv_entry av (n := n) hav
  have hts := atoms_spec (ws := wk y b n ret) B.pre
  rw [lg_entry_eq]
  generalize (lg_sl av ++ List.replicate (n - (lg_sl av).length) Slot.unset).toArray = ls at hl ⊢
  exact body p e s m _ below meth c ls B.exec B.bytes hml B.returns B.notSynchronized (findClass_of_methodNamed B.named) (fun w h => hts w (List.mem_cons_of_mem _ h)) hK hP va_S.rf hl
/-- the walk that a contract with writes needs -/
theorem mkD {l : Launch} {y : MethodName} {b : ByteArray} {n : Nat} {ret : Option FieldType} {fr mc ms : Nat} {G : va_G} {tys : List (ClassId × FieldType)} {av : List Value} {wd : va_W} {Qc : (Nat → Prop) → Array Value → State → Outcome → State → Prop} (hy : plainName y.cls = true) (hav : (lg_sl av).length ≤ n)
    (body : ∀ (p : Program) (e : Env) (s : State) (m : MethodId) (args : Array Value) (below : List Frame) (meth : Method) (c : Code) (ls : Array Slot) (A : Nat → Prop), p.tables.exec = Jvm.exec → c.code = b → c.maxLocals = n → meth.sig.returnType = ret → meth.locks = false → s.vm.findClass y.cls = some m.cls → meth.name = y.name → (∀ w ∈ tb, w.before args s = true) → KK G tys s → va_P G vwCl wd s.heap → va_D A wd → va_S A s.heap s.heap [] → (∀ q : Nat, s.heap.size ≤ q → A q) → lv_has ls n (lv_args 0 av) →
      W p l e (rmk fr mc ms) s m args below meth c s.heap [] 0 0 (MQ below (Qc A) args s mc ms A) (F0 m 0 ls [])) : ∀ sz : Nat, Met l y (wk y b n ret) (rmk fr mc ms) (PreD G tys av wd sz) (Qc (va_A wd sz)) mc ms (va_A wd sz) := by
  intro sz
  refine Met.ofW (cc := b) (maxL := n) (ret := ret) hy rfl ?_
  intro p e s m args below meth c s₁ B hml hv
  obtain ⟨rfl, hsz, hP, hK, hD0⟩ := hv
  subst hsz
  have hl := lv_entry av (n := n) hav
  have hts := atoms_spec (ws := wk y b n ret) B.pre
  rw [lg_entry_eq]
  generalize (lg_sl av ++ List.replicate (n - (lg_sl av).length) Slot.unset).toArray = ls at hl ⊢
  exact body p e s m _ below meth c ls _ B.exec B.bytes hml B.returns B.notSynchronized (findClass_of_methodNamed B.named) (name_of_methodNamed B.named B.method).1 (fun w h => hts w (List.mem_cons_of_mem _ h)) hK hP (hD0.self (sz := s.heap.size)) va_S.rf (fun q h => Or.inr h) hl
section KW
variable {p : Program} {l : Launch} {e : Env} {R : Room} {s : State} {m : MethodId} {args : Array Value} {below : List Frame} {meth : Method} {c : Code} {H : Heap} {locs : List Loc} {cells slots : Nat} {Q : State → Prop}
variable {cc : ByteArray} {pc : Nat} {ls : Array Slot} {rest st0 : List Value} {G : va_G} {A : Nat → Prop} {tys : List (ClassId × FieldType)} {ws : va_W} {H0 : Heap} {nL : Nat} {own : String}
variable {C : String} {idx : Nat} {y : MethodName} {b : ByteArray} {n : Nat} {fr : Nat} {o : Nat} {As : List Value} {wd : va_W}
abbrev CF (p : Program) (m : MethodId) (c : Code) (cc : ByteArray) (nL : Nat) (s : State) (args : Array Value) (own : String) : Prop := CallFix p m c cc nL s args tb own
/-- what a virtual call wants of the words and of the callee's name -/
abbrev okV (own C : String) (idx : Nat) (y : MethodName) (b : ByteArray) (n : Nat) (ret : Option FieldType) (k : Nat) : Prop := (Cond.methodLink own idx y ∈ tb ∧ Cond.instanceMethod y ∈ tb ∧ Cond.selects C y y ∈ tb ∧ Cond.initialized C ∈ tb ∧ Cond.code y b n ret ∈ tb) ∧ (y.cls = C ∧ y.cls ≠ "java/lang/invoke/MethodHandle" ∧ y.cls ≠ "java/lang/invoke/VarHandle" ∧ (parseMethodDescriptor y.desc).map (fun d => d.parameters.length) = some k)
abbrev okS (own : String) (idx : Nat) (y : MethodName) (b : ByteArray) (n : Nat) (ret : Option FieldType) (k : Nat) : Prop := (Cond.methodLink own idx y ∈ tb ∧ Cond.static y ∈ tb ∧ Cond.initialized own ∈ tb ∧ Cond.code y b n ret ∈ tb) ∧ (y.cls = own ∧ y.cls ≠ "java/lang/invoke/MethodHandle" ∧ y.cls ≠ "java/lang/invoke/VarHandle" ∧ (parseMethodDescriptor y.desc).map (fun d => d.parameters.length) = some k)
theorem runVP {ret : Option FieldType} {Qc : Nat → Array Value → State → Outcome → State → Prop} (S : CF p m c cc nL s args own) (hM : ∀ sz : Nat, Met l y (wk y b n ret) (rmk fr 0 0) (PreP G tys (.ref o :: As) wd sz) (Qc sz) 0 0 (fun q => sz ≤ q)) (hw : okV own C idx y b n ret As.length) (hR : fr + 1 ≤ R.frames ∧ 8 + (n + 11) + 60 * fr ≤ R.locals) (hK : KK G tys s) (hP : va_P G vwCl ws H) (is : List Nat) (hs : is.filterMap (fun i => ws[i]?) = wd) (q0 : Nat) {ci : Nat} {T : u_T} {N : Nat} {fs : List Value} (he : ws[q0]? = some (o, .inr (ci, fs))) (hc : vwCl[ci]? = some (C, T, N)) (hsz : ls.size = nL) (hst : st0 = As.reverse ++ .ref o :: rest) (hroom : (rest.map fun v => v.category).sum ≤ 8) (hdg : decode cc pc = .ok (.invokevirtual idx, 3)) (hcs : cells ≤ R.cells ∧ slots ≤ R.slots) :
    va_Run p l e R s m args below meth c H locs cells slots 0 0 (F0 m pc ls st0) rest (Qc H.size (Value.ref o :: As).toArray) (fun q => H.size ≤ q) :=
  va_runV (As := As) (rest := rest) S (hM H.size) (cwV As.length S.2.2.2.2 (gkV hw.1.1 hw.1.2.1 hw.1.2.2.1 hw.1.2.2.2.1 hw.1.2.2.2.2) rfl rfl rfl hw.2 hR) ⟨PreP.blind, va_recv hK.1 hP hc he, fun U hU hW => ⟨rfl, by rw [hU], by rw [hU]; exact hP.sub is hs, KK.warm hW hK⟩⟩ rfl rfl hsz hst (lv_room hroom) hdg hcs
theorem runSP {ret : Option FieldType} {Qc : Nat → Array Value → State → Outcome → State → Prop} (S : CF p m c cc nL s args own) (hM : ∀ sz : Nat, Met l y (wk y b n ret) (rmk fr 0 0) (PreP G tys As wd sz) (Qc sz) 0 0 (fun q => sz ≤ q)) (hw : okS own idx y b n ret As.length) (hR : fr + 1 ≤ R.frames ∧ 8 + (n + 11) + 60 * fr ≤ R.locals) (hK : KK G tys s) (hP : va_P G vwCl ws H) (is : List Nat) (hs : is.filterMap (fun i => ws[i]?) = wd) (hsz : ls.size = nL) (hst : st0 = As.reverse ++ rest) (hroom : (rest.map fun v => v.category).sum ≤ 8) (hdg : decode cc pc = .ok (.invokestatic idx, 3)) (hcs : cells ≤ R.cells ∧ slots ≤ R.slots) :
    va_Run p l e R s m args below meth c H locs cells slots 0 0 (F0 m pc ls st0) rest (Qc H.size As.toArray) (fun q => H.size ≤ q) :=
  va_runS (As := As) (rest := rest) S (hM H.size) (cwS As.length S.2.2.2.2 (gkS hw.1.1 hw.1.2.1 hw.1.2.2.1 hw.1.2.2.2) rfl rfl rfl hw.2 hR) ⟨PreP.blind, fun U hU hW => ⟨rfl, by rw [hU], by rw [hU]; exact hP.sub is hs, KK.warm hW hK⟩⟩ rfl rfl hsz hst (lv_room hroom) hdg hcs
/-- behind a call that changes nothing: the whole world is as it was -/
theorem behI {r : Int32} {a : Array Value} (hr : va_Run p l e R s m args below meth c H locs cells slots 0 0 (F0 m pc ls st0) rest (QPi r H.size a) (fun q => H.size ≤ q)) (hP : va_P G vwCl ws H) (hS : va_S A H0 H locs) (hA : ∀ q : Nat, H0.size ≤ q → A q)
    (kk : ∀ (H1 : Heap) (locs1 : List Loc), va_P G vwCl ws H1 → va_S A H0 H1 locs1 → W p l e R s m args below meth c H1 locs1 cells slots Q (F0 m (pc + 3) ls (.int r :: rest))) : W p l e R s m args below meth c H locs cells slots Q (F0 m pc ls st0) := by
  refine va_calli (A1 := fun q => H.size ≤ q) hr hS (fun q h1 h2 => absurd h1 (Nat.not_lt.mpr h2)) (fun q h => hA q (Nat.le_trans hS.1 h)) (fun r' u t H1 locs1 ht' hvm hw' hB hz hk hS' => ?_)
  subst hw'
  exact kk H1 locs1 (hP.kept (fun k q hq => hk q.1 ((hP k q hq).lt) (Nat.not_le.mpr (hP k q hq).lt))) hS'
theorem behL {r : Int64} {a : Array Value} (hr : va_Run p l e R s m args below meth c H locs cells slots 0 0 (F0 m pc ls st0) rest (QPl r H.size a) (fun q => H.size ≤ q)) (hP : va_P G vwCl ws H) (hS : va_S A H0 H locs) (hA : ∀ q : Nat, H0.size ≤ q → A q)
    (kk : ∀ (H1 : Heap) (locs1 : List Loc), va_P G vwCl ws H1 → va_S A H0 H1 locs1 → W p l e R s m args below meth c H1 locs1 cells slots Q (F0 m (pc + 3) ls (.long r :: rest))) : W p l e R s m args below meth c H locs cells slots Q (F0 m pc ls st0) := by
  refine va_calll (A1 := fun q => H.size ≤ q) hr hS (fun q h1 h2 => absurd h1 (Nat.not_lt.mpr h2)) (fun q h => hA q (Nat.le_trans hS.1 h)) (fun r' u t H1 locs1 ht' hvm hw' hB hz hk hS' => ?_)
  subst hw'
  exact kk H1 locs1 (hP.kept (fun k q hq => hk q.1 ((hP k q hq).lt) (Nat.not_le.mpr (hP k q hq).lt))) hS'
/-- the returns of contracts that change nothing -/
theorem retPi {r v : Int32} {ls : Array Slot} (hx : p.tables.exec = Jvm.exec) (hb : c.code = cc) (hr : meth.sig.returnType = some .int) (hlk : meth.locks = false) (hS : va_S (fun q => s.heap.size ≤ q) s.heap H locs) (hdg : decode cc pc = .ok (.ireturn, 1)) (e9 : v = r) : W p l e R s m args below meth c H locs 0 0 (MQ below (QPi r s.heap.size) args s 0 0 (fun q => s.heap.size ≤ q)) (F0 m pc ls [.int v]) :=
  W.iret hx hb hr (fun t ht hW => ⟨⟨v, (), rfl, e9, trivial⟩, hS.F ht⟩) hS.2.2 hdg hlk
theorem retPz {r v : Int32} {ls : Array Slot} (hx : p.tables.exec = Jvm.exec) (hb : c.code = cc) (hr : meth.sig.returnType = some .boolean) (hlk : meth.locks = false) (hS : va_S (fun q => s.heap.size ≤ q) s.heap H locs) (hdg : decode cc pc = .ok (.ireturn, 1)) (hn : narrow .boolean (.int v) = .int v) (e9 : v = r) : W p l e R s m args below meth c H locs 0 0 (MQ below (QPi r s.heap.size) args s 0 0 (fun q => s.heap.size ≤ q)) (F0 m pc ls [.int v]) :=
  W.zret hx hb hr hn (fun t ht hW => ⟨⟨v, (), rfl, e9, trivial⟩, hS.F ht⟩) hS.2.2 hdg hlk
theorem retPl {r v : Int64} {ls : Array Slot} (hx : p.tables.exec = Jvm.exec) (hb : c.code = cc) (hr : meth.sig.returnType = some .long) (hlk : meth.locks = false) (hS : va_S (fun q => s.heap.size ≤ q) s.heap H locs) (hdg : decode cc pc = .ok (.lreturn, 1)) (e9 : v = r) : W p l e R s m args below meth c H locs 0 0 (MQ below (QPl r s.heap.size) args s 0 0 (fun q => s.heap.size ≤ q)) (F0 m pc ls [.long v]) :=
  W.lret hx hb hr (fun t ht hW => ⟨⟨v, (), rfl, e9, trivial⟩, hS.F ht⟩) hS.2.2 hdg hlk
/-- a field is read -/
theorem getF {T : u_T} {N ci : Nat} {a : Nat} (hx : p.tables.exec = Jvm.exec) (hb : c.code = cc) (ht : ∀ w ∈ tb, w.before args s = true) (hown : s.vm.findClass own = some m.cls) (hK : KK G tys s) (hP : va_P G vwCl ws H) (hin : ∀ w ∈ u_ws C T N, w ∈ tb) (q0 k : Nat) {fs : List Value} (he : ws[q0]? = some (a, .inr (ci, fs))) (hc : vwCl[ci]? = some (C, T, N)) (hk : k < N) (hw : Cond.fieldLink own idx (T k).1 (T k).2.1 (T k).2.2.1 ∈ tb) {v : Value} (hv : fs[k]? = some v) (hdg : decode cc pc = .ok (.getfield idx, 3))
    (kk : W p l e R s m args below meth c H locs cells slots Q (F0 m (pc + 3) ls (v :: rest))) : W p l e R s m args below meth c H locs cells slots Q (F0 m pc ls (.ref a :: rest)) :=
  va_get hx hb ht hin hown hK.1 hP q0 he hc k hk (ht _ hw) (fun _ h9 => h9) hv hdg kk
end KW
