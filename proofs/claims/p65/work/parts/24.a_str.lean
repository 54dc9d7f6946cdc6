/-! words of the text: literals, by their places -/
abbrev lenS : List Nat := [5, 5, 4, 5, 5, 4, 6, 5, 4, 4, 3, 6, 3, 5, 2]
abbrev bytS : List (List Int32) := [[104, 111, 117, 115, 101], [109, 111, 118, 101, 115], [104, 101, 114, 101], [119, 111, 114, 116, 104], [112, 114, 105, 99, 101], [114, 111, 111, 109], [112, 101, 111, 112, 108, 101], [104, 101, 97, 114, 115], [115, 105, 116, 115], [100, 111, 111, 114], [109, 97, 110], [119, 101, 105, 103, 104, 115], [121, 101, 115], [115, 108, 97, 116, 101], [97, 115]]
def SQ (L : List (String × Nat × String × Nat)) (sd : Nat → Nat × Nat) (A : Nat → Prop) (U : State) (H : Heap) : Prop := vk_S 15 lenS bytS (fun i => (sd i).1) (fun i => (sd i).2) A U H ∧ va_Z "java/lang/String" "COMPACT_STRINGS" "Z" (.int 1) A U H ∧ va_Zq "jdk/internal/util/Preconditions" "SIOOBE_FORMATTER" "Ljava/util/function/BiFunction;" A U H ∧ ∀ x ∈ L, vk_R x.1 x.2.1 x.2.2.1 (sd x.2.2.2).1 U
theorem SQ.go {L : List (String × Nat × String × Nat)} {sd : Nat → Nat × Nat} {A B : Nat → Prop} {s U : State} {H : Heap} {locs : List Loc} (h : SQ L sd A s s.heap) (hS : va_S A s.heap H locs) (hW : s.WarmedH U.vm) (hAB : ∀ q, B q → A q) : SQ L sd B U H :=
  ⟨vk_S.moved hW.alike ((h.1.kept hS.2.1).narrow hAB), va_Z.moved hW.alike ((h.2.1.kept hS.2.1).narrow hAB), va_Zq.moved hW.alike ((h.2.2.1.kept hS.2.1).narrow hAB), fun x hx => (h.2.2.2 x hx).warm hW⟩
theorem SQ.call {L : List (String × Nat × String × Nat)} {sd : Nat → Nat × Nat} {A : Nat → Prop} {U : State} {g : JFrame} {mk : MethodId} {a : Array Value} (h : SQ L sd A U U.heap) : SQ L sd A (U.calling g mk a) (U.calling g mk a).heap :=
  ⟨vk_S.moved (u := U) (Vm.Alike.refl U.vm) h.1, va_Z.moved (u := U) (Vm.Alike.refl U.vm) h.2.1, va_Zq.moved (u := U) (Vm.Alike.refl U.vm) h.2.2.1, fun x hx => vk_R.same (u := U) rfl (h.2.2.2 x hx)⟩
def PrePS (L : List (String × Nat × String × Nat)) (sd : Nat → Nat × Nat) (G : va_G) (tys : List (ClassId × FieldType)) (av : List Value) (wd : va_W) (sz : Nat) : Array Value → State → Prop := va_Pc av (fun U => (U.heap.size = sz ∧ va_P G vwCl wd U.heap ∧ KK G tys U) ∧ SQ L sd (fun q => sz ≤ q) U U.heap)
def PreDS (L : List (String × Nat × String × Nat)) (sd : Nat → Nat × Nat) (G : va_G) (tys : List (ClassId × FieldType)) (av : List Value) (wd : va_W) (sz : Nat) : Array Value → State → Prop := va_Pc av (fun U => (U.heap.size = sz ∧ va_P G vwCl wd U.heap ∧ KK G tys U ∧ va_D (fun _ => True) wd) ∧ SQ L sd (va_A wd sz) U U.heap)
theorem PrePS.blind {L : List (String × Nat × String × Nat)} {sd : Nat → Nat × Nat} {G : va_G} {tys : List (ClassId × FieldType)} {av : List Value} {wd : va_W} {sz : Nat} : FrameBlind (PrePS L sd G tys av wd sz) := fun a U g mk q => by
  obtain ⟨q0, ⟨q1, q2, q3⟩, q5⟩ := q
  exact ⟨q0, ⟨q1, q2, q3.call⟩, q5.call⟩
theorem PreDS.blind {L : List (String × Nat × String × Nat)} {sd : Nat → Nat × Nat} {G : va_G} {tys : List (ClassId × FieldType)} {av : List Value} {wd : va_W} {sz : Nat} : FrameBlind (PreDS L sd G tys av wd sz) := fun a U g mk q => by
  obtain ⟨q0, ⟨q1, q2, q3, q4⟩, q5⟩ := q
  exact ⟨q0, ⟨q1, q2, q3.call, q4⟩, q5.call⟩
/-- answers nothing, changes nothing -/
def QRv (sz : Nat) : Array Value → State → Outcome → State → Prop := va_Qv (fun _ : Unit => True) (fun _ _ => True) (fun q => sz ≤ q)
theorem mkPS {l : Launch} {y : MethodName} {b : ByteArray} {n : Nat} {ret : Option FieldType} {fr : Nat} {L : List (String × Nat × String × Nat)} {sd : Nat → Nat × Nat} {G : va_G} {tys : List (ClassId × FieldType)} {av : List Value} {wd : va_W} {Qc : Nat → Array Value → State → Outcome → State → Prop} (hy : plainName y.cls = true) (hav : (lg_sl av).length ≤ n)
    (body : ∀ (p : Program) (e : Env) (s : State) (m : MethodId) (args : Array Value) (below : List Frame) (meth : Method) (c : Code) (ls : Array Slot), p.tables.exec = Jvm.exec → c.code = b → c.maxLocals = n → meth.sig.returnType = ret → meth.locks = false → s.vm.findClass y.cls = some m.cls → (∀ w ∈ tb, w.before args s = true) → KK G tys s → va_P G vwCl wd s.heap → va_S (fun q => s.heap.size ≤ q) s.heap s.heap [] → SQ L sd (fun q => s.heap.size ≤ q) s s.heap → lv_has ls n (lv_args 0 av) →
      W p l e (rmk fr 0 0) s m args below meth c s.heap [] 0 0 (MQ below (Qc s.heap.size) args s 0 0 (fun q => s.heap.size ≤ q)) (F0 m 0 ls [])) : ∀ sz : Nat, Met l y (wk y b n ret) (rmk fr 0 0) (PrePS L sd G tys av wd sz) (Qc sz) 0 0 (fun q => sz ≤ q) := by
  intro sz
  refine Met.ofW (cc := b) (maxL := n) (ret := ret) hy rfl ?_
  intro p e s m args below meth c s₁ B hml hv
  obtain ⟨rfl, ⟨hsz, hP, hK⟩, hQ⟩ := hv
  subst hsz
  have hl := lv_entry av (n := n) hav
  have hts := atoms_spec (ws := wk y b n ret) B.pre
  rw [lg_entry_eq]
  generalize (lg_sl av ++ List.replicate (n - (lg_sl av).length) Slot.unset).toArray = ls at hl ⊢
  exact body p e s m _ below meth c ls B.exec B.bytes hml B.returns B.notSynchronized (findClass_of_methodNamed B.named) (fun w h => hts w (List.mem_cons_of_mem _ h)) hK hP va_S.rf hQ hl
theorem mkDS {l : Launch} {y : MethodName} {b : ByteArray} {n : Nat} {ret : Option FieldType} {fr mc ms : Nat} {L : List (String × Nat × String × Nat)} {sd : Nat → Nat × Nat} {G : va_G} {tys : List (ClassId × FieldType)} {av : List Value} {wd : va_W} {Qc : (Nat → Prop) → Array Value → State → Outcome → State → Prop} (hy : plainName y.cls = true) (hav : (lg_sl av).length ≤ n)
    (body : ∀ (p : Program) (e : Env) (s : State) (m : MethodId) (args : Array Value) (below : List Frame) (meth : Method) (c : Code) (ls : Array Slot) (A : Nat → Prop), p.tables.exec = Jvm.exec → c.code = b → c.maxLocals = n → meth.sig.returnType = ret → meth.locks = false → s.vm.findClass y.cls = some m.cls → meth.name = y.name → (∀ w ∈ tb, w.before args s = true) → KK G tys s → va_P G vwCl wd s.heap → va_D A wd → va_S A s.heap s.heap [] → (∀ q : Nat, s.heap.size ≤ q → A q) → SQ L sd A s s.heap → lv_has ls n (lv_args 0 av) →
      W p l e (rmk fr mc ms) s m args below meth c s.heap [] 0 0 (MQ below (Qc A) args s mc ms A) (F0 m 0 ls [])) : ∀ sz : Nat, Met l y (wk y b n ret) (rmk fr mc ms) (PreDS L sd G tys av wd sz) (Qc (va_A wd sz)) mc ms (va_A wd sz) := by
  intro sz
  refine Met.ofW (cc := b) (maxL := n) (ret := ret) hy rfl ?_
  intro p e s m args below meth c s₁ B hml hv
  obtain ⟨rfl, ⟨hsz, hP, hK, hD0⟩, hQ⟩ := hv
  subst hsz
  have hl := lv_entry av (n := n) hav
  have hts := atoms_spec (ws := wk y b n ret) B.pre
  rw [lg_entry_eq]
  generalize (lg_sl av ++ List.replicate (n - (lg_sl av).length) Slot.unset).toArray = ls at hl ⊢
  exact body p e s m _ below meth c ls _ B.exec B.bytes hml B.returns B.notSynchronized (findClass_of_methodNamed B.named) (name_of_methodNamed B.named B.method).1 (fun w h => hts w (List.mem_cons_of_mem _ h)) hK hP (hD0.self (sz := s.heap.size)) va_S.rf (fun q h => Or.inr h) hQ hl
section KStr
variable {p : Program} {l : Launch} {e : Env} {R : Room} {s : State} {m : MethodId} {args : Array Value} {below : List Frame} {meth : Method} {c : Code} {H : Heap} {locs : List Loc} {cells slots mc ms : Nat} {Q : State → Prop}
variable {cc : ByteArray} {pc : Nat} {ls : Array Slot} {rest st0 : List Value} {G : va_G} {A : Nat → Prop} {tys : List (ClassId × FieldType)} {ws wr : va_W} {H0 : Heap} {nL : Nat} {own host : String}
variable {C : String} {idx : Nat} {y : MethodName} {b : ByteArray} {n : Nat} {fr : Nat} {o : Nat} {As : List Value} {wd : va_W} {L : List (String × Nat × String × Nat)} {sd : Nat → Nat × Nat}
theorem prePS {av : List Value} (hK : KK G tys s) (hQ : SQ L sd A s s.heap) (hS : va_S A s.heap H locs) (hA : ∀ q : Nat, s.heap.size ≤ q → A q) : ∀ U : State, U.heap = H → s.WarmedH U.vm → PrePS L sd G tys av [] H.size av.toArray U := fun U hU hW => ⟨rfl, ⟨by rw [hU], fun k q h => absurd h (by simp), KK.warm hW hK⟩, by rw [hU]; exact hQ.go hS hW (fun q hq => hA q (Nat.le_trans hS.1 hq))⟩
/-- a String's own method that is called -/
theorem runVS {ret : Option FieldType} {Qc : Nat → Array Value → State → Outcome → State → Prop} {i : Nat} (S : CF p m c cc nL s args own) (hM : ∀ sz : Nat, Met l y (wk y b n ret) (rmk fr 0 0) (PrePS L sd G tys (.ref (sd i).1 :: As) [] sz) (Qc sz) 0 0 (fun q => sz ≤ q)) (hw : okV own "java/lang/String" idx y b n ret As.length) (hR : fr + 1 ≤ R.frames ∧ 8 + (n + 11) + 60 * fr ≤ R.locals) (hK : KK G tys s) (hQ : SQ L sd A s s.heap) (hS : va_S A s.heap H locs) (hA : ∀ q : Nat, s.heap.size ≤ q → A q) (hi : i < 15) (hsz : ls.size = nL) (hst : st0 = As.reverse ++ .ref (sd i).1 :: rest) (hroom : (rest.map fun v => v.category).sum ≤ 8) (hdg : decode cc pc = .ok (.invokevirtual idx, 3)) (hcs : cells ≤ R.cells ∧ slots ≤ R.slots) :
    va_Run p l e R s m args below meth c H locs cells slots 0 0 (F0 m pc ls st0) rest (Qc H.size (Value.ref (sd i).1 :: As).toArray) (fun q => H.size ≤ q) :=
  va_runV (As := As) (rest := rest) S (hM H.size) (cwV As.length S.2.2.2.2 (gkV hw.1.1 hw.1.2.1 hw.1.2.2.1 hw.1.2.2.2.1 hw.1.2.2.2.2) rfl rfl rfl hw.2 hR) ⟨PrePS.blind, vk_recv hQ.1 hi hS, prePS hK hQ hS hA⟩ rfl rfl hsz hst (lv_room hroom) hdg hcs
theorem runSS {ret : Option FieldType} {Qc : Nat → Array Value → State → Outcome → State → Prop} (S : CF p m c cc nL s args own) (hM : ∀ sz : Nat, Met l y (wk y b n ret) (rmk fr 0 0) (PrePS L sd G tys As [] sz) (Qc sz) 0 0 (fun q => sz ≤ q)) (hw : okT own idx y b n ret As.length) (hR : fr + 1 ≤ R.frames ∧ 8 + (n + 11) + 60 * fr ≤ R.locals) (hK : KK G tys s) (hQ : SQ L sd A s s.heap) (hS : va_S A s.heap H locs) (hA : ∀ q : Nat, s.heap.size ≤ q → A q) (hsz : ls.size = nL) (hst : st0 = As.reverse ++ rest) (hroom : (rest.map fun v => v.category).sum ≤ 8) (hdg : decode cc pc = .ok (.invokestatic idx, 3)) (hcs : cells ≤ R.cells ∧ slots ≤ R.slots) :
    va_Run p l e R s m args below meth c H locs cells slots 0 0 (F0 m pc ls st0) rest (Qc H.size As.toArray) (fun q => H.size ≤ q) :=
  va_runS (As := As) (rest := rest) S (hM H.size) ⟨callB_of As.length S.2.2.2.2 (gk hw.1.2.2.2) rfl rfl rfl (S.2.2.2.2 _ hw.1.2.2.1) (S.2.2.2.2 _ hw.1.1) hw.2 hR, S.2.2.2.2 _ hw.1.2.1⟩ ⟨PrePS.blind, prePS hK hQ hS hA⟩ rfl rfl hsz hst (lv_room hroom) hdg hcs
/-- a method of ours that takes words of the text and writes nothing -/
theorem runVPS {ret : Option FieldType} {Qc : Nat → Array Value → State → Outcome → State → Prop} (S : CF p m c cc nL s args own) (hM : ∀ sz : Nat, Met l y (wk y b n ret) (rmk fr 0 0) (PrePS L sd G tys (.ref o :: As) wd sz) (Qc sz) 0 0 (fun q => sz ≤ q)) (hw : okV own C idx y b n ret As.length) (hR : fr + 1 ≤ R.frames ∧ 8 + (n + 11) + 60 * fr ≤ R.locals) (hK : KK G tys s) (hP : va_P G vwCl ws H) (hQ : SQ L sd A s s.heap) (hS : va_S A s.heap H locs) (hA : ∀ q : Nat, s.heap.size ≤ q → A q) (is : List Nat) (hs : is.filterMap (fun i => ws[i]?) = wd) (q0 : Nat) {ci : Nat} {T : u_T} {N : Nat} {fs : List Value} (he : ws[q0]? = some (o, .inr (ci, fs))) (hc : vwCl[ci]? = some (C, T, N)) (hsz : ls.size = nL) (hst : st0 = As.reverse ++ .ref o :: rest) (hroom : (rest.map fun v => v.category).sum ≤ 8) (hdg : decode cc pc = .ok (.invokevirtual idx, 3)) (hcs : cells ≤ R.cells ∧ slots ≤ R.slots) :
    va_Run p l e R s m args below meth c H locs cells slots 0 0 (F0 m pc ls st0) rest (Qc H.size (Value.ref o :: As).toArray) (fun q => H.size ≤ q) :=
  va_runV (As := As) (rest := rest) S (hM H.size) (cwV As.length S.2.2.2.2 (gkV hw.1.1 hw.1.2.1 hw.1.2.2.1 hw.1.2.2.2.1 hw.1.2.2.2.2) rfl rfl rfl hw.2 hR) ⟨PrePS.blind, va_recv hK.1 hP hc he, fun U hU hW => ⟨rfl, ⟨by rw [hU], by rw [hU]; exact hP.sub is hs, KK.warm hW hK⟩, by rw [hU]; exact hQ.go hS hW (fun q hq => hA q (Nat.le_trans hS.1 hq))⟩⟩ rfl rfl hsz hst (lv_room hroom) hdg hcs
/-- a method of ours that takes words of the text -/
theorem runVDS {ret : Option FieldType} {Qc : (Nat → Prop) → Array Value → State → Outcome → State → Prop} (S : CF p m c cc nL s args own) (hM : ∀ sz : Nat, Met l y (wk y b n ret) (rmk fr mc ms) (PreDS L sd G tys (.ref o :: As) wd sz) (Qc (va_A wd sz)) mc ms (va_A wd sz)) (hw : okV own C idx y b n ret As.length) (hR : fr + 1 ≤ R.frames ∧ 8 + (n + 11) + 60 * fr ≤ R.locals) (hK : KK G tys s) (hP : va_P G vwCl ws H) (hD : va_D A ws) (hQ : SQ L sd A s s.heap) (hS : va_S A s.heap H locs) (hA : ∀ q : Nat, s.heap.size ≤ q → A q) (isC : List Nat) (hs : isC.filterMap (fun i => ws[i]?) = wd) (hn : va_nd isC = true) (hC : isC.map (fun i => ws[i]?) = wd.map some) (q0 : Nat) {ci : Nat} {T : u_T} {N : Nat} {fs : List Value} (he : ws[q0]? = some (o, .inr (ci, fs))) (hc : vwCl[ci]? = some (C, T, N)) (hsz : ls.size = nL) (hst : st0 = As.reverse ++ .ref o :: rest) (hroom : (rest.map fun v => v.category).sum ≤ 8) (hdg : decode cc pc = .ok (.invokevirtual idx, 3)) (hcs : cells + mc ≤ R.cells ∧ slots + ms ≤ R.slots) :
    va_Run p l e R s m args below meth c H locs cells slots mc ms (F0 m pc ls st0) rest (Qc (va_A wd H.size) (Value.ref o :: As).toArray) (va_A wd H.size) :=
  va_runV (As := As) (rest := rest) S (hM H.size) (cwV As.length S.2.2.2.2 (gkV hw.1.1 hw.1.2.1 hw.1.2.2.1 hw.1.2.2.2.1 hw.1.2.2.2.2) rfl rfl rfl hw.2 hR) ⟨PreDS.blind, va_recv hK.1 hP hc he, fun U hU hW => ⟨rfl, ⟨by rw [hU], by rw [hU]; exact hP.sub isC hs, KK.warm hW hK, (hD.sub isC hn hC).weaken (fun _ _ _ _ => trivial)⟩, by rw [hU]; exact hQ.go hS hW (va_free (wc := wd) hD hS hA isC hC)⟩⟩ rfl rfl hsz hst (lv_room hroom) hdg hcs
theorem behRv {a : Array Value} (hr : va_Run p l e R s m args below meth c H locs cells slots 0 0 (F0 m pc ls st0) rest (QRv H.size a) (fun q => H.size ≤ q)) (hP : va_P G vwCl ws H) (hS : va_S A H0 H locs) (hA : ∀ q : Nat, H0.size ≤ q → A q)
    (kk : ∀ (H1 : Heap) (locs1 : List Loc), va_P G vwCl ws H1 → va_S A H0 H1 locs1 → W p l e R s m args below meth c H1 locs1 cells slots Q (F0 m (pc + 3) ls rest)) : W p l e R s m args below meth c H locs cells slots Q (F0 m pc ls st0) := by
  refine va_callv (A1 := fun q => H.size ≤ q) hr hS (fun q h1 h2 => absurd h1 (Nat.not_lt.mpr h2)) (fun q h => hA q (Nat.le_trans hS.1 h)) (fun u t H1 locs1 ht' hvm hw' hB hz hk hS' => ?_)
  exact kk H1 locs1 (hP.kept (fun k q hq => hk q.1 ((hP k q hq).lt) (Nat.not_le.mpr (hP k q hq).lt))) hS'
theorem retRn {P : Int32 → Prop} {ty : FieldType} {v : Int32} {ls : Array Slot} (hx : p.tables.exec = Jvm.exec) (hb : c.code = cc) (hr : meth.sig.returnType = some ty) (hlk : meth.locks = false) (hS : va_S (fun q => s.heap.size ≤ q) s.heap H locs) (hdg : decode cc pc = .ok (.ireturn, 1)) (hn : narrow ty (.int v) = .int v) (e9 : P v) : W p l e R s m args below meth c H locs 0 0 (MQ below (QRi P s.heap.size) args s 0 0 (fun q => s.heap.size ≤ q)) (F0 m pc ls [.int v]) :=
  W.zret hx hb hr hn (fun t ht hW => ⟨⟨v, (), rfl, e9, trivial⟩, hS.F ht⟩) hS.2.2 hdg hlk
theorem retRv {ls : Array Slot} (hx : p.tables.exec = Jvm.exec) (hb : c.code = cc) (hr : meth.sig.returnType = none) (hlk : meth.locks = false) (hS : va_S (fun q => s.heap.size ≤ q) s.heap H locs) (hdg : decode cc pc = .ok (.return_, 1)) : W p l e R s m args below meth c H locs 0 0 (MQ below (QRv s.heap.size) args s 0 0 (fun q => s.heap.size ≤ q)) (F0 m pc ls []) :=
  W.vret hx hb hr (fun t ht hW => ⟨⟨(), rfl, trivial, trivial⟩, hS.F ht⟩) hS.2.2 hdg hlk
end KStr
theorem charN {v : Int32} (h : 0 ≤ v.toInt ∧ v.toInt ≤ 255) : (v.toUInt32 % 65536).toInt32 = v ∧ narrow .char (.int v) = .int v := by
  have z : ∀ j : Fin 256, ((nI j.val).toUInt32 % 65536).toInt32 = nI j.val ∧ (nI j.val).toUInt32.toUInt16.toUInt32.toInt32 = nI j.val := by decide +kernel
  have c := clK (i := v) rfl h.1
  have k := z ⟨v.toNatClampNeg, by omega⟩
  have e : nI v.toNatClampNeg = v := nIc h.1
  have k1 : ((nI v.toNatClampNeg).toUInt32 % 65536).toInt32 = nI v.toNatClampNeg ∧ (nI v.toNatClampNeg).toUInt32.toUInt16.toUInt32.toInt32 = nI v.toNatClampNeg := k
  rw [e] at k1
  exact ⟨k1.1, congrArg Value.int k1.2⟩
theorem lenB : ∀ i : Fin 15, lenS.getD i.val 0 ≤ 6 ∧ 2 ≤ lenS.getD i.val 0 := by decide
theorem lenSh : ∀ i : Fin 15, (Int32.ofNat (lenS.getD i.val 0) >>> ((0 : Int32) &&& 31)).toInt = ((lenS.getD i.val 0 : Nat) : Int) := by decide +kernel
theorem lenI : ∀ i : Fin 15, (Int32.ofNat (lenS.getD i.val 0)).toInt = ((lenS.getD i.val 0 : Nat) : Int) := by decide +kernel
def chS (i k : Nat) : Int32 := (bytS.getD i []).getD k 0 &&& 255
/-- so far the word is the i-th -/
def MT (t : Nat → Int32) (fr : Int32) (i : Nat) (x : Int) : Prop := ∀ j : Nat, (j : Int) < x → t (fr.toNatClampNeg + j) = chS i j
def ISx (a fr tok : Int32) (t : Nat → Int32) (i : Nat) : Prop := tok.toInt = 1 ∧ a.toInt - fr.toInt = ((lenS.getD i 0 : Nat) : Int) ∧ MT t fr i ((lenS.getD i 0 : Nat) : Int)
def CO (a fr tok fk : Int32) (i : Nat) : Prop := fk.toInt = 0 ∧ tok.toInt = 1 ∧ a.toInt - fr.toInt = ((lenS.getD i 0 : Nat) : Int)
def LI (a fr tok fk : Int32) (t : Nat → Int32) (i : Nat) (is : Int32) (x : Int) : Prop := (is.toInt = 1 ∧ CO a fr tok fk i ∧ MT t fr i x) ∨ (is.toInt = 0 ∧ ¬ (fk.toInt = 0 ∧ ISx a fr tok t i))
theorem LI0 {a fr tok fk : Int32} {t : Nat → Int32} {i : Nat} {is : Int32} {x : Int} (hx : x ≤ 0) (h : (is.toInt = 1 ∧ CO a fr tok fk i) ∨ (is.toInt = 0 ∧ ¬ CO a fr tok fk i)) : LI a fr tok fk t i is x := by
  rcases h with ⟨h1, h2⟩ | ⟨h1, h2⟩
  · exact Or.inl ⟨h1, h2, fun j hj => absurd hj (by omega)⟩
  · exact Or.inr ⟨h1, fun q => h2 ⟨q.1, q.2.1, q.2.2.1⟩⟩
theorem LIs {a fr tok fk : Int32} {t : Nat → Int32} {i : Nat} {is is' k k' tv ch : Int32} (h : LI a fr tok fk t i is k.toInt) (h1 : ¬ is.toInt = 0) {n : Nat} (htv : tv = t n) (hn : n = fr.toNatClampNeg + k.toNatClampNeg) (hch : ch = chS i k.toNatClampNeg) (hs : (is'.toInt = 1 ∧ tv.toInt = ch.toInt) ∨ (is'.toInt = 0 ∧ ¬ tv.toInt = ch.toInt)) (hk : 0 ≤ k.toInt ∧ k.toInt < ((lenS.getD i 0 : Nat) : Int)) (hk' : k'.toInt = k.toInt + 1) : LI a fr tok fk t i is' k'.toInt := by
  have c := clK (i := k) rfl hk.1
  rcases h with ⟨_, h2, h3⟩ | ⟨h2, _⟩
  · rcases hs with ⟨s1, s2⟩ | ⟨s1, s2⟩
    · refine Or.inl ⟨s1, h2, fun j hj => ?_⟩
      by_cases e : j = k.toNatClampNeg
      · rw [e, ← hn, ← htv, ← hch]; exact Int32.toInt_inj.mp s2
      · exact h3 j (by omega)
    · refine Or.inr ⟨s1, fun q => s2 ?_⟩
      have z := q.2.2.2 k.toNatClampNeg (by omega)
      rw [← hn, ← htv, ← hch] at z
      rw [z]
  · exact absurd h2 h1
theorem LIc {a fr tok fk : Int32} {t : Nat → Int32} {i : Nat} {is : Int32} {x : Int} (h : LI a fr tok fk t i is x) (h1 : ¬ is.toInt = 0) : fk.toInt = 0 ∧ tok.toInt = 1 ∧ a.toInt - fr.toInt = ((lenS.getD i 0 : Nat) : Int) := by
  rcases h with h | h
  · exact h.2.1
  · exact absurd h.1 h1
theorem LIr {a fr tok fk : Int32} {t : Nat → Int32} {i : Nat} {is : Int32} {x : Int} (h : LI a fr tok fk t i is x) (hx : ((lenS.getD i 0 : Nat) : Int) ≤ x ∨ is.toInt = 0) : (is.toInt = 1 ∧ fk.toInt = 0 ∧ ISx a fr tok t i) ∨ (is.toInt = 0 ∧ ¬ (fk.toInt = 0 ∧ ISx a fr tok t i)) := by
  rcases h with ⟨h1, h2, h3⟩ | h
  · rcases hx with hx | hx
    · exact Or.inl ⟨h1, h2.1, h2.2.1, h2.2.2, fun j hj => h3 j (by omega)⟩
    · omega
  · exact Or.inr h
theorem ISl {a fr tok : Int32} {t : Nat → Int32} {i : Nat} (h : ISx a fr tok t i) (hi : i < 15) : tok.toInt = 1 ∧ fr.toInt < a.toInt := by
  have z := lenB ⟨i, hi⟩
  have z2 : 2 ≤ lenS.getD i 0 := z.2
  have h1 := h.1
  have h2 := h.2.1
  omega
def ISP (r fk a fr tok : Int32) (t : Nat → Int32) (i : Nat) : Prop := (r.toInt = 1 ∧ fk.toInt = 0 ∧ ISx a fr tok t i) ∨ (r.toInt = 0 ∧ ¬ (fk.toInt = 0 ∧ ISx a fr tok t i))
theorem ISP1 {r fk a fr tok : Int32} {t : Nat → Int32} {i : Nat} (h : ISP r fk a fr tok t i) (h1 : ¬ r.toInt = 0) : fk.toInt = 0 ∧ ISx a fr tok t i := by
  rcases h with h | h
  · exact h.2
  · exact absurd h.1 h1
theorem ISP0 {r fk a fr tok : Int32} {t : Nat → Int32} {i : Nat} (h : ISP r fk a fr tok t i) (h1 : r.toInt = 0) : ¬ (fk.toInt = 0 ∧ ISx a fr tok t i) := by
  rcases h with h | h
  · have := h.1; omega
  · exact h.2
/-- a word is taken, or nothing happens -/
def TKP (r fk a fr tok a' fr' tok' : Int32) (t : Nat → Int32) (i : Nat) : Prop := (r.toInt = 1 ∧ fk.toInt = 0 ∧ ISx a fr tok t i) ∨ (r.toInt = 0 ∧ a' = a ∧ fr' = fr ∧ tok' = tok)
theorem TKP1 {r fk a fr tok a' fr' tok' : Int32} {t : Nat → Int32} {i : Nat} (h : TKP r fk a fr tok a' fr' tok' t i) (h1 : ¬ r.toInt = 0) : fk.toInt = 0 ∧ ISx a fr tok t i := by
  rcases h with h | h
  · exact h.2
  · exact absurd h.1 h1
theorem TKP0 {r fk a fr tok a' fr' tok' : Int32} {t : Nat → Int32} {i : Nat} (h : TKP r fk a fr tok a' fr' tok' t i) (h1 : r.toInt = 0) : a' = a ∧ fr' = fr ∧ tok' = tok := by
  rcases h with h | h
  · have := h.1; omega
  · exact h.2
def WGk (fk : Int32) (g : Nat → Int32) : Prop := fk.toInt = 0 → WG g
def NOT7 (fk a fr tok : Int32) (t : Nat → Int32) (i : Nat) (x : Int32) (n : Int) : Prop := fk.toInt = 0 → ISx a fr tok t i → ¬ x.toInt = n
/-! what the parser's methods say of its state: words that omega passes by -/
def PIk (a f t : Int32) : Prop := (t.toInt = 0 ∨ f.toInt < a.toInt) ∧ f.toInt ≤ a.toInt
def MOk (fk' fk : Int32) : Prop := fk'.toInt = 0 → fk.toInt = 0
def NDk (fk' fk f f' : Int32) : Prop := fk'.toInt = 0 → fk.toInt = 0 ∧ f.toInt < f'.toInt
def NMk (fk' fk f f' r : Int32) (lo hi : Int) : Prop := fk'.toInt = 0 → fk.toInt = 0 ∧ f.toInt < f'.toInt ∧ lo ≤ r.toInt ∧ r.toInt ≤ hi
def RBk (r : Int32) (lo hi : Int) : Prop := r.toInt = 0 ∨ (lo ≤ r.toInt ∧ r.toInt ≤ hi)
theorem RBb {r : Int32} {lo hi A B : Int} (h : RBk r lo hi) (h1 : A ≤ 0 ∧ A ≤ lo) (h2 : 0 ≤ B ∧ hi ≤ B) : A ≤ r.toInt ∧ r.toInt ≤ B := by
  rcases h with h | h <;> omega
theorem NMt {fk2 fk1 fk0 f0 f1 f2 r : Int32} {lo hi : Int} (hn : NMk fk2 fk1 f1 f2 r lo hi) (hd : NDk fk1 fk0 f0 f1) : NMk fk2 fk0 f0 f2 r lo hi := fun q => by
  have h1 := hn q
  have h2 := hd h1.1
  exact ⟨h2.1, by omega, h1.2.2⟩
def SRM : List (String × Nat × String × Nat) := [("CallForBrownModel", 209, "house", 0), ("CallForBrownModel", 211, "moves", 1), ("CallForBrownModel", 213, "here", 2), ("CallForBrownModel", 215, "worth", 3), ("CallForBrownModel", 217, "price", 4), ("CallForBrownModel", 189, "room", 5), ("CallForBrownModel", 191, "door", 9), ("CallForBrownModel", 193, "man", 10), ("CallForBrownModel", 195, "slate", 13), ("CallForBrownModel", 167, "people", 6), ("CallForBrownModel", 173, "hears", 7), ("CallForBrownModel", 175, "sits", 8), ("CallForBrownModel", 180, "weighs", 11), ("CallForBrownModel", 182, "yes", 12), ("CallForBrownModel", 187, "as", 14)]
def SRR : List (String × Nat × String × Nat) := [("CallForBrown$Reader", 46, "house", 0), ("CallForBrown$Reader", 83, "moves", 1), ("CallForBrown$Reader", 91, "here", 2), ("CallForBrown$Reader", 95, "worth", 3), ("CallForBrown$Reader", 99, "price", 4), ("CallForBrown$Reader", 59, "room", 5), ("CallForBrown$Reader", 106, "people", 6), ("CallForBrown$Reader", 112, "hears", 7), ("CallForBrown$Reader", 114, "sits", 8), ("CallForBrown$Reader", 64, "door", 9), ("CallForBrown$Reader", 69, "man", 10), ("CallForBrown$Reader", 131, "weighs", 11), ("CallForBrown$Reader", 133, "yes", 12), ("CallForBrown$Reader", 74, "slate", 13), ("CallForBrown$Reader", 142, "as", 14)]
