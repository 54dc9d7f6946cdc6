/-! THE CLAIM OUT OF ONE WALK OF THE LAW'S BODY. Your part is whole_start (and what it stands on); all else here is the same for every law, but numbers. -/
def R_law : String := "CallForBrownLaw"
def lw_P (b : Addr) (xs : List Int32) (args : Array Value) (s : State) : Prop := args = #[.ref b] ∧ s.IntsAt b xs ∧ xs.length ≤ 6 ∧ (Jvm.Cond.and given_1 narrow_1).before args s = true
def lw_Q (_ : Array Value) (s : State) (o : Outcome) (t : State) : Prop := o = .returned (some (.int 1)) ∧ Framed s o t [] 600000 7302250
def lw_Z (below : List Frame) (a : Array Value) (s : State) : State → Prop := fun t => ∃ o, t.status = .running ∧ Ended t below o ∧ lw_Q a s o t
/-- the law's own end, with 1 on the stack, nothing written that was there before, its room as the claim has it -/
theorem lw_ret {p : Program} {l : Launch} {e : Env} {s : State} {m : MethodId} {below : List Frame} {meth : Method} {c : Code} {b : Nat} (hx : p.tables.exec = Jvm.exec) (hb : c.code = code) (hr : meth.sig.returnType = ret) (hlocks : meth.locks = false) {pc : Nat} {H : Heap} {ls : Array Slot} (hdg : decode code pc = .ok (.ireturn, 1)) : W p l e room_1 s m #[Value.ref b] below meth c H [] 600000 7302250 (lw_Z below #[Value.ref b] s) (F0 m pc ls [.int 1]) := by
  intro T hT X
  obtain ⟨fs, hret, hrun, hended, hW, hframe⟩ := X.leave (v := some (.int 1)) (hlocks := hlocks) (fun h => by rw [hr] at h; cases h)
  have hmeth' : T.vm.method? m = some meth := X.method'
  refine ⟨T.setFrames fs, ?_, .returned (some (.int 1)), hrun, hended, rfl, ⟨_, rfl⟩, hW, hframe⟩
  jvm_step X.here [X.here.top, hx, hb, hdg, hmeth', hr, ret, narrow_b1]
  (try refine ⟨rfl, ?_⟩); (try refine ⟨rfl, ?_⟩)
  first | (intro acts; rw [hret _ acts rfl rfl rfl]) | rw [hret _ _ rfl rfl rfl]
  exact Steps.refl _
/-- what holds at the law's entry: the machine, the code, the tables' words (any of lw_tbl by 'hts w (by decide +kernel)'), the script of L ints xs at the cell b, what the Statement gives of the start (any of its parts by flat_of_before) -/
def lw_At (p : Program) (s : State) (m : MethodId) (meth : Method) (c : Code) (b L : Nat) (xs : Nat → Int32) : Prop :=
  p.tables.exec = Jvm.exec ∧ c.code = code ∧ meth.sig.returnType = ret ∧ c.maxLocals = 4 ∧ s.vm.findClass R_law = some m.cls ∧ (∀ w ∈ lw_tbl, w.before #[Value.ref b] s = true) ∧ va_X b L xs s s.heap ∧ b < s.heap.size ∧ meth.locks = false ∧ (Jvm.Cond.and given_1 narrow_1).before #[Value.ref b] s = true
set_option maxRecDepth 100000 in
set_option maxHeartbeats 4000000 in
theorem law_tail {p : Program} {e : Env} {s : State} {m : MethodId} {below : List Frame} {meth : Method} {c : Code} (l : Launch) {b : Nat} {xs : Nat → Int32} {H : Heap} {locs : List Loc} {ls : Array Slot} {cells slots : Nat} (C0 : lw_At p s m meth c b 6 xs) (hS : va_S (fun q : Nat => s.heap.size ≤ q) s.heap H locs) (hl : lv_has ls 4 [(3, .int 0), (0, .ref b)]) (hc : cells ≤ 600000) (hs : slots ≤ 7302250) : W p l e room_1 s m #[Value.ref b] below meth c H locs cells slots (lw_Z below #[Value.ref b] s) (F0 m 2158 ls []) := by
  obtain ⟨hx, hb, hr, hml, hown, hts, hX, hbl, hlocks, hgv⟩ := id C0
  have hown : s.vm.findClass RL = some m.cls := hown
  have ht : ∀ w ∈ tb, w.before #[Value.ref b] s = true := fun w h => hts w (List.mem_filter.mp h).1
  have hbA : ¬ (fun q : Nat => s.heap.size ≤ q) b := Nat.not_le.mpr hbl
  refine lv_iinc (v := 6) (lv' := [(3, .int 6), (0, .ref b)]) hx hb dL_law_2158 hl (k := 0) rfl (by decide) (by decide) rfl (fun ls hl => ?_)
  refine lv_goto (tgt := 18) hx hb dL_law_2161 (by decide) ?_
  refine lv_iload_n hx hb dL_law_18 rfl (lv_at hl 0 rfl) ?_
  refine lv_aload_n hx hb dL_law_19 rfl (lv_at hl 1 rfl) ?_
  refine va_slen hx hb hX hbl hbA hS dL_law_20 ?_
  refine lv_bipush (v := 6) hx hb dL_law_21 (by decide) ?_
  refine lv_isub hx hb dL_law_23 ?_
  refine lv_icmp_gt (tgt := 2164) hx hb dL_law_24 (by decide) (fun _ => ?_) (fun c9 => False.elim (c9 (by decide)))
  refine lv_iconst (v := 1) hx hb dL_law_2164 (by decide) ?_
  refine va_forget (fun q hq => hS.2.2 q hq) ?_
  refine W.widen (k := 600000) (n := 7302250) hc hs ?_
  exact lw_ret hx hb hr hlocks dL_law_2165
set_option maxHeartbeats 4000000 in
theorem law_KK {s : State} {A : Array Value} (hts : ∀ w ∈ lw_tbl, w.before A s = true) : ∃ (G : va_G) (cs : Nat → ClassId), KK G (TY cs) s := by
  have ht : ∀ w ∈ tb, w.before A s = true := fun w h => hts w (List.mem_filter.mp h).1
  have hex : ∀ (k : Nat) (q : vw_C), vwCl[k]? = some q → ∃ (cC : ClassId) (iS : Nat → Nat), u_Kn s q.1 q.2.1 q.2.2 cC iS := by
    intro k q hq
    match k, hq with
    | 0, hq => cases hq; exact u_known ht iTX0 (ht _ inst_X0)
    | 1, hq => cases hq; exact u_known ht iTX1 (ht _ inst_X1)
    | 2, hq => cases hq; exact u_known ht iTX2 (ht _ inst_X2)
    | 3, hq => cases hq; exact u_known ht iTX3 (ht _ inst_X3)
    | 4, hq => cases hq; exact u_known ht iTX4 (ht _ inst_X4)
    | 5, hq => cases hq; exact u_known ht iTX5 (ht _ inst_X5)
    | 6, hq => cases hq; exact u_known ht iTX6 (ht _ inst_X6)
    | 7, hq => cases hq; exact u_known ht iTX7 (ht _ inst_X7)
    | 8, hq => cases hq; exact u_known ht iTX8 (ht _ inst_X8)
    | 9, hq => cases hq; exact u_known ht iTX9 (ht _ inst_X9)
    | 10, hq => cases hq; exact u_known ht iTX10 (ht _ inst_X10)
    | 11, hq => cases hq; exact u_known ht iTX11 (ht _ inst_X11)
    | k + 12, hq => simp [vwCl] at hq
  obtain ⟨c0, _, _⟩ := hex 0 _ rfl
  have hch : ∀ k : Nat, ∃ z : ClassId × (Nat → Nat), ∀ q : vw_C, vwCl[k]? = some q → u_Kn s q.1 q.2.1 q.2.2 z.1 z.2 := by
    intro k
    cases hk : vwCl[k]? with
    | none => exact ⟨(c0, fun _ => 0), fun q h => by cases h⟩
    | some q =>
      obtain ⟨a, i, h⟩ := hex k q hk
      exact ⟨(a, i), fun q' h' => by cases h'; exact h⟩
  obtain ⟨cI, kI, mI, I1, I2, I3⟩ := Cond.arrayClass_spec (ht _ ac_int)
  have aI : ArrOfT s cI .int ∧ va_RA s cI .int := ⟨fun n z => ⟨fun k h => (by cases h), kI, I2, mI, I3⟩, I1⟩
  obtain ⟨cB, kB, mB, B1, B2, B3⟩ := Cond.arrayClass_spec (ht _ ac_byte)
  have aB : ArrOfT s cB .byte ∧ va_RA s cB .byte := ⟨fun n z => ⟨fun k h => (by cases h), kB, B2, mB, B3⟩, B1⟩
  obtain ⟨cJ, kJ, mJ, J1, J2, J3⟩ := Cond.arrayClass_spec (ht _ ac_long)
  have aJ : ArrOfT s cJ .long ∧ va_RA s cJ .long := ⟨fun n z => ⟨fun k h => (by cases h), kJ, J2, mJ, J3⟩, J1⟩
  obtain ⟨cZ, kZ, mZ, Z1, Z2, Z3⟩ := Cond.arrayClass_spec (ht _ ac_boolean)
  have aZ : ArrOfT s cZ .boolean ∧ va_RA s cZ .boolean := ⟨fun n z => ⟨fun k h => (by cases h), kZ, Z2, mZ, Z3⟩, Z1⟩
  obtain ⟨mS, cS, kS, S1, S2, S3, S4, S5⟩ := Cond.arrayOver_spec (hts _ ao_State)
  have aS : ArrOfT s cS (.object "CallForBrown$State") ∧ va_RA s cS (.object "CallForBrown$State") := ⟨fun n z => ⟨fun k h => (by cases h), kS, S3, mS, S4⟩, kS, mS, S3, S4, S1, S5⟩
  obtain ⟨mR, cR, kR, R1, R2, R3, R4, R5⟩ := Cond.arrayOver_spec (hts _ ao_Row)
  have aR : ArrOfT s cR (.object "CallForBrown$Row") ∧ va_RA s cR (.object "CallForBrown$Row") := ⟨fun n z => ⟨fun k h => (by cases h), kR, R3, mR, R4⟩, kR, mR, R3, R4, R1, R5⟩
  obtain ⟨mP, cP, kP, P1, P2, P3, P4, P5⟩ := Cond.arrayOver_spec (hts _ ao_Parts)
  have aP : ArrOfT s cP (.object "CallForBrown$Parts") ∧ va_RA s cP (.object "CallForBrown$Parts") := ⟨fun n z => ⟨fun k h => (by cases h), kP, P3, mP, P4⟩, kP, mP, P3, P4, P1, P5⟩
  refine ⟨(fun k => (Classical.choose (hch k)).1, fun k => (Classical.choose (hch k)).2), fun k => [cI, cB, cJ, cZ, cS, cR, cP].getD k cI, ⟨fun k q h => Classical.choose_spec (hch k) q h, fun k q hk => ?_⟩, fun a i x h hm => va_tabs rfl rfl (hts _ hm), fun C hm => va_AO.of (hts _ hm), fun ty hm => hts _ hm⟩
  match k, hk with
  | 0, hk => cases hk; exact aI
  | 1, hk => cases hk; exact aB
  | 2, hk => cases hk; exact aJ
  | 3, hk => cases hk; exact aZ
  | 4, hk => cases hk; exact aS
  | 5, hk => cases hk; exact aR
  | 6, hk => cases hk; exact aP
  | k + 7, hk => simp [TY] at hk
