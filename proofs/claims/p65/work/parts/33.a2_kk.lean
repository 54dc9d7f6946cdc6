set_option maxHeartbeats 4000000 in
theorem law_KK {s : State} {A : Array Value} (hts : ∀ w ∈ lw_tbl, w.before A s = true) : ∃ (G : va_G) (cs : Nat → ClassId), KK G (TY cs) s := by
  have ht : ∀ w ∈ tb, w.before A s = true := fun w h => hts w (List.mem_filter.mp h).1
  have hex : ∀ (k : Nat) (q : vw_C), vwCl[k]? = some q → ∃ (cC : ClassId) (iS : Nat → Nat), u_Kn s q.1 q.2.1 q.2.2 cC iS := by
    intro k q hq
    match k, hq with
    | 0, hq => cases hq; exact u_known ht iTX0 (ht _ inst_X0)
    | 1, hq => cases hq; exact u_known ht iTX1 (ht _ inst_X1)
    | 2, hq => cases hq; exact u_known ht iTX2 (ht _ inst_X2)
    | 3, hq => cases hq; exact u_known ht iTX3 (ht _ inst_X3)
    | 4, hq => cases hq; exact u_known ht iTX4 (ht _ inst_X4)
    | 5, hq => cases hq; exact u_known ht iTX5 (ht _ inst_X5)
    | 6, hq => cases hq; exact u_known ht iTX6 (ht _ inst_X6)
    | 7, hq => cases hq; exact u_known ht iTX7 (ht _ inst_X7)
    | 8, hq => cases hq; exact u_known ht iTX8 (ht _ inst_X8)
    | 9, hq => cases hq; exact u_known ht iTX9 (ht _ inst_X9)
    | 10, hq => cases hq; exact u_known ht iTX10 (ht _ inst_X10)
    | 11, hq => cases hq; exact u_known ht iTX11 (ht _ inst_X11)
    | k + 12, hq => simp [vwCl] at hq
  obtain ⟨c0, _, _⟩ := hex 0 _ rfl
  have hch : ∀ k : Nat, ∃ z : ClassId × (Nat → Nat), ∀ q : vw_C, vwCl[k]? = some q → u_Kn s q.1 q.2.1 q.2.2 z.1 z.2 := by
    intro k
    cases hk : vwCl[k]? with
    | none => exact ⟨(c0, fun _ => 0), fun q h => by cases h⟩
    | some q =>
      obtain ⟨a, i, h⟩ := hex k q hk
      exact ⟨(a, i), fun q' h' => by cases h'; exact h⟩
  obtain ⟨cI, kI, mI, I1, I2, I3⟩ := Cond.arrayClass_spec (ht _ ac_int)
  have aI : ArrOfT s cI .int ∧ va_RA s cI .int := ⟨fun n z => ⟨fun k h => (by cases h), kI, I2, mI, I3⟩, I1⟩
  obtain ⟨cB, kB, mB, B1, B2, B3⟩ := Cond.arrayClass_spec (ht _ ac_byte)
  have aB : ArrOfT s cB .byte ∧ va_RA s cB .byte := ⟨fun n z => ⟨fun k h => (by cases h), kB, B2, mB, B3⟩, B1⟩
  obtain ⟨cJ, kJ, mJ, J1, J2, J3⟩ := Cond.arrayClass_spec (ht _ ac_long)
  have aJ : ArrOfT s cJ .long ∧ va_RA s cJ .long := ⟨fun n z => ⟨fun k h => (by cases h), kJ, J2, mJ, J3⟩, J1⟩
  obtain ⟨cZ, kZ, mZ, Z1, Z2, Z3⟩ := Cond.arrayClass_spec (ht _ ac_boolean)
  have aZ : ArrOfT s cZ .boolean ∧ va_RA s cZ .boolean := ⟨fun n z => ⟨fun k h => (by cases h), kZ, Z2, mZ, Z3⟩, Z1⟩
  obtain ⟨mS, cS, kS, S1, S2, S3, S4, S5⟩ := Cond.arrayOver_spec (hts _ ao_State)
  have aS : ArrOfT s cS (.object "CallForBrown$State") ∧ va_RA s cS (.object "CallForBrown$State") := ⟨fun n z => ⟨fun k h => (by cases h), kS, S3, mS, S4⟩, kS, mS, S3, S4, S1, S5⟩
  obtain ⟨mR, cR, kR, R1, R2, R3, R4, R5⟩ := Cond.arrayOver_spec (hts _ ao_Row)
  have aR : ArrOfT s cR (.object "CallForBrown$Row") ∧ va_RA s cR (.object "CallForBrown$Row") := ⟨fun n z => ⟨fun k h => (by cases h), kR, R3, mR, R4⟩, kR, mR, R3, R4, R1, R5⟩
  obtain ⟨mP, cP, kP, P1, P2, P3, P4, P5⟩ := Cond.arrayOver_spec (hts _ ao_Parts)
  have aP : ArrOfT s cP (.object "CallForBrown$Parts") ∧ va_RA s cP (.object "CallForBrown$Parts") := ⟨fun n z => ⟨fun k h => (by cases h), kP, P3, mP, P4⟩, kP, mP, P3, P4, P1, P5⟩
  obtain ⟨mW, cW, kW, W1, W3, W4, W5⟩ := Cond.arrayOver_specA (hts _ ao_int2)
  have aW : ArrOfT s cW (.array .int) ∧ va_RA s cW (.array .int) := ⟨fun n z => ⟨fun k h => (by cases h), kW, W3, mW, W4⟩, W5⟩
  refine ⟨(fun k => (Classical.choose (hch k)).1, fun k => (Classical.choose (hch k)).2), fun k => [cI, cB, cJ, cZ, cS, cR, cP, cW].getD k cI, ⟨fun k q h => Classical.choose_spec (hch k) q h, fun k q hk => ?_⟩, fun a i x h hm => va_tabs rfl rfl (hts _ hm), fun C hm => va_AO.of (hts _ hm), fun ty hm => hts _ hm⟩
  match k, hk with
  | 0, hk => cases hk; exact aI
  | 1, hk => cases hk; exact aB
  | 2, hk => cases hk; exact aJ
  | 3, hk => cases hk; exact aZ
  | 4, hk => cases hk; exact aS
  | 5, hk => cases hk; exact aR
  | 6, hk => cases hk; exact aP
  | 7, hk => cases hk; exact aW
  | k + 8, hk => simp [TY] at hk
