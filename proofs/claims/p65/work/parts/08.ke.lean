section KE
variable {p : Program} {l : Launch} {e : Env} {R : Room} {s : State} {m : MethodId} {args : Array Value} {below : List Frame} {meth : Method} {c : Code} {H : Heap} {locs : List Loc} {cells slots : Nat} {Q : State → Prop}
variable {cc : ByteArray} {pc : Nat} {ls : Array Slot} {rest : List Value} {G : va_G} {A : Nat → Prop} {tys : List (ClassId × FieldType)} {ws : va_W} {H0 : Heap} {own : String} {idx : Nat}
theorem mna_up (r : Nat → Nat) : (fun i => if i < 5 then some (r i) else none) = va_up (va_up (va_up (va_up (va_up (fun _ => none) 0 (some (r 0))) 1 (some (r 1))) 2 (some (r 2))) 3 (some (r 3))) 4 (some (r 4)) := funext fun i => by
  unfold va_up
  by_cases h : i < 5
  · rcases (show i = 0 ∨ i = 1 ∨ i = 2 ∨ i = 3 ∨ i = 4 by omega) with rfl | rfl | rfl | rfl | rfl <;> rfl
  · rw [if_neg h, if_neg (show ¬ i = 4 by omega), if_neg (show ¬ i = 3 by omega), if_neg (show ¬ i = 2 by omega), if_neg (show ¬ i = 1 by omega), if_neg (show ¬ i = 0 by omega)]
/-- the inner rows, one by one -/
theorem mna_rows (f : Nat → va_E) (v : va_E) (r : Nat → Nat) : va_pl ([] ++ (List.range 5).map r) (vr_up f ((List.range 5).map r) v) = [(r 0, v), (r 1, v), (r 2, v), (r 3, v), (r 4, v)] := by
  have e : (List.range 5).map r = [r 0, r 1, r 2, r 3, r 4] := rfl
  rw [e]
  unfold va_pl
  show [(r 0, _), (r 1, _), (r 2, _), (r 3, _), (r 4, _)] = _
  rw [vr_up_in (show r 0 ∈ [r 0, r 1, r 2, r 3, r 4] by simp), vr_up_in (show r 1 ∈ [r 0, r 1, r 2, r 3, r 4] by simp), vr_up_in (show r 2 ∈ [r 0, r 1, r 2, r 3, r 4] by simp), vr_up_in (show r 3 ∈ [r 0, r 1, r 2, r 3, r 4] by simp), vr_up_in (show r 4 ∈ [r 0, r 1, r 2, r 3, r 4] by simp)]
/-- new int[5][k]: the outer array and its rows -/
theorem mnaK (t0 t1 : Nat) {cA cQ : ClassId} (hx : p.tables.exec = Jvm.exec) (hb : c.code = cc) (ht : ∀ w ∈ tb, w.before args s = true) (hown : s.vm.findClass own = some m.cls) (hK : KK G tys s) (hP : va_P G vwCl ws H) (hD : va_D A ws) (hS : va_S A H0 H locs) (hA : ∀ q : Nat, H0.size ≤ q → A q) (hw : Cond.classLink own idx ("[" ++ (FieldType.array .int).toString) ∈ tb ∧ Cond.arrayOver (.array .int) ∈ lw_tbl ∧ Cond.arrayClass .int ∈ tb) (ht0 : tys[t0]? = some (cA, .int)) (ht1 : tys[t1]? = some (cQ, .array .int)) {n k : Int32} {K' : Nat} (hn : ¬ n < 0) (hk : ¬ k < 0) (hN : n.toNatClampNeg = 5) (hM : k.toNatClampNeg = K') (hb2 : K' * 4 ≤ 536870912) (hb3 : K' ≤ 536870912) (hcells : cells + (1 + 5) ≤ R.cells) (hslots : slots + (5 + 5 * K') ≤ R.slots) (hdg : decode cc pc = .ok (.multianewarray idx 2, 4))
    (kk : ∀ (q : Nat) (r : Nat → Nat) (H1 : Heap), va_P G vwCl (ws ++ [(q, .inl (cQ, 5, .inr (.inr (.inr (.inr (va_up (va_up (va_up (va_up (va_up (fun _ => none) 0 (some (r 0))) 1 (some (r 1))) 2 (some (r 2))) 3 (some (r 3))) 4 (some (r 4)))))))), (r 0, .inl (cA, K', .inl (fun _ => 0))), (r 1, .inl (cA, K', .inl (fun _ => 0))), (r 2, .inl (cA, K', .inl (fun _ => 0))), (r 3, .inl (cA, K', .inl (fun _ => 0))), (r 4, .inl (cA, K', .inl (fun _ => 0)))]) H1 → va_D A (ws ++ [(q, .inl (cQ, 5, .inr (.inr (.inr (.inr (va_up (va_up (va_up (va_up (va_up (fun _ => none) 0 (some (r 0))) 1 (some (r 1))) 2 (some (r 2))) 3 (some (r 3))) 4 (some (r 4)))))))), (r 0, .inl (cA, K', .inl (fun _ => 0))), (r 1, .inl (cA, K', .inl (fun _ => 0))), (r 2, .inl (cA, K', .inl (fun _ => 0))), (r 3, .inl (cA, K', .inl (fun _ => 0))), (r 4, .inl (cA, K', .inl (fun _ => 0)))]) → va_S A H0 H1 locs → W p l e R s m args below meth c H1 locs (cells + 6) (slots + (5 + 5 * K')) Q (F0 m (pc + 4) ls (.ref q :: rest))) : W p l e R s m args below meth c H locs cells slots Q (F0 m pc ls (.int k :: .int n :: rest)) := by
  refine va_mna (X := ws) (L := []) (f := fun _ => .inl (cA, 0, .inl (fun _ => 0))) (ty := .int) (cy := cA) (z := (K', .inl (fun _ => 0))) hx hb hown (ht _ hw.1) (hK.2.2.2 _ hw.2.1) (ht _ hw.2.2) (hK.1.2 t0 _ ht0).2.find hK.1 (by simpa [va_pl] using hP) (by simpa [va_pl] using hD) hS hA hn hk hN hM (by decide) hb2 hb3 rfl rfl hcells hslots (fun c => arrV_new c K' _) hdg (fun q r cB H1 _ _ hK1 hP1 hD1 hS1 => ?_)
  have e1 := (hK1.2 tys.length (cB, .array .int) (by rw [List.getElem?_append_right (Nat.le_refl _), Nat.sub_self]; rfl)).2.find
  have e2 := (hK.1.2 t1 _ ht1).2.find
  cases e1.symm.trans e2
  rw [mna_rows, mna_up, List.append_assoc] at hP1 hD1
  have k1 := kk q r H1 hP1 hD1 hS1
  rw [show cells + 1 + 5 = cells + 6 by omega, show slots + 5 + 5 * K' = slots + (5 + 5 * K') by omega]
  exact k1
end KE
