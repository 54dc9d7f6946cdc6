theorem OF_inj {o n d : String} {v w : Value} {t : Nat} {A : Nat → Prop} {U : State} {H : Heap} (h : va_OF o n d v t A U H) (g : va_OF o n d w t A U H) : v = w := by
  obtain ⟨cf, k, i, f, cell, h1, h2, h3, h4, h5, h6⟩ := h
  obtain ⟨cf', k', i', f', cell', g1, g2, g3, g4, g5, g6⟩ := g
  have e1 := h1.symm.trans g1
  have e2 := h3.symm.trans g3
  cases e1
  cases e2
  exact Option.some.inj (h5.symm.trans g5)
theorem T_inj {ty : FieldType} {t N M : Nat} {f g : Nat → Value} {A : Nat → Prop} {U : State} {H : Heap} (h : va_T ty t N f A U H) (k : va_T ty t M g A U H) (hN : N < 100) (hM : M < 100) : N = M ∧ ∀ j : Nat, j < N → f j = g j := by
  obtain ⟨cell, h1, h2, h3, h4, h5, h6, h7⟩ := h
  obtain ⟨cell', k1, k2, k3, k4, k5, k6, k7⟩ := k
  have e := h1.symm.trans k1
  cases e
  have e5 := h5.symm.trans k5
  have en : N = M := by
    have q := congrArg Int32.toInt e5
    rw [Int32.toInt_ofNat_of_lt (by omega), Int32.toInt_ofNat_of_lt (by omega)] at q
    omega
  exact ⟨en, fun j hj => Option.some.inj ((h6 j hj).symm.trans (k6 j (by omega)))⟩
theorem strNe : ∀ i j : Fin 15, lenS.getD i 0 = lenS.getD j 0 → (∀ k : Fin 6, k.val < lenS.getD i 0 → (bytS.getD i []).getD k 0 = (bytS.getD j []).getD k 0) → i = j := by decide +kernel
theorem strLe : ∀ i : Fin 15, lenS.getD i 0 ≤ 6 := by decide +kernel
theorem strOne {args : Array Value} {s : State} {A : Nat → Prop} (tm : Term) (n : Nat) (bs : List Int32) (hn : n < 2 ^ 31) (hex : (Cond.exactly tm "java/lang/String").before args s = true) (hco : (Cond.eq (.field tm "java/lang/String" "coder" "B") (.int 0)).before args s = true) (har : (Cond.arrayOf (.field tm "java/lang/String" "value" "[B") .byte).before args s = true) (hle : (Cond.eq (.length (.field tm "java/lang/String" "value" "[B")) (.int (Int32.ofNat n))).before args s = true) (hel : ∀ j : Nat, j < n → (Cond.eq (.elem (.field tm "java/lang/String" "value" "[B") (.int (Int32.ofNat j))) (.int (bs.getD j 0))).before args s = true) (hA : ∀ a : Nat, a < s.heap.size → ¬ A a) :
    ∃ a t : Nat, tm.eval args s none [] s = some (.ref a) ∧ va_O "java/lang/String" a A s s.heap ∧ va_OF "java/lang/String" "coder" "B" (.int 0) a A s s.heap ∧ va_OF "java/lang/String" "value" "[B" (.ref t) a A s s.heap ∧ va_T .byte t n (fun j => .int (bs.getD j 0)) A s s.heap := by
  obtain ⟨adK, adV, h, hv⟩ := vk_Sof (N := 1) (tm := fun _ => tm) (len := [n]) (byt := [bs]) (A := A) (args := args) (s := s) (fun i hi => by rw [show i = 0 by omega]; exact hn) (fun i _ => hex) (fun i _ => hco) (fun i _ => har) (fun i hi => by rw [show i = 0 by omega]; exact hle) (fun i hi => by rw [show i = 0 by omega]; exact hel) (fun i j hi hj hij => absurd (show i = j by omega) hij) hA
  have h0 := h.1 0 (by decide)
  exact ⟨adK 0, adV 0, hv 0 (by decide), h0.1, h0.2.1, h0.2.2.1, h0.2.2.2⟩

set_option maxRecDepth 100000 in
set_option maxHeartbeats 8000000 in
theorem law_SQ {s : State} {b : Nat} (hts : ∀ w ∈ lw_tbl, w.before #[Value.ref b] s = true) (hgv : (Jvm.Cond.and given_1 narrow_1).before #[Value.ref b] s = true) : ∃ sd : Nat → Nat × Nat, SQ SRR sd (fun q : Nat => s.heap.size ≤ q) s s.heap ∧ SQ SRM sd (fun q : Nat => s.heap.size ≤ q) s s.heap := by
  have hs := flat_of_before _ hgv
  have hA0 : ∀ a : Nat, a < s.heap.size → ¬ (fun q : Nat => s.heap.size ≤ q) a := fun a h => Nat.not_le.mpr h
  have el0 : ∀ j : Nat, j < 5 → (Cond.eq (.elem (.field (.string "CallForBrown$Reader" 46) "java/lang/String" "value" "[B") (.int (Int32.ofNat j))) (.int (([104, 111, 117, 115, 101] : List Int32).getD j 0))).before #[Value.ref b] s = true := fun j hj => match j, hj with
    | 0, _ => hs _ (by decide +kernel)
    | 1, _ => hs _ (by decide +kernel)
    | 2, _ => hs _ (by decide +kernel)
    | 3, _ => hs _ (by decide +kernel)
    | 4, _ => hs _ (by decide +kernel)
    | (k + 5), h => absurd h (by omega)
  obtain ⟨a0, t0, v0, o0, c0, f0, w0⟩ := strOne (args := #[Value.ref b]) (s := s) (A := fun q : Nat => s.heap.size ≤ q) (.string "CallForBrown$Reader" 46) 5 [104, 111, 117, 115, 101] (by decide) (hs _ (by decide +kernel)) (hs _ (by decide +kernel)) (hs _ (by decide +kernel)) (hs _ (by decide +kernel)) el0 hA0
  have el1 : ∀ j : Nat, j < 5 → (Cond.eq (.elem (.field (.string "CallForBrown$Reader" 83) "java/lang/String" "value" "[B") (.int (Int32.ofNat j))) (.int (([109, 111, 118, 101, 115] : List Int32).getD j 0))).before #[Value.ref b] s = true := fun j hj => match j, hj with
    | 0, _ => hs _ (by decide +kernel)
    | 1, _ => hs _ (by decide +kernel)
    | 2, _ => hs _ (by decide +kernel)
    | 3, _ => hs _ (by decide +kernel)
    | 4, _ => hs _ (by decide +kernel)
    | (k + 5), h => absurd h (by omega)
  obtain ⟨a1, t1, v1, o1, c1, f1, w1⟩ := strOne (args := #[Value.ref b]) (s := s) (A := fun q : Nat => s.heap.size ≤ q) (.string "CallForBrown$Reader" 83) 5 [109, 111, 118, 101, 115] (by decide) (hs _ (by decide +kernel)) (hs _ (by decide +kernel)) (hs _ (by decide +kernel)) (hs _ (by decide +kernel)) el1 hA0
  have el2 : ∀ j : Nat, j < 4 → (Cond.eq (.elem (.field (.string "CallForBrown$Reader" 91) "java/lang/String" "value" "[B") (.int (Int32.ofNat j))) (.int (([104, 101, 114, 101] : List Int32).getD j 0))).before #[Value.ref b] s = true := fun j hj => match j, hj with
    | 0, _ => hs _ (by decide +kernel)
    | 1, _ => hs _ (by decide +kernel)
    | 2, _ => hs _ (by decide +kernel)
    | 3, _ => hs _ (by decide +kernel)
    | (k + 4), h => absurd h (by omega)
  obtain ⟨a2, t2, v2, o2, c2, f2, w2⟩ := strOne (args := #[Value.ref b]) (s := s) (A := fun q : Nat => s.heap.size ≤ q) (.string "CallForBrown$Reader" 91) 4 [104, 101, 114, 101] (by decide) (hs _ (by decide +kernel)) (hs _ (by decide +kernel)) (hs _ (by decide +kernel)) (hs _ (by decide +kernel)) el2 hA0
  have el3 : ∀ j : Nat, j < 5 → (Cond.eq (.elem (.field (.string "CallForBrown$Reader" 95) "java/lang/String" "value" "[B") (.int (Int32.ofNat j))) (.int (([119, 111, 114, 116, 104] : List Int32).getD j 0))).before #[Value.ref b] s = true := fun j hj => match j, hj with
    | 0, _ => hs _ (by decide +kernel)
    | 1, _ => hs _ (by decide +kernel)
    | 2, _ => hs _ (by decide +kernel)
    | 3, _ => hs _ (by decide +kernel)
    | 4, _ => hs _ (by decide +kernel)
    | (k + 5), h => absurd h (by omega)
  obtain ⟨a3, t3, v3, o3, c3, f3, w3⟩ := strOne (args := #[Value.ref b]) (s := s) (A := fun q : Nat => s.heap.size ≤ q) (.string "CallForBrown$Reader" 95) 5 [119, 111, 114, 116, 104] (by decide) (hs _ (by decide +kernel)) (hs _ (by decide +kernel)) (hs _ (by decide +kernel)) (hs _ (by decide +kernel)) el3 hA0
  have el4 : ∀ j : Nat, j < 5 → (Cond.eq (.elem (.field (.string "CallForBrown$Reader" 99) "java/lang/String" "value" "[B") (.int (Int32.ofNat j))) (.int (([112, 114, 105, 99, 101] : List Int32).getD j 0))).before #[Value.ref b] s = true := fun j hj => match j, hj with
    | 0, _ => hs _ (by decide +kernel)
    | 1, _ => hs _ (by decide +kernel)
    | 2, _ => hs _ (by decide +kernel)
    | 3, _ => hs _ (by decide +kernel)
    | 4, _ => hs _ (by decide +kernel)
    | (k + 5), h => absurd h (by omega)
  obtain ⟨a4, t4, v4, o4, c4, f4, w4⟩ := strOne (args := #[Value.ref b]) (s := s) (A := fun q : Nat => s.heap.size ≤ q) (.string "CallForBrown$Reader" 99) 5 [112, 114, 105, 99, 101] (by decide) (hs _ (by decide +kernel)) (hs _ (by decide +kernel)) (hs _ (by decide +kernel)) (hs _ (by decide +kernel)) el4 hA0
  have el5 : ∀ j : Nat, j < 4 → (Cond.eq (.elem (.field (.string "CallForBrown$Reader" 59) "java/lang/String" "value" "[B") (.int (Int32.ofNat j))) (.int (([114, 111, 111, 109] : List Int32).getD j 0))).before #[Value.ref b] s = true := fun j hj => match j, hj with
    | 0, _ => hs _ (by decide +kernel)
    | 1, _ => hs _ (by decide +kernel)
    | 2, _ => hs _ (by decide +kernel)
    | 3, _ => hs _ (by decide +kernel)
    | (k + 4), h => absurd h (by omega)
  obtain ⟨a5, t5, v5, o5, c5, f5, w5⟩ := strOne (args := #[Value.ref b]) (s := s) (A := fun q : Nat => s.heap.size ≤ q) (.string "CallForBrown$Reader" 59) 4 [114, 111, 111, 109] (by decide) (hs _ (by decide +kernel)) (hs _ (by decide +kernel)) (hs _ (by decide +kernel)) (hs _ (by decide +kernel)) el5 hA0
  have el6 : ∀ j : Nat, j < 6 → (Cond.eq (.elem (.field (.string "CallForBrown$Reader" 106) "java/lang/String" "value" "[B") (.int (Int32.ofNat j))) (.int (([112, 101, 111, 112, 108, 101] : List Int32).getD j 0))).before #[Value.ref b] s = true := fun j hj => match j, hj with
    | 0, _ => hs _ (by decide +kernel)
    | 1, _ => hs _ (by decide +kernel)
    | 2, _ => hs _ (by decide +kernel)
    | 3, _ => hs _ (by decide +kernel)
    | 4, _ => hs _ (by decide +kernel)
    | 5, _ => hs _ (by decide +kernel)
    | (k + 6), h => absurd h (by omega)
  obtain ⟨a6, t6, v6, o6, c6, f6, w6⟩ := strOne (args := #[Value.ref b]) (s := s) (A := fun q : Nat => s.heap.size ≤ q) (.string "CallForBrown$Reader" 106) 6 [112, 101, 111, 112, 108, 101] (by decide) (hs _ (by decide +kernel)) (hs _ (by decide +kernel)) (hs _ (by decide +kernel)) (hs _ (by decide +kernel)) el6 hA0
  have el7 : ∀ j : Nat, j < 5 → (Cond.eq (.elem (.field (.string "CallForBrown$Reader" 112) "java/lang/String" "value" "[B") (.int (Int32.ofNat j))) (.int (([104, 101, 97, 114, 115] : List Int32).getD j 0))).before #[Value.ref b] s = true := fun j hj => match j, hj with
    | 0, _ => hs _ (by decide +kernel)
    | 1, _ => hs _ (by decide +kernel)
    | 2, _ => hs _ (by decide +kernel)
    | 3, _ => hs _ (by decide +kernel)
    | 4, _ => hs _ (by decide +kernel)
    | (k + 5), h => absurd h (by omega)
  obtain ⟨a7, t7, v7, o7, c7, f7, w7⟩ := strOne (args := #[Value.ref b]) (s := s) (A := fun q : Nat => s.heap.size ≤ q) (.string "CallForBrown$Reader" 112) 5 [104, 101, 97, 114, 115] (by decide) (hs _ (by decide +kernel)) (hs _ (by decide +kernel)) (hs _ (by decide +kernel)) (hs _ (by decide +kernel)) el7 hA0
  have el8 : ∀ j : Nat, j < 4 → (Cond.eq (.elem (.field (.string "CallForBrown$Reader" 114) "java/lang/String" "value" "[B") (.int (Int32.ofNat j))) (.int (([115, 105, 116, 115] : List Int32).getD j 0))).before #[Value.ref b] s = true := fun j hj => match j, hj with
    | 0, _ => hs _ (by decide +kernel)
    | 1, _ => hs _ (by decide +kernel)
    | 2, _ => hs _ (by decide +kernel)
    | 3, _ => hs _ (by decide +kernel)
    | (k + 4), h => absurd h (by omega)
  obtain ⟨a8, t8, v8, o8, c8, f8, w8⟩ := strOne (args := #[Value.ref b]) (s := s) (A := fun q : Nat => s.heap.size ≤ q) (.string "CallForBrown$Reader" 114) 4 [115, 105, 116, 115] (by decide) (hs _ (by decide +kernel)) (hs _ (by decide +kernel)) (hs _ (by decide +kernel)) (hs _ (by decide +kernel)) el8 hA0
  have el9 : ∀ j : Nat, j < 4 → (Cond.eq (.elem (.field (.string "CallForBrown$Reader" 64) "java/lang/String" "value" "[B") (.int (Int32.ofNat j))) (.int (([100, 111, 111, 114] : List Int32).getD j 0))).before #[Value.ref b] s = true := fun j hj => match j, hj with
    | 0, _ => hs _ (by decide +kernel)
    | 1, _ => hs _ (by decide +kernel)
    | 2, _ => hs _ (by decide +kernel)
    | 3, _ => hs _ (by decide +kernel)
    | (k + 4), h => absurd h (by omega)
  obtain ⟨a9, t9, v9, o9, c9, f9, w9⟩ := strOne (args := #[Value.ref b]) (s := s) (A := fun q : Nat => s.heap.size ≤ q) (.string "CallForBrown$Reader" 64) 4 [100, 111, 111, 114] (by decide) (hs _ (by decide +kernel)) (hs _ (by decide +kernel)) (hs _ (by decide +kernel)) (hs _ (by decide +kernel)) el9 hA0
  have el10 : ∀ j : Nat, j < 3 → (Cond.eq (.elem (.field (.string "CallForBrown$Reader" 69) "java/lang/String" "value" "[B") (.int (Int32.ofNat j))) (.int (([109, 97, 110] : List Int32).getD j 0))).before #[Value.ref b] s = true := fun j hj => match j, hj with
    | 0, _ => hs _ (by decide +kernel)
    | 1, _ => hs _ (by decide +kernel)
    | 2, _ => hs _ (by decide +kernel)
    | (k + 3), h => absurd h (by omega)
  obtain ⟨a10, t10, v10, o10, c10, f10, w10⟩ := strOne (args := #[Value.ref b]) (s := s) (A := fun q : Nat => s.heap.size ≤ q) (.string "CallForBrown$Reader" 69) 3 [109, 97, 110] (by decide) (hs _ (by decide +kernel)) (hs _ (by decide +kernel)) (hs _ (by decide +kernel)) (hs _ (by decide +kernel)) el10 hA0
  have el11 : ∀ j : Nat, j < 6 → (Cond.eq (.elem (.field (.string "CallForBrown$Reader" 131) "java/lang/String" "value" "[B") (.int (Int32.ofNat j))) (.int (([119, 101, 105, 103, 104, 115] : List Int32).getD j 0))).before #[Value.ref b] s = true := fun j hj => match j, hj with
    | 0, _ => hs _ (by decide +kernel)
    | 1, _ => hs _ (by decide +kernel)
    | 2, _ => hs _ (by decide +kernel)
    | 3, _ => hs _ (by decide +kernel)
    | 4, _ => hs _ (by decide +kernel)
    | 5, _ => hs _ (by decide +kernel)
    | (k + 6), h => absurd h (by omega)
  obtain ⟨a11, t11, v11, o11, c11, f11, w11⟩ := strOne (args := #[Value.ref b]) (s := s) (A := fun q : Nat => s.heap.size ≤ q) (.string "CallForBrown$Reader" 131) 6 [119, 101, 105, 103, 104, 115] (by decide) (hs _ (by decide +kernel)) (hs _ (by decide +kernel)) (hs _ (by decide +kernel)) (hs _ (by decide +kernel)) el11 hA0
  have el12 : ∀ j : Nat, j < 3 → (Cond.eq (.elem (.field (.string "CallForBrown$Reader" 133) "java/lang/String" "value" "[B") (.int (Int32.ofNat j))) (.int (([121, 101, 115] : List Int32).getD j 0))).before #[Value.ref b] s = true := fun j hj => match j, hj with
    | 0, _ => hs _ (by decide +kernel)
    | 1, _ => hs _ (by decide +kernel)
    | 2, _ => hs _ (by decide +kernel)
    | (k + 3), h => absurd h (by omega)
  obtain ⟨a12, t12, v12, o12, c12, f12, w12⟩ := strOne (args := #[Value.ref b]) (s := s) (A := fun q : Nat => s.heap.size ≤ q) (.string "CallForBrown$Reader" 133) 3 [121, 101, 115] (by decide) (hs _ (by decide +kernel)) (hs _ (by decide +kernel)) (hs _ (by decide +kernel)) (hs _ (by decide +kernel)) el12 hA0
  have el13 : ∀ j : Nat, j < 5 → (Cond.eq (.elem (.field (.string "CallForBrown$Reader" 74) "java/lang/String" "value" "[B") (.int (Int32.ofNat j))) (.int (([115, 108, 97, 116, 101] : List Int32).getD j 0))).before #[Value.ref b] s = true := fun j hj => match j, hj with
    | 0, _ => hs _ (by decide +kernel)
    | 1, _ => hs _ (by decide +kernel)
    | 2, _ => hs _ (by decide +kernel)
    | 3, _ => hs _ (by decide +kernel)
    | 4, _ => hs _ (by decide +kernel)
    | (k + 5), h => absurd h (by omega)
  obtain ⟨a13, t13, v13, o13, c13, f13, w13⟩ := strOne (args := #[Value.ref b]) (s := s) (A := fun q : Nat => s.heap.size ≤ q) (.string "CallForBrown$Reader" 74) 5 [115, 108, 97, 116, 101] (by decide) (hs _ (by decide +kernel)) (hs _ (by decide +kernel)) (hs _ (by decide +kernel)) (hs _ (by decide +kernel)) el13 hA0
  have el14 : ∀ j : Nat, j < 2 → (Cond.eq (.elem (.field (.string "CallForBrown$Reader" 142) "java/lang/String" "value" "[B") (.int (Int32.ofNat j))) (.int (([97, 115] : List Int32).getD j 0))).before #[Value.ref b] s = true := fun j hj => match j, hj with
    | 0, _ => hs _ (by decide +kernel)
    | 1, _ => hs _ (by decide +kernel)
    | (k + 2), h => absurd h (by omega)
  obtain ⟨a14, t14, v14, o14, c14, f14, w14⟩ := strOne (args := #[Value.ref b]) (s := s) (A := fun q : Nat => s.heap.size ≤ q) (.string "CallForBrown$Reader" 142) 2 [97, 115] (by decide) (hs _ (by decide +kernel)) (hs _ (by decide +kernel)) (hs _ (by decide +kernel)) (hs _ (by decide +kernel)) el14 hA0
  have h15 : ∀ i : Nat, i < 15 → va_O "java/lang/String" (([(a0, t0), (a1, t1), (a2, t2), (a3, t3), (a4, t4), (a5, t5), (a6, t6), (a7, t7), (a8, t8), (a9, t9), (a10, t10), (a11, t11), (a12, t12), (a13, t13), (a14, t14)] : List (Nat × Nat)).getD i (0, 0)).1 (fun q : Nat => s.heap.size ≤ q) s s.heap ∧ va_OF "java/lang/String" "coder" "B" (.int 0) (([(a0, t0), (a1, t1), (a2, t2), (a3, t3), (a4, t4), (a5, t5), (a6, t6), (a7, t7), (a8, t8), (a9, t9), (a10, t10), (a11, t11), (a12, t12), (a13, t13), (a14, t14)] : List (Nat × Nat)).getD i (0, 0)).1 (fun q : Nat => s.heap.size ≤ q) s s.heap ∧ va_OF "java/lang/String" "value" "[B" (.ref (([(a0, t0), (a1, t1), (a2, t2), (a3, t3), (a4, t4), (a5, t5), (a6, t6), (a7, t7), (a8, t8), (a9, t9), (a10, t10), (a11, t11), (a12, t12), (a13, t13), (a14, t14)] : List (Nat × Nat)).getD i (0, 0)).2) (([(a0, t0), (a1, t1), (a2, t2), (a3, t3), (a4, t4), (a5, t5), (a6, t6), (a7, t7), (a8, t8), (a9, t9), (a10, t10), (a11, t11), (a12, t12), (a13, t13), (a14, t14)] : List (Nat × Nat)).getD i (0, 0)).1 (fun q : Nat => s.heap.size ≤ q) s s.heap ∧ va_T .byte (([(a0, t0), (a1, t1), (a2, t2), (a3, t3), (a4, t4), (a5, t5), (a6, t6), (a7, t7), (a8, t8), (a9, t9), (a10, t10), (a11, t11), (a12, t12), (a13, t13), (a14, t14)] : List (Nat × Nat)).getD i (0, 0)).2 (lenS.getD i 0) (fun j => .int ((bytS.getD i []).getD j 0)) (fun q : Nat => s.heap.size ≤ q) s s.heap := fun i hi => match i, hi with
    | 0, _ => ⟨o0, c0, f0, w0⟩
    | 1, _ => ⟨o1, c1, f1, w1⟩
    | 2, _ => ⟨o2, c2, f2, w2⟩
    | 3, _ => ⟨o3, c3, f3, w3⟩
    | 4, _ => ⟨o4, c4, f4, w4⟩
    | 5, _ => ⟨o5, c5, f5, w5⟩
    | 6, _ => ⟨o6, c6, f6, w6⟩
    | 7, _ => ⟨o7, c7, f7, w7⟩
    | 8, _ => ⟨o8, c8, f8, w8⟩
    | 9, _ => ⟨o9, c9, f9, w9⟩
    | 10, _ => ⟨o10, c10, f10, w10⟩
    | 11, _ => ⟨o11, c11, f11, w11⟩
    | 12, _ => ⟨o12, c12, f12, w12⟩
    | 13, _ => ⟨o13, c13, f13, w13⟩
    | 14, _ => ⟨o14, c14, f14, w14⟩
    | (k + 15), h => absurd h (by omega)
  obtain ⟨sd, esd⟩ : ∃ z : Nat → Nat × Nat, z = fun i => ([(a0, t0), (a1, t1), (a2, t2), (a3, t3), (a4, t4), (a5, t5), (a6, t6), (a7, t7), (a8, t8), (a9, t9), (a10, t10), (a11, t11), (a12, t12), (a13, t13), (a14, t14)] : List (Nat × Nat)).getD i (0, 0) := ⟨_, rfl⟩
  have hS : vk_S 15 lenS bytS (fun i => (sd i).1) (fun i => (sd i).2) (fun q : Nat => s.heap.size ≤ q) s s.heap := by
    rw [esd]
    refine ⟨h15, fun i j hi hj e => ?_⟩
    have q1 := (h15 i hi).2.2.1
    have e : (([(a0, t0), (a1, t1), (a2, t2), (a3, t3), (a4, t4), (a5, t5), (a6, t6), (a7, t7), (a8, t8), (a9, t9), (a10, t10), (a11, t11), (a12, t12), (a13, t13), (a14, t14)] : List (Nat × Nat)).getD i (0, 0)).1 = (([(a0, t0), (a1, t1), (a2, t2), (a3, t3), (a4, t4), (a5, t5), (a6, t6), (a7, t7), (a8, t8), (a9, t9), (a10, t10), (a11, t11), (a12, t12), (a13, t13), (a14, t14)] : List (Nat × Nat)).getD j (0, 0)).1 := e
    rw [e] at q1
    have q2 := OF_inj q1 (h15 j hj).2.2.1
    have q3 := (h15 i hi).2.2.2
    rw [Value.ref.inj q2] at q3
    have l1 := strLe ⟨i, hi⟩
    have l2 := strLe ⟨j, hj⟩
    have l1 : lenS.getD i 0 ≤ 6 := l1
    have l2 : lenS.getD j 0 ≤ 6 := l2
    have q4 := T_inj q3 (h15 j hj).2.2.2 (by omega) (by omega)
    exact congrArg Fin.val (strNe ⟨i, hi⟩ ⟨j, hj⟩ q4.1 (fun k hk => Value.int.inj (q4.2 k.val hk)))
  have hZ : va_Z "java/lang/String" "COMPACT_STRINGS" "Z" (.int 1) (fun q : Nat => s.heap.size ≤ q) s s.heap := va_Zof (hts _ (List.mem_append_right _ (List.mem_of_getElem? (i := 404) (by decide +kernel)))) (hts _ (List.mem_append_right _ (List.mem_of_getElem? (i := 13) (by decide +kernel)))) (va_eqi (hs _ (by decide +kernel))) hA0
  have hZq : va_Zq "jdk/internal/util/Preconditions" "SIOOBE_FORMATTER" "Ljava/util/function/BiFunction;" (fun q : Nat => s.heap.size ≤ q) s s.heap := va_Zqof (hts _ (List.mem_append_right _ (List.mem_of_getElem? (i := 420) (by decide +kernel)))) (hts _ (List.mem_append_right _ (List.mem_of_getElem? (i := 15) (by decide +kernel)))) (hs _ (by decide +kernel)) hA0
  have hRR : ∀ x ∈ SRR, vk_R x.1 x.2.1 x.2.2.1 (sd x.2.2.2).1 s := by
    rw [esd]
    unfold SRR
    exact List.forall_mem_cons.mpr ⟨vk_R.of (hts _ (List.mem_append_right _ (List.mem_of_getElem? (i := 390) (by decide +kernel)))) (show (Term.string "CallForBrown$Reader" 46).eval #[Value.ref b] s none [] s = some (.ref a0) from v0), List.forall_mem_cons.mpr ⟨vk_R.of (hts _ (List.mem_append_right _ (List.mem_of_getElem? (i := 451) (by decide +kernel)))) (show (Term.string "CallForBrown$Reader" 83).eval #[Value.ref b] s none [] s = some (.ref a1) from v1), List.forall_mem_cons.mpr ⟨vk_R.of (hts _ (List.mem_append_right _ (List.mem_of_getElem? (i := 460) (by decide +kernel)))) (show (Term.string "CallForBrown$Reader" 91).eval #[Value.ref b] s none [] s = some (.ref a2) from v2), List.forall_mem_cons.mpr ⟨vk_R.of (hts _ (List.mem_append_right _ (List.mem_of_getElem? (i := 461) (by decide +kernel)))) (show (Term.string "CallForBrown$Reader" 95).eval #[Value.ref b] s none [] s = some (.ref a3) from v3), List.forall_mem_cons.mpr ⟨vk_R.of (hts _ (List.mem_append_right _ (List.mem_of_getElem? (i := 462) (by decide +kernel)))) (show (Term.string "CallForBrown$Reader" 99).eval #[Value.ref b] s none [] s = some (.ref a4) from v4), List.forall_mem_cons.mpr ⟨vk_R.of (hts _ (List.mem_append_right _ (List.mem_of_getElem? (i := 463) (by decide +kernel)))) (show (Term.string "CallForBrown$Reader" 59).eval #[Value.ref b] s none [] s = some (.ref a5) from v5), List.forall_mem_cons.mpr ⟨vk_R.of (hts _ (List.mem_append_right _ (List.mem_of_getElem? (i := 468) (by decide +kernel)))) (show (Term.string "CallForBrown$Reader" 106).eval #[Value.ref b] s none [] s = some (.ref a6) from v6), List.forall_mem_cons.mpr ⟨vk_R.of (hts _ (List.mem_append_right _ (List.mem_of_getElem? (i := 472) (by decide +kernel)))) (show (Term.string "CallForBrown$Reader" 112).eval #[Value.ref b] s none [] s = some (.ref a7) from v7), List.forall_mem_cons.mpr ⟨vk_R.of (hts _ (List.mem_append_right _ (List.mem_of_getElem? (i := 473) (by decide +kernel)))) (show (Term.string "CallForBrown$Reader" 114).eval #[Value.ref b] s none [] s = some (.ref a8) from v8), List.forall_mem_cons.mpr ⟨vk_R.of (hts _ (List.mem_append_right _ (List.mem_of_getElem? (i := 478) (by decide +kernel)))) (show (Term.string "CallForBrown$Reader" 64).eval #[Value.ref b] s none [] s = some (.ref a9) from v9), List.forall_mem_cons.mpr ⟨vk_R.of (hts _ (List.mem_append_right _ (List.mem_of_getElem? (i := 491) (by decide +kernel)))) (show (Term.string "CallForBrown$Reader" 69).eval #[Value.ref b] s none [] s = some (.ref a10) from v10), List.forall_mem_cons.mpr ⟨vk_R.of (hts _ (List.mem_append_right _ (List.mem_of_getElem? (i := 496) (by decide +kernel)))) (show (Term.string "CallForBrown$Reader" 131).eval #[Value.ref b] s none [] s = some (.ref a11) from v11), List.forall_mem_cons.mpr ⟨vk_R.of (hts _ (List.mem_append_right _ (List.mem_of_getElem? (i := 497) (by decide +kernel)))) (show (Term.string "CallForBrown$Reader" 133).eval #[Value.ref b] s none [] s = some (.ref a12) from v12), List.forall_mem_cons.mpr ⟨vk_R.of (hts _ (List.mem_append_right _ (List.mem_of_getElem? (i := 506) (by decide +kernel)))) (show (Term.string "CallForBrown$Reader" 74).eval #[Value.ref b] s none [] s = some (.ref a13) from v13), List.forall_mem_cons.mpr ⟨vk_R.of (hts _ (List.mem_append_right _ (List.mem_of_getElem? (i := 511) (by decide +kernel)))) (show (Term.string "CallForBrown$Reader" 142).eval #[Value.ref b] s none [] s = some (.ref a14) from v14), fun _ h => absurd h List.not_mem_nil⟩⟩⟩⟩⟩⟩⟩⟩⟩⟩⟩⟩⟩⟩⟩
  have hRM : ∀ x ∈ SRM, vk_R x.1 x.2.1 x.2.2.1 (sd x.2.2.2).1 s := by
    rw [esd]
    unfold SRM
    exact List.forall_mem_cons.mpr ⟨vk_R.of (hts _ (List.mem_append_right _ (List.mem_of_getElem? (i := 1320) (by decide +kernel)))) (show (Term.string "CallForBrownModel" 209).eval #[Value.ref b] s none [] s = some (.ref a0) from va_eqR (t := .string "CallForBrown$Reader" 46) (hs _ (by decide +kernel)) v0), List.forall_mem_cons.mpr ⟨vk_R.of (hts _ (List.mem_append_right _ (List.mem_of_getElem? (i := 1339) (by decide +kernel)))) (show (Term.string "CallForBrownModel" 211).eval #[Value.ref b] s none [] s = some (.ref a1) from va_eqR (t := .string "CallForBrown$Reader" 83) (hs _ (by decide +kernel)) v1), List.forall_mem_cons.mpr ⟨vk_R.of (hts _ (List.mem_append_right _ (List.mem_of_getElem? (i := 1348) (by decide +kernel)))) (show (Term.string "CallForBrownModel" 213).eval #[Value.ref b] s none [] s = some (.ref a2) from va_eqR (t := .string "CallForBrown$Reader" 91) (hs _ (by decide +kernel)) v2), List.forall_mem_cons.mpr ⟨vk_R.of (hts _ (List.mem_append_right _ (List.mem_of_getElem? (i := 1349) (by decide +kernel)))) (show (Term.string "CallForBrownModel" 215).eval #[Value.ref b] s none [] s = some (.ref a3) from va_eqR (t := .string "CallForBrown$Reader" 95) (hs _ (by decide +kernel)) v3), List.forall_mem_cons.mpr ⟨vk_R.of (hts _ (List.mem_append_right _ (List.mem_of_getElem? (i := 1350) (by decide +kernel)))) (show (Term.string "CallForBrownModel" 217).eval #[Value.ref b] s none [] s = some (.ref a4) from va_eqR (t := .string "CallForBrown$Reader" 99) (hs _ (by decide +kernel)) v4), List.forall_mem_cons.mpr ⟨vk_R.of (hts _ (List.mem_append_right _ (List.mem_of_getElem? (i := 1355) (by decide +kernel)))) (show (Term.string "CallForBrownModel" 189).eval #[Value.ref b] s none [] s = some (.ref a5) from va_eqR (t := .string "CallForBrown$Reader" 59) (hs _ (by decide +kernel)) v5), List.forall_mem_cons.mpr ⟨vk_R.of (hts _ (List.mem_append_right _ (List.mem_of_getElem? (i := 1356) (by decide +kernel)))) (show (Term.string "CallForBrownModel" 191).eval #[Value.ref b] s none [] s = some (.ref a9) from va_eqR (t := .string "CallForBrown$Reader" 64) (hs _ (by decide +kernel)) v9), List.forall_mem_cons.mpr ⟨vk_R.of (hts _ (List.mem_append_right _ (List.mem_of_getElem? (i := 1357) (by decide +kernel)))) (show (Term.string "CallForBrownModel" 193).eval #[Value.ref b] s none [] s = some (.ref a10) from va_eqR (t := .string "CallForBrown$Reader" 69) (hs _ (by decide +kernel)) v10), List.forall_mem_cons.mpr ⟨vk_R.of (hts _ (List.mem_append_right _ (List.mem_of_getElem? (i := 1358) (by decide +kernel)))) (show (Term.string "CallForBrownModel" 195).eval #[Value.ref b] s none [] s = some (.ref a13) from va_eqR (t := .string "CallForBrown$Reader" 74) (hs _ (by decide +kernel)) v13), List.forall_mem_cons.mpr ⟨vk_R.of (hts _ (List.mem_append_right _ (List.mem_of_getElem? (i := 1363) (by decide +kernel)))) (show (Term.string "CallForBrownModel" 167).eval #[Value.ref b] s none [] s = some (.ref a6) from va_eqR (t := .string "CallForBrown$Reader" 106) (hs _ (by decide +kernel)) v6), List.forall_mem_cons.mpr ⟨vk_R.of (hts _ (List.mem_append_right _ (List.mem_of_getElem? (i := 1364) (by decide +kernel)))) (show (Term.string "CallForBrownModel" 173).eval #[Value.ref b] s none [] s = some (.ref a7) from va_eqR (t := .string "CallForBrown$Reader" 112) (hs _ (by decide +kernel)) v7), List.forall_mem_cons.mpr ⟨vk_R.of (hts _ (List.mem_append_right _ (List.mem_of_getElem? (i := 1365) (by decide +kernel)))) (show (Term.string "CallForBrownModel" 175).eval #[Value.ref b] s none [] s = some (.ref a8) from va_eqR (t := .string "CallForBrown$Reader" 114) (hs _ (by decide +kernel)) v8), List.forall_mem_cons.mpr ⟨vk_R.of (hts _ (List.mem_append_right _ (List.mem_of_getElem? (i := 1378) (by decide +kernel)))) (show (Term.string "CallForBrownModel" 180).eval #[Value.ref b] s none [] s = some (.ref a11) from va_eqR (t := .string "CallForBrown$Reader" 131) (hs _ (by decide +kernel)) v11), List.forall_mem_cons.mpr ⟨vk_R.of (hts _ (List.mem_append_right _ (List.mem_of_getElem? (i := 1379) (by decide +kernel)))) (show (Term.string "CallForBrownModel" 182).eval #[Value.ref b] s none [] s = some (.ref a12) from va_eqR (t := .string "CallForBrown$Reader" 133) (hs _ (by decide +kernel)) v12), List.forall_mem_cons.mpr ⟨vk_R.of (hts _ (List.mem_append_right _ (List.mem_of_getElem? (i := 1388) (by decide +kernel)))) (show (Term.string "CallForBrownModel" 187).eval #[Value.ref b] s none [] s = some (.ref a14) from va_eqR (t := .string "CallForBrown$Reader" 142) (hs _ (by decide +kernel)) v14), fun _ h => absurd h List.not_mem_nil⟩⟩⟩⟩⟩⟩⟩⟩⟩⟩⟩⟩⟩⟩⟩
  exact ⟨sd, ⟨hS, hZ, hZq, hRR⟩, ⟨hS, hZ, hZq, hRM⟩⟩
