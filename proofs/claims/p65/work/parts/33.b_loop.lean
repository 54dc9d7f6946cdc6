theorem law_all {p : Program} {l : Launch} {e : Env} {s : State} {m : MethodId} {below : List Frame} {meth : Method} {c : Code} {b L : Nat} {xs : Nat → Int32} {G : va_G} {cs : Nat → ClassId} {h1 : Nat} {Q : Nat → Nat → Nat} {h2 : Nat} {q2 : Nat → Nat} {sd : Nat → Nat × Nat} {i : Int32} (j : Nat) (hj : j < 64) : LCase p l e s m below meth c b G cs h1 Q h2 q2 i L xs sd (nI j) := lt64 (P := fun j => LCase p l e s m below meth c b G cs h1 Q h2 q2 i L xs sd (nI j)) law_0 law_1 law_2 law_3 law_4 law_5 law_6 law_7 law_8 law_9 law_10 law_11 law_12 law_13 law_14 law_15 law_16 law_17 law_18 law_19 law_20 law_21 law_22 law_23 law_24 law_25 law_26 law_27 law_28 law_29 law_30 law_31 law_32 law_33 law_34 law_35 law_36 law_37 law_38 law_39 law_40 law_41 law_42 law_43 law_44 law_45 law_46 law_47 law_48 law_49 law_50 law_51 law_52 law_53 law_54 law_55 law_56 law_57 law_58 law_59 law_60 law_61 law_62 law_63 j hj
set_option maxRecDepth 100000 in
set_option maxHeartbeats 16000000 in
theorem law_loop {p : Program} {l : Launch} {e : Env} {s : State} {m : MethodId} {below : List Frame} {meth : Method} {c : Code} {b L : Nat} {xs : Nat → Int32} {G : va_G} {cs : Nat → ClassId} {h1 : Nat} {Q : Nat → Nat → Nat} {h2 : Nat} {q2 : Nat → Nat} {sd : Nat → Nat × Nat} (C0 : lw_At p s m meth c b L xs) (hL : L ≤ 3072) (hK : KK G (TY cs) s) (hQ : SQ SRR sd (fun q : Nat => s.heap.size ≤ q) s s.heap) (hQM : SQ SRM sd (fun q : Nat => s.heap.size ≤ q) s s.heap) : ∀ (n : Nat) (i : Int32) (F : Nat → Nat → Int32) (A : Nat → Nat → Nat → Int32) (B : Nat → Nat → Nat → Int64) (D : Nat → Int64) (MF : Nat → Int32) (MA : Nat → Nat → Int32) (MD : Int64) (MB : Nat → Nat → Int64) (H : Heap) (locs : List Loc) (ls : Array Slot), (4000 - i.toInt).toNat < n → 0 ≤ i.toInt → i.toInt ≤ 3072 → XI F A → MI MF MA → RI F MA → va_P G vwCl (LW cs h1 Q h2 q2 F A B D MF MA MD MB) H → va_D (fun q : Nat => s.heap.size ≤ q) (LW cs h1 Q h2 q2 F A B D MF MA MD MB) → va_S (fun q : Nat => s.heap.size ≤ q) s.heap H locs → lv_has ls 4 [(3, .int i), (2, .ref h2), (1, .ref h1), (0, .ref b)] → LGo p l e s m below meth c b H locs ls 18 [] := by
  obtain ⟨hx, hb, hr, hml, hown, hts, hXs, hbl, hlocks, hgv⟩ := id C0
  have hown : s.vm.findClass RL = some m.cls := hown
  have ht : ∀ w ∈ tb, w.before #[Value.ref b] s = true := fun w h => hts w (List.mem_filter.mp h).1
  have hbA : ¬ (fun q : Nat => s.heap.size ≤ q) b := Nat.not_le.mpr hbl
  intro n
  induction n with
  | zero => intro i F A B D MF MA MD MB H locs ls hmeas; exact absurd hmeas (Nat.not_lt_zero _)
  | succ n ih =>
    intro i F A B D MF MA MD MB H locs ls hmeas hi0 hi3 hX hM hR hP hD hS hl
    have hRo : id (RI F MA) := hR      -- out of the sight of omega, which would split it
    clear hR
    refine lv_iload_n hx hb dL_law_18 rfl (lv_at hl 0 rfl) ?_
    refine lv_aload_n hx hb dL_law_19 rfl (lv_at hl 3 rfl) ?_
    refine va_slen hx hb hXs hbl hbA hS dL_law_20 ?_
    refine lv_bipush (v := 6) hx hb dL_law_21 (by decide) ?_
    refine lv_isub hx hb dL_law_23 ?_
    refine lv_topi (fun v ev => ?_)
    have tL : (Int32.ofNat L).toInt = (L : Int) := Int32.toInt_ofNat_of_lt (by omega)
    have tv : v.toInt = (L : Int) - 6 := by rw [ev]; exact subT tL (by decide) (by omega)
    refine lv_icmp_gt (tgt := 2162) hx hb dL_law_24 (by decide) (fun c9 => ?_) (fun c9 => ?_)
    · refine lv_iconst (v := 1) hx hb dL_law_2162 (by decide) ?_
      refine va_forget (fun q hq => hS.2.2 q hq) ?_
      refine W.widen (k := 600000) (n := 7302250) (Nat.le_of_ble_eq_true rfl) (Nat.le_of_ble_eq_true rfl) ?_
      exact lw_ret hx hb hr hlocks dL_law_2163
    · have z9 := nltK rfl rfl c9
      have hi6 : i.toInt + 6 ≤ (L : Int) := by omega
      refine lv_aload_n hx hb dL_law_27 rfl (lv_at hl 3 rfl) ?_
      refine lv_iload_n hx hb dL_law_28 rfl (lv_at hl 0 rfl) ?_
      refine va_sld hx hb hXs hbl hbA hS (inK rfl (by omega) (by omega)) dL_law_29 ?_
      refine lv_bipush (v := 63) hx hb dL_law_30 (by decide) ?_
      refine lv_iand hx hb dL_law_32 ?_
      refine lv_topi (fun y9 ey9 => ?_)
      obtain ⟨j, hj, ej⟩ := pk_andE (xs i.toNatClampNeg) (m := 63) 6 (by decide)
      obtain rfl : y9 = nI j := ey9.trans ej
      have kk : LKK p l e s m below meth c b G cs h1 Q h2 q2 i 2156 := by
        obtain ⟨i2, ei2⟩ : ∃ z : Int32, z = i + 6 := ⟨_, rfl⟩
        have ti2 : i2.toInt = i.toInt + 6 := by rw [ei2]; exact addT rfl (by decide) (by omega)
        have u1 : (4000 - i2.toInt).toNat < n := by omega
        have u2 : 0 ≤ i2.toInt := by omega
        have u3 : i2.toInt ≤ 3072 := by omega
        intro F A B D MF MA MD MB H locs ls hX hM hR hP hD hS hl
        refine lv_iinc (v := i2) (lv' := [(3, .int i2), (2, .ref h2), (1, .ref h1), (0, .ref b)]) hx hb dL_law_2156 hl (k := 0) rfl (by rw [ei2]; rfl) (by decide) rfl (fun ls hl => ?_)
        refine lv_goto (tgt := 18) hx hb dL_law_2159 (by decide) ?_
        exact ih i2 F A B D MF MA MD MB H locs ls u1 u2 u3 hX hM hR hP hD hS hl
      exact law_all j hj C0 hL hK hQ hQM hi0 hi6 kk F A B D MF MA MD MB H locs ls hX hM hRo hP hD hS hl
