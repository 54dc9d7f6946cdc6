set_option maxRecDepth 100000 in
set_option maxHeartbeats 16000000 in
theorem law_52 {p : Program} {l : Launch} {e : Env} {s : State} {m : MethodId} {below : List Frame} {meth : Method} {c : Code} {b L : Nat} {xs : Nat → Int32} {G : va_G} {cs : Nat → ClassId} {h1 : Nat} {Q : Nat → Nat → Nat} {h2 : Nat} {q2 : Nat → Nat} {sd : Nat → Nat × Nat} {i : Int32} : LCase p l e s m below meth c b G cs h1 Q h2 q2 i L xs sd 52 := by
  intro C0 hL hK hQ hQM hi0 hi6 kk F A B D MF MA MD MB H locs ls hX hM hR hP hD hS hl
  obtain ⟨hx, hb, hr, hml, hown, hts, hXs, hbl, hlocks, hgv⟩ := id C0
  have hown : s.vm.findClass RL = some m.cls := hown
  have ht : ∀ w ∈ tb, w.before #[Value.ref b] s = true := fun w h => hts w (List.mem_filter.mp h).1
  have hbA : ¬ (fun q : Nat => s.heap.size ≤ q) b := Nat.not_le.mpr hbl
  have t1 : (i + 1).toInt = i.toInt + 1 := addT rfl (by decide) (by omega)
  obtain ⟨a1, ea1⟩ : ∃ z : Int32, z = xs (i + 1).toNatClampNeg := ⟨_, rfl⟩
  have t2 : (i + 2).toInt = i.toInt + 2 := addT rfl (by decide) (by omega)
  obtain ⟨a2, ea2⟩ : ∃ z : Int32, z = xs (i + 2).toNatClampNeg := ⟨_, rfl⟩
  refine lv_tableIn (off := 1647) (tgt := 1680) hx hb dL_law_33 (by decide) (by decide) (by decide) (by decide) ?_
  refine lv_aload_n hx hb dL_law_1680 rfl (lv_at hl 2 rfl) ?_
  refine lv_aload_n hx hb dL_law_1681 rfl (lv_at hl 3 rfl) ?_
  refine lv_iload_n hx hb dL_law_1682 rfl (lv_at hl 0 rfl) ?_
  refine lv_iconst (v := 1) hx hb dL_law_1683 (by decide) ?_
  refine lv_iadd hx hb dL_law_1684 ?_
  refine va_sld hx hb hXs hbl hbA hS (inK t1 (by omega) (by omega)) dL_law_1685 ?_
  refine W.eq (g2 := F0 m 1686 ls [.int a1, .ref h1]) (by rw [← ea1]) ?_
  refine lv_aload_n hx hb dL_law_1686 rfl (lv_at hl 3 rfl) ?_
  refine lv_iload_n hx hb dL_law_1687 rfl (lv_at hl 0 rfl) ?_
  refine lv_iconst (v := 2) hx hb dL_law_1688 (by decide) ?_
  refine lv_iadd hx hb dL_law_1689 ?_
  refine va_sld hx hb hXs hbl hbA hS (inK t2 (by omega) (by omega)) dL_law_1690 ?_
  refine W.eq (g2 := F0 m 1691 ls [.int a2, .int a1, .ref h1]) (by rw [← ea2]) ?_
  rcases csN4 a1 with hN | hN | rfl | rfl | rfl | rfl
  · have bb1 := i32b a1
    refine behR (runVP (As := [.int a1, .int a2]) (rest := []) ⟨hx, hb, hml, hown, ht⟩ (sX10_follows_lo l G cs h1 (Q 0) (F 0) (A 0) (B 0) (D 0) hX.1 (Q 4) (F 4) (A 4) (B 4) (D 4) hX.2.2.2.2.1 (Q 5) (F 5) (A 5) (B 5) (D 5) hX.2.2.2.2.2.1 a1 a2 (by omega)) okV_RL_229 ⟨(Nat.le_of_ble_eq_true rfl), (Nat.le_of_ble_eq_true rfl)⟩ hK hP [0, 1, 2, 14, 15, 16, 17, 18, 19, 20, 21, 22, 23] rfl 0 rfl rfl hl.1 rfl (Nat.le_of_ble_eq_true rfl) dL_law_1691 ⟨(Nat.le_of_ble_eq_true rfl), (Nat.le_of_ble_eq_true rfl)⟩) hP hS (fun _ h => h) (fun r2 H locs hr2 hP hS => ?_)
    refine lv_pop hx hb dL_law_1694 rfl ?_
    refine lv_aload_n hx hb dL_law_1695 rfl (lv_at hl 1 rfl) ?_
    refine lv_aload_n hx hb dL_law_1696 rfl (lv_at hl 3 rfl) ?_
    refine lv_iload_n hx hb dL_law_1697 rfl (lv_at hl 0 rfl) ?_
    refine lv_iconst (v := 1) hx hb dL_law_1698 (by decide) ?_
    refine lv_iadd hx hb dL_law_1699 ?_
    refine va_sld hx hb hXs hbl hbA hS (inK t1 (by omega) (by omega)) dL_law_1700 ?_
    refine W.eq (g2 := F0 m 1701 ls [.int a1, .ref h2]) (by rw [← ea1]) ?_
    refine lv_aload_n hx hb dL_law_1701 rfl (lv_at hl 3 rfl) ?_
    refine lv_iload_n hx hb dL_law_1702 rfl (lv_at hl 0 rfl) ?_
    refine lv_iconst (v := 2) hx hb dL_law_1703 (by decide) ?_
    refine lv_iadd hx hb dL_law_1704 ?_
    refine va_sld hx hb hXs hbl hbA hS (inK t2 (by omega) (by omega)) dL_law_1705 ?_
    refine W.eq (g2 := F0 m 1706 ls [.int a2, .int a1, .ref h2]) (by rw [← ea2]) ?_
    refine behR (runVP (As := [.int a1, .int a2]) (rest := []) ⟨hx, hb, hml, hown, ht⟩ (sX11_follows l G cs h2 q2 MF MA MD MB hM.1 a1 a2) okV_RL_232 ⟨(Nat.le_of_ble_eq_true rfl), (Nat.le_of_ble_eq_true rfl)⟩ hK hP [101, 102, 103, 104, 105, 106, 107, 108, 109, 110, 111, 112, 113, 114, 115, 116, 117, 118, 119, 120] rfl 101 rfl rfl hl.1 rfl (Nat.le_of_ble_eq_true rfl) dL_law_1706 ⟨(Nat.le_of_ble_eq_true rfl), (Nat.le_of_ble_eq_true rfl)⟩) hP hS (fun _ h => h) (fun r3 H locs hr3 hP hS => ?_)
    refine lv_pop hx hb dL_law_1709 rfl ?_
    refine lv_goto (tgt := 2156) hx hb dL_law_1710 (by decide) ?_
    exact kk F A B D MF MA MD MB H locs ls ⟨hX.1, hX.2.1, hX.2.2.1, hX.2.2.2.1, hX.2.2.2.2.1, hX.2.2.2.2.2.1, hX.2.2.2.2.2.2.1, hX.2.2.2.2.2.2.2.1, hX.2.2.2.2.2.2.2.2.1, hX.2.2.2.2.2.2.2.2.2.1, hX.2.2.2.2.2.2.2.2.2.2.1, hX.2.2.2.2.2.2.2.2.2.2.2.1, hX.2.2.2.2.2.2.2.2.2.2.2.2.1, hX.2.2.2.2.2.2.2.2.2.2.2.2.2.1, hX.2.2.2.2.2.2.2.2.2.2.2.2.2.2.1, hX.2.2.2.2.2.2.2.2.2.2.2.2.2.2.2.1, hX.2.2.2.2.2.2.2.2.2.2.2.2.2.2.2.2.1, hX.2.2.2.2.2.2.2.2.2.2.2.2.2.2.2.2.2.1, hX.2.2.2.2.2.2.2.2.2.2.2.2.2.2.2.2.2.2.1, hX.2.2.2.2.2.2.2.2.2.2.2.2.2.2.2.2.2.2.2.1, hX.2.2.2.2.2.2.2.2.2.2.2.2.2.2.2.2.2.2.2.2.1, hX.2.2.2.2.2.2.2.2.2.2.2.2.2.2.2.2.2.2.2.2.2.1, hX.2.2.2.2.2.2.2.2.2.2.2.2.2.2.2.2.2.2.2.2.2.2.1, hX.2.2.2.2.2.2.2.2.2.2.2.2.2.2.2.2.2.2.2.2.2.2.2.1, hX.2.2.2.2.2.2.2.2.2.2.2.2.2.2.2.2.2.2.2.2.2.2.2.2.1, hX.2.2.2.2.2.2.2.2.2.2.2.2.2.2.2.2.2.2.2.2.2.2.2.2.2.1, hX.2.2.2.2.2.2.2.2.2.2.2.2.2.2.2.2.2.2.2.2.2.2.2.2.2.2⟩ ⟨hM.1, hM.2.1, hM.2.2⟩ hR hP hD hS hl
  · have bb4 := i32b a1
    refine behR (runVP (As := [.int a1, .int a2]) (rest := []) ⟨hx, hb, hml, hown, ht⟩ (sX10_follows_hi l G cs h1 (Q 0) (F 0) (A 0) (B 0) (D 0) hX.1 (Q 4) (F 4) (A 4) (B 4) (D 4) hX.2.2.2.2.1 (Q 5) (F 5) (A 5) (B 5) (D 5) hX.2.2.2.2.2.1 a1 a2 (by omega)) okV_RL_229 ⟨(Nat.le_of_ble_eq_true rfl), (Nat.le_of_ble_eq_true rfl)⟩ hK hP [0, 1, 2, 14, 15, 16, 17, 18, 19, 20, 21, 22, 23] rfl 0 rfl rfl hl.1 rfl (Nat.le_of_ble_eq_true rfl) dL_law_1691 ⟨(Nat.le_of_ble_eq_true rfl), (Nat.le_of_ble_eq_true rfl)⟩) hP hS (fun _ h => h) (fun r5 H locs hr5 hP hS => ?_)
    refine lv_pop hx hb dL_law_1694 rfl ?_
    refine lv_aload_n hx hb dL_law_1695 rfl (lv_at hl 1 rfl) ?_
    refine lv_aload_n hx hb dL_law_1696 rfl (lv_at hl 3 rfl) ?_
    refine lv_iload_n hx hb dL_law_1697 rfl (lv_at hl 0 rfl) ?_
    refine lv_iconst (v := 1) hx hb dL_law_1698 (by decide) ?_
    refine lv_iadd hx hb dL_law_1699 ?_
    refine va_sld hx hb hXs hbl hbA hS (inK t1 (by omega) (by omega)) dL_law_1700 ?_
    refine W.eq (g2 := F0 m 1701 ls [.int a1, .ref h2]) (by rw [← ea1]) ?_
    refine lv_aload_n hx hb dL_law_1701 rfl (lv_at hl 3 rfl) ?_
    refine lv_iload_n hx hb dL_law_1702 rfl (lv_at hl 0 rfl) ?_
    refine lv_iconst (v := 2) hx hb dL_law_1703 (by decide) ?_
    refine lv_iadd hx hb dL_law_1704 ?_
    refine va_sld hx hb hXs hbl hbA hS (inK t2 (by omega) (by omega)) dL_law_1705 ?_
    refine W.eq (g2 := F0 m 1706 ls [.int a2, .int a1, .ref h2]) (by rw [← ea2]) ?_
    refine behR (runVP (As := [.int a1, .int a2]) (rest := []) ⟨hx, hb, hml, hown, ht⟩ (sX11_follows l G cs h2 q2 MF MA MD MB hM.1 a1 a2) okV_RL_232 ⟨(Nat.le_of_ble_eq_true rfl), (Nat.le_of_ble_eq_true rfl)⟩ hK hP [101, 102, 103, 104, 105, 106, 107, 108, 109, 110, 111, 112, 113, 114, 115, 116, 117, 118, 119, 120] rfl 101 rfl rfl hl.1 rfl (Nat.le_of_ble_eq_true rfl) dL_law_1706 ⟨(Nat.le_of_ble_eq_true rfl), (Nat.le_of_ble_eq_true rfl)⟩) hP hS (fun _ h => h) (fun r6 H locs hr6 hP hS => ?_)
    refine lv_pop hx hb dL_law_1709 rfl ?_
    refine lv_goto (tgt := 2156) hx hb dL_law_1710 (by decide) ?_
    exact kk F A B D MF MA MD MB H locs ls ⟨hX.1, hX.2.1, hX.2.2.1, hX.2.2.2.1, hX.2.2.2.2.1, hX.2.2.2.2.2.1, hX.2.2.2.2.2.2.1, hX.2.2.2.2.2.2.2.1, hX.2.2.2.2.2.2.2.2.1, hX.2.2.2.2.2.2.2.2.2.1, hX.2.2.2.2.2.2.2.2.2.2.1, hX.2.2.2.2.2.2.2.2.2.2.2.1, hX.2.2.2.2.2.2.2.2.2.2.2.2.1, hX.2.2.2.2.2.2.2.2.2.2.2.2.2.1, hX.2.2.2.2.2.2.2.2.2.2.2.2.2.2.1, hX.2.2.2.2.2.2.2.2.2.2.2.2.2.2.2.1, hX.2.2.2.2.2.2.2.2.2.2.2.2.2.2.2.2.1, hX.2.2.2.2.2.2.2.2.2.2.2.2.2.2.2.2.2.1, hX.2.2.2.2.2.2.2.2.2.2.2.2.2.2.2.2.2.2.1, hX.2.2.2.2.2.2.2.2.2.2.2.2.2.2.2.2.2.2.2.1, hX.2.2.2.2.2.2.2.2.2.2.2.2.2.2.2.2.2.2.2.2.1, hX.2.2.2.2.2.2.2.2.2.2.2.2.2.2.2.2.2.2.2.2.2.1, hX.2.2.2.2.2.2.2.2.2.2.2.2.2.2.2.2.2.2.2.2.2.2.1, hX.2.2.2.2.2.2.2.2.2.2.2.2.2.2.2.2.2.2.2.2.2.2.2.1, hX.2.2.2.2.2.2.2.2.2.2.2.2.2.2.2.2.2.2.2.2.2.2.2.2.1, hX.2.2.2.2.2.2.2.2.2.2.2.2.2.2.2.2.2.2.2.2.2.2.2.2.2.1, hX.2.2.2.2.2.2.2.2.2.2.2.2.2.2.2.2.2.2.2.2.2.2.2.2.2.2⟩ ⟨hM.1, hM.2.1, hM.2.2⟩ hR hP hD hS hl
  · refine behR (runVP (As := [.int 0, .int a2]) (rest := []) ⟨hx, hb, hml, hown, ht⟩ (sX10_follows_0 l G cs h1 (Q 0) (F 0) (A 0) (B 0) (D 0) hX.1 (Q 4) (F 4) (A 4) (B 4) (D 4) hX.2.2.2.2.1 (Q 5) (F 5) (A 5) (B 5) (D 5) hX.2.2.2.2.2.1 (Q 12) (F 12) (A 12) (B 12) (D 12) hX.2.2.2.2.2.2.2.2.2.2.2.2.1 a2) okV_RL_229 ⟨(Nat.le_of_ble_eq_true rfl), (Nat.le_of_ble_eq_true rfl)⟩ hK hP [0, 1, 2, 14, 15, 16, 17, 18, 19, 20, 21, 22, 23, 48, 49] rfl 0 rfl rfl hl.1 rfl (Nat.le_of_ble_eq_true rfl) dL_law_1691 ⟨(Nat.le_of_ble_eq_true rfl), (Nat.le_of_ble_eq_true rfl)⟩) hP hS (fun _ h => h) (fun r7 H locs hr7 hP hS => ?_)
    refine lv_pop hx hb dL_law_1694 rfl ?_
    refine lv_aload_n hx hb dL_law_1695 rfl (lv_at hl 1 rfl) ?_
    refine lv_aload_n hx hb dL_law_1696 rfl (lv_at hl 3 rfl) ?_
    refine lv_iload_n hx hb dL_law_1697 rfl (lv_at hl 0 rfl) ?_
    refine lv_iconst (v := 1) hx hb dL_law_1698 (by decide) ?_
    refine lv_iadd hx hb dL_law_1699 ?_
    refine va_sld hx hb hXs hbl hbA hS (inK t1 (by omega) (by omega)) dL_law_1700 ?_
    refine W.eq (g2 := F0 m 1701 ls [.int 0, .ref h2]) (by rw [← ea1]) ?_
    refine lv_aload_n hx hb dL_law_1701 rfl (lv_at hl 3 rfl) ?_
    refine lv_iload_n hx hb dL_law_1702 rfl (lv_at hl 0 rfl) ?_
    refine lv_iconst (v := 2) hx hb dL_law_1703 (by decide) ?_
    refine lv_iadd hx hb dL_law_1704 ?_
    refine va_sld hx hb hXs hbl hbA hS (inK t2 (by omega) (by omega)) dL_law_1705 ?_
    refine W.eq (g2 := F0 m 1706 ls [.int a2, .int 0, .ref h2]) (by rw [← ea2]) ?_
    refine behR (runVP (As := [.int 0, .int a2]) (rest := []) ⟨hx, hb, hml, hown, ht⟩ (sX11_follows l G cs h2 q2 MF MA MD MB hM.1 0 a2) okV_RL_232 ⟨(Nat.le_of_ble_eq_true rfl), (Nat.le_of_ble_eq_true rfl)⟩ hK hP [101, 102, 103, 104, 105, 106, 107, 108, 109, 110, 111, 112, 113, 114, 115, 116, 117, 118, 119, 120] rfl 101 rfl rfl hl.1 rfl (Nat.le_of_ble_eq_true rfl) dL_law_1706 ⟨(Nat.le_of_ble_eq_true rfl), (Nat.le_of_ble_eq_true rfl)⟩) hP hS (fun _ h => h) (fun r8 H locs hr8 hP hS => ?_)
    refine lv_pop hx hb dL_law_1709 rfl ?_
    refine lv_goto (tgt := 2156) hx hb dL_law_1710 (by decide) ?_
    exact kk F A B D MF MA MD MB H locs ls ⟨hX.1, hX.2.1, hX.2.2.1, hX.2.2.2.1, hX.2.2.2.2.1, hX.2.2.2.2.2.1, hX.2.2.2.2.2.2.1, hX.2.2.2.2.2.2.2.1, hX.2.2.2.2.2.2.2.2.1, hX.2.2.2.2.2.2.2.2.2.1, hX.2.2.2.2.2.2.2.2.2.2.1, hX.2.2.2.2.2.2.2.2.2.2.2.1, hX.2.2.2.2.2.2.2.2.2.2.2.2.1, hX.2.2.2.2.2.2.2.2.2.2.2.2.2.1, hX.2.2.2.2.2.2.2.2.2.2.2.2.2.2.1, hX.2.2.2.2.2.2.2.2.2.2.2.2.2.2.2.1, hX.2.2.2.2.2.2.2.2.2.2.2.2.2.2.2.2.1, hX.2.2.2.2.2.2.2.2.2.2.2.2.2.2.2.2.2.1, hX.2.2.2.2.2.2.2.2.2.2.2.2.2.2.2.2.2.2.1, hX.2.2.2.2.2.2.2.2.2.2.2.2.2.2.2.2.2.2.2.1, hX.2.2.2.2.2.2.2.2.2.2.2.2.2.2.2.2.2.2.2.2.1, hX.2.2.2.2.2.2.2.2.2.2.2.2.2.2.2.2.2.2.2.2.2.1, hX.2.2.2.2.2.2.2.2.2.2.2.2.2.2.2.2.2.2.2.2.2.2.1, hX.2.2.2.2.2.2.2.2.2.2.2.2.2.2.2.2.2.2.2.2.2.2.2.1, hX.2.2.2.2.2.2.2.2.2.2.2.2.2.2.2.2.2.2.2.2.2.2.2.2.1, hX.2.2.2.2.2.2.2.2.2.2.2.2.2.2.2.2.2.2.2.2.2.2.2.2.2.1, hX.2.2.2.2.2.2.2.2.2.2.2.2.2.2.2.2.2.2.2.2.2.2.2.2.2.2⟩ ⟨hM.1, hM.2.1, hM.2.2⟩ hR hP hD hS hl
  · refine behR (runVP (As := [.int 1, .int a2]) (rest := []) ⟨hx, hb, hml, hown, ht⟩ (sX10_follows_1 l G cs h1 (Q 0) (F 0) (A 0) (B 0) (D 0) hX.1 (Q 4) (F 4) (A 4) (B 4) (D 4) hX.2.2.2.2.1 (Q 5) (F 5) (A 5) (B 5) (D 5) hX.2.2.2.2.2.1 (Q 13) (F 13) (A 13) (B 13) (D 13) hX.2.2.2.2.2.2.2.2.2.2.2.2.2.1 a2) okV_RL_229 ⟨(Nat.le_of_ble_eq_true rfl), (Nat.le_of_ble_eq_true rfl)⟩ hK hP [0, 1, 2, 14, 15, 16, 17, 18, 19, 20, 21, 22, 23, 50, 51] rfl 0 rfl rfl hl.1 rfl (Nat.le_of_ble_eq_true rfl) dL_law_1691 ⟨(Nat.le_of_ble_eq_true rfl), (Nat.le_of_ble_eq_true rfl)⟩) hP hS (fun _ h => h) (fun r9 H locs hr9 hP hS => ?_)
    refine lv_pop hx hb dL_law_1694 rfl ?_
    refine lv_aload_n hx hb dL_law_1695 rfl (lv_at hl 1 rfl) ?_
    refine lv_aload_n hx hb dL_law_1696 rfl (lv_at hl 3 rfl) ?_
    refine lv_iload_n hx hb dL_law_1697 rfl (lv_at hl 0 rfl) ?_
    refine lv_iconst (v := 1) hx hb dL_law_1698 (by decide) ?_
    refine lv_iadd hx hb dL_law_1699 ?_
    refine va_sld hx hb hXs hbl hbA hS (inK t1 (by omega) (by omega)) dL_law_1700 ?_
    refine W.eq (g2 := F0 m 1701 ls [.int 1, .ref h2]) (by rw [← ea1]) ?_
    refine lv_aload_n hx hb dL_law_1701 rfl (lv_at hl 3 rfl) ?_
    refine lv_iload_n hx hb dL_law_1702 rfl (lv_at hl 0 rfl) ?_
    refine lv_iconst (v := 2) hx hb dL_law_1703 (by decide) ?_
    refine lv_iadd hx hb dL_law_1704 ?_
    refine va_sld hx hb hXs hbl hbA hS (inK t2 (by omega) (by omega)) dL_law_1705 ?_
    refine W.eq (g2 := F0 m 1706 ls [.int a2, .int 1, .ref h2]) (by rw [← ea2]) ?_
    refine behR (runVP (As := [.int 1, .int a2]) (rest := []) ⟨hx, hb, hml, hown, ht⟩ (sX11_follows l G cs h2 q2 MF MA MD MB hM.1 1 a2) okV_RL_232 ⟨(Nat.le_of_ble_eq_true rfl), (Nat.le_of_ble_eq_true rfl)⟩ hK hP [101, 102, 103, 104, 105, 106, 107, 108, 109, 110, 111, 112, 113, 114, 115, 116, 117, 118, 119, 120] rfl 101 rfl rfl hl.1 rfl (Nat.le_of_ble_eq_true rfl) dL_law_1706 ⟨(Nat.le_of_ble_eq_true rfl), (Nat.le_of_ble_eq_true rfl)⟩) hP hS (fun _ h => h) (fun r10 H locs hr10 hP hS => ?_)
    refine lv_pop hx hb dL_law_1709 rfl ?_
    refine lv_goto (tgt := 2156) hx hb dL_law_1710 (by decide) ?_
    exact kk F A B D MF MA MD MB H locs ls ⟨hX.1, hX.2.1, hX.2.2.1, hX.2.2.2.1, hX.2.2.2.2.1, hX.2.2.2.2.2.1, hX.2.2.2.2.2.2.1, hX.2.2.2.2.2.2.2.1, hX.2.2.2.2.2.2.2.2.1, hX.2.2.2.2.2.2.2.2.2.1, hX.2.2.2.2.2.2.2.2.2.2.1, hX.2.2.2.2.2.2.2.2.2.2.2.1, hX.2.2.2.2.2.2.2.2.2.2.2.2.1, hX.2.2.2.2.2.2.2.2.2.2.2.2.2.1, hX.2.2.2.2.2.2.2.2.2.2.2.2.2.2.1, hX.2.2.2.2.2.2.2.2.2.2.2.2.2.2.2.1, hX.2.2.2.2.2.2.2.2.2.2.2.2.2.2.2.2.1, hX.2.2.2.2.2.2.2.2.2.2.2.2.2.2.2.2.2.1, hX.2.2.2.2.2.2.2.2.2.2.2.2.2.2.2.2.2.2.1, hX.2.2.2.2.2.2.2.2.2.2.2.2.2.2.2.2.2.2.2.1, hX.2.2.2.2.2.2.2.2.2.2.2.2.2.2.2.2.2.2.2.2.1, hX.2.2.2.2.2.2.2.2.2.2.2.2.2.2.2.2.2.2.2.2.2.1, hX.2.2.2.2.2.2.2.2.2.2.2.2.2.2.2.2.2.2.2.2.2.2.1, hX.2.2.2.2.2.2.2.2.2.2.2.2.2.2.2.2.2.2.2.2.2.2.2.1, hX.2.2.2.2.2.2.2.2.2.2.2.2.2.2.2.2.2.2.2.2.2.2.2.2.1, hX.2.2.2.2.2.2.2.2.2.2.2.2.2.2.2.2.2.2.2.2.2.2.2.2.2.1, hX.2.2.2.2.2.2.2.2.2.2.2.2.2.2.2.2.2.2.2.2.2.2.2.2.2.2⟩ ⟨hM.1, hM.2.1, hM.2.2⟩ hR hP hD hS hl
  · refine behR (runVP (As := [.int 2, .int a2]) (rest := []) ⟨hx, hb, hml, hown, ht⟩ (sX10_follows_2 l G cs h1 (Q 0) (F 0) (A 0) (B 0) (D 0) hX.1 (Q 4) (F 4) (A 4) (B 4) (D 4) hX.2.2.2.2.1 (Q 5) (F 5) (A 5) (B 5) (D 5) hX.2.2.2.2.2.1 (Q 14) (F 14) (A 14) (B 14) (D 14) hX.2.2.2.2.2.2.2.2.2.2.2.2.2.2.1 a2) okV_RL_229 ⟨(Nat.le_of_ble_eq_true rfl), (Nat.le_of_ble_eq_true rfl)⟩ hK hP [0, 1, 2, 14, 15, 16, 17, 18, 19, 20, 21, 22, 23, 52, 53] rfl 0 rfl rfl hl.1 rfl (Nat.le_of_ble_eq_true rfl) dL_law_1691 ⟨(Nat.le_of_ble_eq_true rfl), (Nat.le_of_ble_eq_true rfl)⟩) hP hS (fun _ h => h) (fun r11 H locs hr11 hP hS => ?_)
    refine lv_pop hx hb dL_law_1694 rfl ?_
    refine lv_aload_n hx hb dL_law_1695 rfl (lv_at hl 1 rfl) ?_
    refine lv_aload_n hx hb dL_law_1696 rfl (lv_at hl 3 rfl) ?_
    refine lv_iload_n hx hb dL_law_1697 rfl (lv_at hl 0 rfl) ?_
    refine lv_iconst (v := 1) hx hb dL_law_1698 (by decide) ?_
    refine lv_iadd hx hb dL_law_1699 ?_
    refine va_sld hx hb hXs hbl hbA hS (inK t1 (by omega) (by omega)) dL_law_1700 ?_
    refine W.eq (g2 := F0 m 1701 ls [.int 2, .ref h2]) (by rw [← ea1]) ?_
    refine lv_aload_n hx hb dL_law_1701 rfl (lv_at hl 3 rfl) ?_
    refine lv_iload_n hx hb dL_law_1702 rfl (lv_at hl 0 rfl) ?_
    refine lv_iconst (v := 2) hx hb dL_law_1703 (by decide) ?_
    refine lv_iadd hx hb dL_law_1704 ?_
    refine va_sld hx hb hXs hbl hbA hS (inK t2 (by omega) (by omega)) dL_law_1705 ?_
    refine W.eq (g2 := F0 m 1706 ls [.int a2, .int 2, .ref h2]) (by rw [← ea2]) ?_
    refine behR (runVP (As := [.int 2, .int a2]) (rest := []) ⟨hx, hb, hml, hown, ht⟩ (sX11_follows l G cs h2 q2 MF MA MD MB hM.1 2 a2) okV_RL_232 ⟨(Nat.le_of_ble_eq_true rfl), (Nat.le_of_ble_eq_true rfl)⟩ hK hP [101, 102, 103, 104, 105, 106, 107, 108, 109, 110, 111, 112, 113, 114, 115, 116, 117, 118, 119, 120] rfl 101 rfl rfl hl.1 rfl (Nat.le_of_ble_eq_true rfl) dL_law_1706 ⟨(Nat.le_of_ble_eq_true rfl), (Nat.le_of_ble_eq_true rfl)⟩) hP hS (fun _ h => h) (fun r12 H locs hr12 hP hS => ?_)
    refine lv_pop hx hb dL_law_1709 rfl ?_
    refine lv_goto (tgt := 2156) hx hb dL_law_1710 (by decide) ?_
    exact kk F A B D MF MA MD MB H locs ls ⟨hX.1, hX.2.1, hX.2.2.1, hX.2.2.2.1, hX.2.2.2.2.1, hX.2.2.2.2.2.1, hX.2.2.2.2.2.2.1, hX.2.2.2.2.2.2.2.1, hX.2.2.2.2.2.2.2.2.1, hX.2.2.2.2.2.2.2.2.2.1, hX.2.2.2.2.2.2.2.2.2.2.1, hX.2.2.2.2.2.2.2.2.2.2.2.1, hX.2.2.2.2.2.2.2.2.2.2.2.2.1, hX.2.2.2.2.2.2.2.2.2.2.2.2.2.1, hX.2.2.2.2.2.2.2.2.2.2.2.2.2.2.1, hX.2.2.2.2.2.2.2.2.2.2.2.2.2.2.2.1, hX.2.2.2.2.2.2.2.2.2.2.2.2.2.2.2.2.1, hX.2.2.2.2.2.2.2.2.2.2.2.2.2.2.2.2.2.1, hX.2.2.2.2.2.2.2.2.2.2.2.2.2.2.2.2.2.2.1, hX.2.2.2.2.2.2.2.2.2.2.2.2.2.2.2.2.2.2.2.1, hX.2.2.2.2.2.2.2.2.2.2.2.2.2.2.2.2.2.2.2.2.1, hX.2.2.2.2.2.2.2.2.2.2.2.2.2.2.2.2.2.2.2.2.2.1, hX.2.2.2.2.2.2.2.2.2.2.2.2.2.2.2.2.2.2.2.2.2.2.1, hX.2.2.2.2.2.2.2.2.2.2.2.2.2.2.2.2.2.2.2.2.2.2.2.1, hX.2.2.2.2.2.2.2.2.2.2.2.2.2.2.2.2.2.2.2.2.2.2.2.2.1, hX.2.2.2.2.2.2.2.2.2.2.2.2.2.2.2.2.2.2.2.2.2.2.2.2.2.1, hX.2.2.2.2.2.2.2.2.2.2.2.2.2.2.2.2.2.2.2.2.2.2.2.2.2.2⟩ ⟨hM.1, hM.2.1, hM.2.2⟩ hR hP hD hS hl
  · refine behR (runVP (As := [.int 3, .int a2]) (rest := []) ⟨hx, hb, hml, hown, ht⟩ (sX10_follows_3 l G cs h1 (Q 0) (F 0) (A 0) (B 0) (D 0) hX.1 (Q 4) (F 4) (A 4) (B 4) (D 4) hX.2.2.2.2.1 (Q 5) (F 5) (A 5) (B 5) (D 5) hX.2.2.2.2.2.1 (Q 15) (F 15) (A 15) (B 15) (D 15) hX.2.2.2.2.2.2.2.2.2.2.2.2.2.2.2.1 a2) okV_RL_229 ⟨(Nat.le_of_ble_eq_true rfl), (Nat.le_of_ble_eq_true rfl)⟩ hK hP [0, 1, 2, 14, 15, 16, 17, 18, 19, 20, 21, 22, 23, 54, 55] rfl 0 rfl rfl hl.1 rfl (Nat.le_of_ble_eq_true rfl) dL_law_1691 ⟨(Nat.le_of_ble_eq_true rfl), (Nat.le_of_ble_eq_true rfl)⟩) hP hS (fun _ h => h) (fun r13 H locs hr13 hP hS => ?_)
    refine lv_pop hx hb dL_law_1694 rfl ?_
    refine lv_aload_n hx hb dL_law_1695 rfl (lv_at hl 1 rfl) ?_
    refine lv_aload_n hx hb dL_law_1696 rfl (lv_at hl 3 rfl) ?_
    refine lv_iload_n hx hb dL_law_1697 rfl (lv_at hl 0 rfl) ?_
    refine lv_iconst (v := 1) hx hb dL_law_1698 (by decide) ?_
    refine lv_iadd hx hb dL_law_1699 ?_
    refine va_sld hx hb hXs hbl hbA hS (inK t1 (by omega) (by omega)) dL_law_1700 ?_
    refine W.eq (g2 := F0 m 1701 ls [.int 3, .ref h2]) (by rw [← ea1]) ?_
    refine lv_aload_n hx hb dL_law_1701 rfl (lv_at hl 3 rfl) ?_
    refine lv_iload_n hx hb dL_law_1702 rfl (lv_at hl 0 rfl) ?_
    refine lv_iconst (v := 2) hx hb dL_law_1703 (by decide) ?_
    refine lv_iadd hx hb dL_law_1704 ?_
    refine va_sld hx hb hXs hbl hbA hS (inK t2 (by omega) (by omega)) dL_law_1705 ?_
    refine W.eq (g2 := F0 m 1706 ls [.int a2, .int 3, .ref h2]) (by rw [← ea2]) ?_
    refine behR (runVP (As := [.int 3, .int a2]) (rest := []) ⟨hx, hb, hml, hown, ht⟩ (sX11_follows l G cs h2 q2 MF MA MD MB hM.1 3 a2) okV_RL_232 ⟨(Nat.le_of_ble_eq_true rfl), (Nat.le_of_ble_eq_true rfl)⟩ hK hP [101, 102, 103, 104, 105, 106, 107, 108, 109, 110, 111, 112, 113, 114, 115, 116, 117, 118, 119, 120] rfl 101 rfl rfl hl.1 rfl (Nat.le_of_ble_eq_true rfl) dL_law_1706 ⟨(Nat.le_of_ble_eq_true rfl), (Nat.le_of_ble_eq_true rfl)⟩) hP hS (fun _ h => h) (fun r14 H locs hr14 hP hS => ?_)
    refine lv_pop hx hb dL_law_1709 rfl ?_
    refine lv_goto (tgt := 2156) hx hb dL_law_1710 (by decide) ?_
    exact kk F A B D MF MA MD MB H locs ls ⟨hX.1, hX.2.1, hX.2.2.1, hX.2.2.2.1, hX.2.2.2.2.1, hX.2.2.2.2.2.1, hX.2.2.2.2.2.2.1, hX.2.2.2.2.2.2.2.1, hX.2.2.2.2.2.2.2.2.1, hX.2.2.2.2.2.2.2.2.2.1, hX.2.2.2.2.2.2.2.2.2.2.1, hX.2.2.2.2.2.2.2.2.2.2.2.1, hX.2.2.2.2.2.2.2.2.2.2.2.2.1, hX.2.2.2.2.2.2.2.2.2.2.2.2.2.1, hX.2.2.2.2.2.2.2.2.2.2.2.2.2.2.1, hX.2.2.2.2.2.2.2.2.2.2.2.2.2.2.2.1, hX.2.2.2.2.2.2.2.2.2.2.2.2.2.2.2.2.1, hX.2.2.2.2.2.2.2.2.2.2.2.2.2.2.2.2.2.1, hX.2.2.2.2.2.2.2.2.2.2.2.2.2.2.2.2.2.2.1, hX.2.2.2.2.2.2.2.2.2.2.2.2.2.2.2.2.2.2.2.1, hX.2.2.2.2.2.2.2.2.2.2.2.2.2.2.2.2.2.2.2.2.1, hX.2.2.2.2.2.2.2.2.2.2.2.2.2.2.2.2.2.2.2.2.2.1, hX.2.2.2.2.2.2.2.2.2.2.2.2.2.2.2.2.2.2.2.2.2.2.1, hX.2.2.2.2.2.2.2.2.2.2.2.2.2.2.2.2.2.2.2.2.2.2.2.1, hX.2.2.2.2.2.2.2.2.2.2.2.2.2.2.2.2.2.2.2.2.2.2.2.2.1, hX.2.2.2.2.2.2.2.2.2.2.2.2.2.2.2.2.2.2.2.2.2.2.2.2.2.1, hX.2.2.2.2.2.2.2.2.2.2.2.2.2.2.2.2.2.2.2.2.2.2.2.2.2.2⟩ ⟨hM.1, hM.2.1, hM.2.2⟩ hR hP hD hS hl

set_option maxRecDepth 100000 in
set_option maxHeartbeats 16000000 in
theorem law_53 {p : Program} {l : Launch} {e : Env} {s : State} {m : MethodId} {below : List Frame} {meth : Method} {c : Code} {b L : Nat} {xs : Nat → Int32} {G : va_G} {cs : Nat → ClassId} {h1 : Nat} {Q : Nat → Nat → Nat} {h2 : Nat} {q2 : Nat → Nat} {sd : Nat → Nat × Nat} {i : Int32} : LCase p l e s m below meth c b G cs h1 Q h2 q2 i L xs sd 53 := by
  intro C0 hL hK hQ hQM hi0 hi6 kk F A B D MF MA MD MB H locs ls hX hM hR hP hD hS hl
  obtain ⟨hx, hb, hr, hml, hown, hts, hXs, hbl, hlocks, hgv⟩ := id C0
  have hown : s.vm.findClass RL = some m.cls := hown
  have ht : ∀ w ∈ tb, w.before #[Value.ref b] s = true := fun w h => hts w (List.mem_filter.mp h).1
  have hbA : ¬ (fun q : Nat => s.heap.size ≤ q) b := Nat.not_le.mpr hbl
  have t1 : (i + 1).toInt = i.toInt + 1 := addT rfl (by decide) (by omega)
  obtain ⟨a1, ea1⟩ : ∃ z : Int32, z = xs (i + 1).toNatClampNeg := ⟨_, rfl⟩
  refine lv_tableIn (off := 1680) (tgt := 1713) hx hb dL_law_33 (by decide) (by decide) (by decide) (by decide) ?_
  refine lv_aload_n hx hb dL_law_1713 rfl (lv_at hl 2 rfl) ?_
  refine lv_aload_n hx hb dL_law_1714 rfl (lv_at hl 3 rfl) ?_
  refine lv_iload_n hx hb dL_law_1715 rfl (lv_at hl 0 rfl) ?_
  refine lv_iconst (v := 1) hx hb dL_law_1716 (by decide) ?_
  refine lv_iadd hx hb dL_law_1717 ?_
  refine va_sld hx hb hXs hbl hbA hS (inK t1 (by omega) (by omega)) dL_law_1718 ?_
  refine W.eq (g2 := F0 m 1719 ls [.int a1, .ref h1]) (by rw [← ea1]) ?_
  rcases csN4 a1 with hN | hN | rfl | rfl | rfl | rfl
  · have bb1 := i32b a1
    refine behR (runVP (As := [.int a1]) (rest := []) ⟨hx, hb, hml, hown, ht⟩ (sX10_period_lo l G cs h1 (Q 0) (F 0) (A 0) (B 0) (D 0) hX.1 (Q 4) (F 4) (A 4) (B 4) (D 4) hX.2.2.2.2.1 (Q 5) (F 5) (A 5) (B 5) (D 5) hX.2.2.2.2.2.1 a1 (by omega)) okV_RL_233 ⟨(Nat.le_of_ble_eq_true rfl), (Nat.le_of_ble_eq_true rfl)⟩ hK hP [0, 1, 2, 14, 15, 16, 17, 18, 19, 20, 21, 22, 23] rfl 0 rfl rfl hl.1 rfl (Nat.le_of_ble_eq_true rfl) dL_law_1719 ⟨(Nat.le_of_ble_eq_true rfl), (Nat.le_of_ble_eq_true rfl)⟩) hP hS (fun _ h => h) (fun r2 H locs hr2 hP hS => ?_)
    refine lv_pop hx hb dL_law_1722 rfl ?_
    refine lv_aload_n hx hb dL_law_1723 rfl (lv_at hl 1 rfl) ?_
    refine lv_aload_n hx hb dL_law_1724 rfl (lv_at hl 3 rfl) ?_
    refine lv_iload_n hx hb dL_law_1725 rfl (lv_at hl 0 rfl) ?_
    refine lv_iconst (v := 1) hx hb dL_law_1726 (by decide) ?_
    refine lv_iadd hx hb dL_law_1727 ?_
    refine va_sld hx hb hXs hbl hbA hS (inK t1 (by omega) (by omega)) dL_law_1728 ?_
    refine W.eq (g2 := F0 m 1729 ls [.int a1, .ref h2]) (by rw [← ea1]) ?_
    refine behR (runVP (As := [.int a1]) (rest := []) ⟨hx, hb, hml, hown, ht⟩ (sX11_period l G cs h2 q2 MF MA MD MB hM.1 a1) okV_RL_236 ⟨(Nat.le_of_ble_eq_true rfl), (Nat.le_of_ble_eq_true rfl)⟩ hK hP [101, 102, 103, 104, 105, 106, 107, 108, 109, 110, 111, 112, 113, 114, 115, 116, 117, 118, 119, 120] rfl 101 rfl rfl hl.1 rfl (Nat.le_of_ble_eq_true rfl) dL_law_1729 ⟨(Nat.le_of_ble_eq_true rfl), (Nat.le_of_ble_eq_true rfl)⟩) hP hS (fun _ h => h) (fun r3 H locs hr3 hP hS => ?_)
    refine lv_pop hx hb dL_law_1732 rfl ?_
    refine lv_goto (tgt := 2156) hx hb dL_law_1733 (by decide) ?_
    exact kk F A B D MF MA MD MB H locs ls ⟨hX.1, hX.2.1, hX.2.2.1, hX.2.2.2.1, hX.2.2.2.2.1, hX.2.2.2.2.2.1, hX.2.2.2.2.2.2.1, hX.2.2.2.2.2.2.2.1, hX.2.2.2.2.2.2.2.2.1, hX.2.2.2.2.2.2.2.2.2.1, hX.2.2.2.2.2.2.2.2.2.2.1, hX.2.2.2.2.2.2.2.2.2.2.2.1, hX.2.2.2.2.2.2.2.2.2.2.2.2.1, hX.2.2.2.2.2.2.2.2.2.2.2.2.2.1, hX.2.2.2.2.2.2.2.2.2.2.2.2.2.2.1, hX.2.2.2.2.2.2.2.2.2.2.2.2.2.2.2.1, hX.2.2.2.2.2.2.2.2.2.2.2.2.2.2.2.2.1, hX.2.2.2.2.2.2.2.2.2.2.2.2.2.2.2.2.2.1, hX.2.2.2.2.2.2.2.2.2.2.2.2.2.2.2.2.2.2.1, hX.2.2.2.2.2.2.2.2.2.2.2.2.2.2.2.2.2.2.2.1, hX.2.2.2.2.2.2.2.2.2.2.2.2.2.2.2.2.2.2.2.2.1, hX.2.2.2.2.2.2.2.2.2.2.2.2.2.2.2.2.2.2.2.2.2.1, hX.2.2.2.2.2.2.2.2.2.2.2.2.2.2.2.2.2.2.2.2.2.2.1, hX.2.2.2.2.2.2.2.2.2.2.2.2.2.2.2.2.2.2.2.2.2.2.2.1, hX.2.2.2.2.2.2.2.2.2.2.2.2.2.2.2.2.2.2.2.2.2.2.2.2.1, hX.2.2.2.2.2.2.2.2.2.2.2.2.2.2.2.2.2.2.2.2.2.2.2.2.2.1, hX.2.2.2.2.2.2.2.2.2.2.2.2.2.2.2.2.2.2.2.2.2.2.2.2.2.2⟩ ⟨hM.1, hM.2.1, hM.2.2⟩ hR hP hD hS hl
  · have bb4 := i32b a1
    refine behR (runVP (As := [.int a1]) (rest := []) ⟨hx, hb, hml, hown, ht⟩ (sX10_period_hi l G cs h1 (Q 0) (F 0) (A 0) (B 0) (D 0) hX.1 (Q 4) (F 4) (A 4) (B 4) (D 4) hX.2.2.2.2.1 (Q 5) (F 5) (A 5) (B 5) (D 5) hX.2.2.2.2.2.1 a1 (by omega)) okV_RL_233 ⟨(Nat.le_of_ble_eq_true rfl), (Nat.le_of_ble_eq_true rfl)⟩ hK hP [0, 1, 2, 14, 15, 16, 17, 18, 19, 20, 21, 22, 23] rfl 0 rfl rfl hl.1 rfl (Nat.le_of_ble_eq_true rfl) dL_law_1719 ⟨(Nat.le_of_ble_eq_true rfl), (Nat.le_of_ble_eq_true rfl)⟩) hP hS (fun _ h => h) (fun r5 H locs hr5 hP hS => ?_)
    refine lv_pop hx hb dL_law_1722 rfl ?_
    refine lv_aload_n hx hb dL_law_1723 rfl (lv_at hl 1 rfl) ?_
    refine lv_aload_n hx hb dL_law_1724 rfl (lv_at hl 3 rfl) ?_
    refine lv_iload_n hx hb dL_law_1725 rfl (lv_at hl 0 rfl) ?_
    refine lv_iconst (v := 1) hx hb dL_law_1726 (by decide) ?_
    refine lv_iadd hx hb dL_law_1727 ?_
    refine va_sld hx hb hXs hbl hbA hS (inK t1 (by omega) (by omega)) dL_law_1728 ?_
    refine W.eq (g2 := F0 m 1729 ls [.int a1, .ref h2]) (by rw [← ea1]) ?_
    refine behR (runVP (As := [.int a1]) (rest := []) ⟨hx, hb, hml, hown, ht⟩ (sX11_period l G cs h2 q2 MF MA MD MB hM.1 a1) okV_RL_236 ⟨(Nat.le_of_ble_eq_true rfl), (Nat.le_of_ble_eq_true rfl)⟩ hK hP [101, 102, 103, 104, 105, 106, 107, 108, 109, 110, 111, 112, 113, 114, 115, 116, 117, 118, 119, 120] rfl 101 rfl rfl hl.1 rfl (Nat.le_of_ble_eq_true rfl) dL_law_1729 ⟨(Nat.le_of_ble_eq_true rfl), (Nat.le_of_ble_eq_true rfl)⟩) hP hS (fun _ h => h) (fun r6 H locs hr6 hP hS => ?_)
    refine lv_pop hx hb dL_law_1732 rfl ?_
    refine lv_goto (tgt := 2156) hx hb dL_law_1733 (by decide) ?_
    exact kk F A B D MF MA MD MB H locs ls ⟨hX.1, hX.2.1, hX.2.2.1, hX.2.2.2.1, hX.2.2.2.2.1, hX.2.2.2.2.2.1, hX.2.2.2.2.2.2.1, hX.2.2.2.2.2.2.2.1, hX.2.2.2.2.2.2.2.2.1, hX.2.2.2.2.2.2.2.2.2.1, hX.2.2.2.2.2.2.2.2.2.2.1, hX.2.2.2.2.2.2.2.2.2.2.2.1, hX.2.2.2.2.2.2.2.2.2.2.2.2.1, hX.2.2.2.2.2.2.2.2.2.2.2.2.2.1, hX.2.2.2.2.2.2.2.2.2.2.2.2.2.2.1, hX.2.2.2.2.2.2.2.2.2.2.2.2.2.2.2.1, hX.2.2.2.2.2.2.2.2.2.2.2.2.2.2.2.2.1, hX.2.2.2.2.2.2.2.2.2.2.2.2.2.2.2.2.2.1, hX.2.2.2.2.2.2.2.2.2.2.2.2.2.2.2.2.2.2.1, hX.2.2.2.2.2.2.2.2.2.2.2.2.2.2.2.2.2.2.2.1, hX.2.2.2.2.2.2.2.2.2.2.2.2.2.2.2.2.2.2.2.2.1, hX.2.2.2.2.2.2.2.2.2.2.2.2.2.2.2.2.2.2.2.2.2.1, hX.2.2.2.2.2.2.2.2.2.2.2.2.2.2.2.2.2.2.2.2.2.2.1, hX.2.2.2.2.2.2.2.2.2.2.2.2.2.2.2.2.2.2.2.2.2.2.2.1, hX.2.2.2.2.2.2.2.2.2.2.2.2.2.2.2.2.2.2.2.2.2.2.2.2.1, hX.2.2.2.2.2.2.2.2.2.2.2.2.2.2.2.2.2.2.2.2.2.2.2.2.2.1, hX.2.2.2.2.2.2.2.2.2.2.2.2.2.2.2.2.2.2.2.2.2.2.2.2.2.2⟩ ⟨hM.1, hM.2.1, hM.2.2⟩ hR hP hD hS hl
  · refine behR (runVP (As := [.int 0]) (rest := []) ⟨hx, hb, hml, hown, ht⟩ (sX10_period_0 l G cs h1 (Q 0) (F 0) (A 0) (B 0) (D 0) hX.1 (Q 4) (F 4) (A 4) (B 4) (D 4) hX.2.2.2.2.1 (Q 5) (F 5) (A 5) (B 5) (D 5) hX.2.2.2.2.2.1 (Q 12) (F 12) (A 12) (B 12) (D 12) hX.2.2.2.2.2.2.2.2.2.2.2.2.1) okV_RL_233 ⟨(Nat.le_of_ble_eq_true rfl), (Nat.le_of_ble_eq_true rfl)⟩ hK hP [0, 1, 2, 14, 15, 16, 17, 18, 19, 20, 21, 22, 23, 48, 49] rfl 0 rfl rfl hl.1 rfl (Nat.le_of_ble_eq_true rfl) dL_law_1719 ⟨(Nat.le_of_ble_eq_true rfl), (Nat.le_of_ble_eq_true rfl)⟩) hP hS (fun _ h => h) (fun r7 H locs hr7 hP hS => ?_)
    refine lv_pop hx hb dL_law_1722 rfl ?_
    refine lv_aload_n hx hb dL_law_1723 rfl (lv_at hl 1 rfl) ?_
    refine lv_aload_n hx hb dL_law_1724 rfl (lv_at hl 3 rfl) ?_
    refine lv_iload_n hx hb dL_law_1725 rfl (lv_at hl 0 rfl) ?_
    refine lv_iconst (v := 1) hx hb dL_law_1726 (by decide) ?_
    refine lv_iadd hx hb dL_law_1727 ?_
    refine va_sld hx hb hXs hbl hbA hS (inK t1 (by omega) (by omega)) dL_law_1728 ?_
    refine W.eq (g2 := F0 m 1729 ls [.int 0, .ref h2]) (by rw [← ea1]) ?_
    refine behR (runVP (As := [.int 0]) (rest := []) ⟨hx, hb, hml, hown, ht⟩ (sX11_period l G cs h2 q2 MF MA MD MB hM.1 0) okV_RL_236 ⟨(Nat.le_of_ble_eq_true rfl), (Nat.le_of_ble_eq_true rfl)⟩ hK hP [101, 102, 103, 104, 105, 106, 107, 108, 109, 110, 111, 112, 113, 114, 115, 116, 117, 118, 119, 120] rfl 101 rfl rfl hl.1 rfl (Nat.le_of_ble_eq_true rfl) dL_law_1729 ⟨(Nat.le_of_ble_eq_true rfl), (Nat.le_of_ble_eq_true rfl)⟩) hP hS (fun _ h => h) (fun r8 H locs hr8 hP hS => ?_)
    refine lv_pop hx hb dL_law_1732 rfl ?_
    refine lv_goto (tgt := 2156) hx hb dL_law_1733 (by decide) ?_
    exact kk F A B D MF MA MD MB H locs ls ⟨hX.1, hX.2.1, hX.2.2.1, hX.2.2.2.1, hX.2.2.2.2.1, hX.2.2.2.2.2.1, hX.2.2.2.2.2.2.1, hX.2.2.2.2.2.2.2.1, hX.2.2.2.2.2.2.2.2.1, hX.2.2.2.2.2.2.2.2.2.1, hX.2.2.2.2.2.2.2.2.2.2.1, hX.2.2.2.2.2.2.2.2.2.2.2.1, hX.2.2.2.2.2.2.2.2.2.2.2.2.1, hX.2.2.2.2.2.2.2.2.2.2.2.2.2.1, hX.2.2.2.2.2.2.2.2.2.2.2.2.2.2.1, hX.2.2.2.2.2.2.2.2.2.2.2.2.2.2.2.1, hX.2.2.2.2.2.2.2.2.2.2.2.2.2.2.2.2.1, hX.2.2.2.2.2.2.2.2.2.2.2.2.2.2.2.2.2.1, hX.2.2.2.2.2.2.2.2.2.2.2.2.2.2.2.2.2.2.1, hX.2.2.2.2.2.2.2.2.2.2.2.2.2.2.2.2.2.2.2.1, hX.2.2.2.2.2.2.2.2.2.2.2.2.2.2.2.2.2.2.2.2.1, hX.2.2.2.2.2.2.2.2.2.2.2.2.2.2.2.2.2.2.2.2.2.1, hX.2.2.2.2.2.2.2.2.2.2.2.2.2.2.2.2.2.2.2.2.2.2.1, hX.2.2.2.2.2.2.2.2.2.2.2.2.2.2.2.2.2.2.2.2.2.2.2.1, hX.2.2.2.2.2.2.2.2.2.2.2.2.2.2.2.2.2.2.2.2.2.2.2.2.1, hX.2.2.2.2.2.2.2.2.2.2.2.2.2.2.2.2.2.2.2.2.2.2.2.2.2.1, hX.2.2.2.2.2.2.2.2.2.2.2.2.2.2.2.2.2.2.2.2.2.2.2.2.2.2⟩ ⟨hM.1, hM.2.1, hM.2.2⟩ hR hP hD hS hl
  · refine behR (runVP (As := [.int 1]) (rest := []) ⟨hx, hb, hml, hown, ht⟩ (sX10_period_1 l G cs h1 (Q 0) (F 0) (A 0) (B 0) (D 0) hX.1 (Q 4) (F 4) (A 4) (B 4) (D 4) hX.2.2.2.2.1 (Q 5) (F 5) (A 5) (B 5) (D 5) hX.2.2.2.2.2.1 (Q 13) (F 13) (A 13) (B 13) (D 13) hX.2.2.2.2.2.2.2.2.2.2.2.2.2.1) okV_RL_233 ⟨(Nat.le_of_ble_eq_true rfl), (Nat.le_of_ble_eq_true rfl)⟩ hK hP [0, 1, 2, 14, 15, 16, 17, 18, 19, 20, 21, 22, 23, 50, 51] rfl 0 rfl rfl hl.1 rfl (Nat.le_of_ble_eq_true rfl) dL_law_1719 ⟨(Nat.le_of_ble_eq_true rfl), (Nat.le_of_ble_eq_true rfl)⟩) hP hS (fun _ h => h) (fun r9 H locs hr9 hP hS => ?_)
    refine lv_pop hx hb dL_law_1722 rfl ?_
    refine lv_aload_n hx hb dL_law_1723 rfl (lv_at hl 1 rfl) ?_
    refine lv_aload_n hx hb dL_law_1724 rfl (lv_at hl 3 rfl) ?_
    refine lv_iload_n hx hb dL_law_1725 rfl (lv_at hl 0 rfl) ?_
    refine lv_iconst (v := 1) hx hb dL_law_1726 (by decide) ?_
    refine lv_iadd hx hb dL_law_1727 ?_
    refine va_sld hx hb hXs hbl hbA hS (inK t1 (by omega) (by omega)) dL_law_1728 ?_
    refine W.eq (g2 := F0 m 1729 ls [.int 1, .ref h2]) (by rw [← ea1]) ?_
    refine behR (runVP (As := [.int 1]) (rest := []) ⟨hx, hb, hml, hown, ht⟩ (sX11_period l G cs h2 q2 MF MA MD MB hM.1 1) okV_RL_236 ⟨(Nat.le_of_ble_eq_true rfl), (Nat.le_of_ble_eq_true rfl)⟩ hK hP [101, 102, 103, 104, 105, 106, 107, 108, 109, 110, 111, 112, 113, 114, 115, 116, 117, 118, 119, 120] rfl 101 rfl rfl hl.1 rfl (Nat.le_of_ble_eq_true rfl) dL_law_1729 ⟨(Nat.le_of_ble_eq_true rfl), (Nat.le_of_ble_eq_true rfl)⟩) hP hS (fun _ h => h) (fun r10 H locs hr10 hP hS => ?_)
    refine lv_pop hx hb dL_law_1732 rfl ?_
    refine lv_goto (tgt := 2156) hx hb dL_law_1733 (by decide) ?_
    exact kk F A B D MF MA MD MB H locs ls ⟨hX.1, hX.2.1, hX.2.2.1, hX.2.2.2.1, hX.2.2.2.2.1, hX.2.2.2.2.2.1, hX.2.2.2.2.2.2.1, hX.2.2.2.2.2.2.2.1, hX.2.2.2.2.2.2.2.2.1, hX.2.2.2.2.2.2.2.2.2.1, hX.2.2.2.2.2.2.2.2.2.2.1, hX.2.2.2.2.2.2.2.2.2.2.2.1, hX.2.2.2.2.2.2.2.2.2.2.2.2.1, hX.2.2.2.2.2.2.2.2.2.2.2.2.2.1, hX.2.2.2.2.2.2.2.2.2.2.2.2.2.2.1, hX.2.2.2.2.2.2.2.2.2.2.2.2.2.2.2.1, hX.2.2.2.2.2.2.2.2.2.2.2.2.2.2.2.2.1, hX.2.2.2.2.2.2.2.2.2.2.2.2.2.2.2.2.2.1, hX.2.2.2.2.2.2.2.2.2.2.2.2.2.2.2.2.2.2.1, hX.2.2.2.2.2.2.2.2.2.2.2.2.2.2.2.2.2.2.2.1, hX.2.2.2.2.2.2.2.2.2.2.2.2.2.2.2.2.2.2.2.2.1, hX.2.2.2.2.2.2.2.2.2.2.2.2.2.2.2.2.2.2.2.2.2.1, hX.2.2.2.2.2.2.2.2.2.2.2.2.2.2.2.2.2.2.2.2.2.2.1, hX.2.2.2.2.2.2.2.2.2.2.2.2.2.2.2.2.2.2.2.2.2.2.2.1, hX.2.2.2.2.2.2.2.2.2.2.2.2.2.2.2.2.2.2.2.2.2.2.2.2.1, hX.2.2.2.2.2.2.2.2.2.2.2.2.2.2.2.2.2.2.2.2.2.2.2.2.2.1, hX.2.2.2.2.2.2.2.2.2.2.2.2.2.2.2.2.2.2.2.2.2.2.2.2.2.2⟩ ⟨hM.1, hM.2.1, hM.2.2⟩ hR hP hD hS hl
  · refine behR (runVP (As := [.int 2]) (rest := []) ⟨hx, hb, hml, hown, ht⟩ (sX10_period_2 l G cs h1 (Q 0) (F 0) (A 0) (B 0) (D 0) hX.1 (Q 4) (F 4) (A 4) (B 4) (D 4) hX.2.2.2.2.1 (Q 5) (F 5) (A 5) (B 5) (D 5) hX.2.2.2.2.2.1 (Q 14) (F 14) (A 14) (B 14) (D 14) hX.2.2.2.2.2.2.2.2.2.2.2.2.2.2.1) okV_RL_233 ⟨(Nat.le_of_ble_eq_true rfl), (Nat.le_of_ble_eq_true rfl)⟩ hK hP [0, 1, 2, 14, 15, 16, 17, 18, 19, 20, 21, 22, 23, 52, 53] rfl 0 rfl rfl hl.1 rfl (Nat.le_of_ble_eq_true rfl) dL_law_1719 ⟨(Nat.le_of_ble_eq_true rfl), (Nat.le_of_ble_eq_true rfl)⟩) hP hS (fun _ h => h) (fun r11 H locs hr11 hP hS => ?_)
    refine lv_pop hx hb dL_law_1722 rfl ?_
    refine lv_aload_n hx hb dL_law_1723 rfl (lv_at hl 1 rfl) ?_
    refine lv_aload_n hx hb dL_law_1724 rfl (lv_at hl 3 rfl) ?_
    refine lv_iload_n hx hb dL_law_1725 rfl (lv_at hl 0 rfl) ?_
    refine lv_iconst (v := 1) hx hb dL_law_1726 (by decide) ?_
    refine lv_iadd hx hb dL_law_1727 ?_
    refine va_sld hx hb hXs hbl hbA hS (inK t1 (by omega) (by omega)) dL_law_1728 ?_
    refine W.eq (g2 := F0 m 1729 ls [.int 2, .ref h2]) (by rw [← ea1]) ?_
    refine behR (runVP (As := [.int 2]) (rest := []) ⟨hx, hb, hml, hown, ht⟩ (sX11_period l G cs h2 q2 MF MA MD MB hM.1 2) okV_RL_236 ⟨(Nat.le_of_ble_eq_true rfl), (Nat.le_of_ble_eq_true rfl)⟩ hK hP [101, 102, 103, 104, 105, 106, 107, 108, 109, 110, 111, 112, 113, 114, 115, 116, 117, 118, 119, 120] rfl 101 rfl rfl hl.1 rfl (Nat.le_of_ble_eq_true rfl) dL_law_1729 ⟨(Nat.le_of_ble_eq_true rfl), (Nat.le_of_ble_eq_true rfl)⟩) hP hS (fun _ h => h) (fun r12 H locs hr12 hP hS => ?_)
    refine lv_pop hx hb dL_law_1732 rfl ?_
    refine lv_goto (tgt := 2156) hx hb dL_law_1733 (by decide) ?_
    exact kk F A B D MF MA MD MB H locs ls ⟨hX.1, hX.2.1, hX.2.2.1, hX.2.2.2.1, hX.2.2.2.2.1, hX.2.2.2.2.2.1, hX.2.2.2.2.2.2.1, hX.2.2.2.2.2.2.2.1, hX.2.2.2.2.2.2.2.2.1, hX.2.2.2.2.2.2.2.2.2.1, hX.2.2.2.2.2.2.2.2.2.2.1, hX.2.2.2.2.2.2.2.2.2.2.2.1, hX.2.2.2.2.2.2.2.2.2.2.2.2.1, hX.2.2.2.2.2.2.2.2.2.2.2.2.2.1, hX.2.2.2.2.2.2.2.2.2.2.2.2.2.2.1, hX.2.2.2.2.2.2.2.2.2.2.2.2.2.2.2.1, hX.2.2.2.2.2.2.2.2.2.2.2.2.2.2.2.2.1, hX.2.2.2.2.2.2.2.2.2.2.2.2.2.2.2.2.2.1, hX.2.2.2.2.2.2.2.2.2.2.2.2.2.2.2.2.2.2.1, hX.2.2.2.2.2.2.2.2.2.2.2.2.2.2.2.2.2.2.2.1, hX.2.2.2.2.2.2.2.2.2.2.2.2.2.2.2.2.2.2.2.2.1, hX.2.2.2.2.2.2.2.2.2.2.2.2.2.2.2.2.2.2.2.2.2.1, hX.2.2.2.2.2.2.2.2.2.2.2.2.2.2.2.2.2.2.2.2.2.2.1, hX.2.2.2.2.2.2.2.2.2.2.2.2.2.2.2.2.2.2.2.2.2.2.2.1, hX.2.2.2.2.2.2.2.2.2.2.2.2.2.2.2.2.2.2.2.2.2.2.2.2.1, hX.2.2.2.2.2.2.2.2.2.2.2.2.2.2.2.2.2.2.2.2.2.2.2.2.2.1, hX.2.2.2.2.2.2.2.2.2.2.2.2.2.2.2.2.2.2.2.2.2.2.2.2.2.2⟩ ⟨hM.1, hM.2.1, hM.2.2⟩ hR hP hD hS hl
  · refine behR (runVP (As := [.int 3]) (rest := []) ⟨hx, hb, hml, hown, ht⟩ (sX10_period_3 l G cs h1 (Q 0) (F 0) (A 0) (B 0) (D 0) hX.1 (Q 4) (F 4) (A 4) (B 4) (D 4) hX.2.2.2.2.1 (Q 5) (F 5) (A 5) (B 5) (D 5) hX.2.2.2.2.2.1 (Q 15) (F 15) (A 15) (B 15) (D 15) hX.2.2.2.2.2.2.2.2.2.2.2.2.2.2.2.1) okV_RL_233 ⟨(Nat.le_of_ble_eq_true rfl), (Nat.le_of_ble_eq_true rfl)⟩ hK hP [0, 1, 2, 14, 15, 16, 17, 18, 19, 20, 21, 22, 23, 54, 55] rfl 0 rfl rfl hl.1 rfl (Nat.le_of_ble_eq_true rfl) dL_law_1719 ⟨(Nat.le_of_ble_eq_true rfl), (Nat.le_of_ble_eq_true rfl)⟩) hP hS (fun _ h => h) (fun r13 H locs hr13 hP hS => ?_)
    refine lv_pop hx hb dL_law_1722 rfl ?_
    refine lv_aload_n hx hb dL_law_1723 rfl (lv_at hl 1 rfl) ?_
    refine lv_aload_n hx hb dL_law_1724 rfl (lv_at hl 3 rfl) ?_
    refine lv_iload_n hx hb dL_law_1725 rfl (lv_at hl 0 rfl) ?_
    refine lv_iconst (v := 1) hx hb dL_law_1726 (by decide) ?_
    refine lv_iadd hx hb dL_law_1727 ?_
    refine va_sld hx hb hXs hbl hbA hS (inK t1 (by omega) (by omega)) dL_law_1728 ?_
    refine W.eq (g2 := F0 m 1729 ls [.int 3, .ref h2]) (by rw [← ea1]) ?_
    refine behR (runVP (As := [.int 3]) (rest := []) ⟨hx, hb, hml, hown, ht⟩ (sX11_period l G cs h2 q2 MF MA MD MB hM.1 3) okV_RL_236 ⟨(Nat.le_of_ble_eq_true rfl), (Nat.le_of_ble_eq_true rfl)⟩ hK hP [101, 102, 103, 104, 105, 106, 107, 108, 109, 110, 111, 112, 113, 114, 115, 116, 117, 118, 119, 120] rfl 101 rfl rfl hl.1 rfl (Nat.le_of_ble_eq_true rfl) dL_law_1729 ⟨(Nat.le_of_ble_eq_true rfl), (Nat.le_of_ble_eq_true rfl)⟩) hP hS (fun _ h => h) (fun r14 H locs hr14 hP hS => ?_)
    refine lv_pop hx hb dL_law_1732 rfl ?_
    refine lv_goto (tgt := 2156) hx hb dL_law_1733 (by decide) ?_
    exact kk F A B D MF MA MD MB H locs ls ⟨hX.1, hX.2.1, hX.2.2.1, hX.2.2.2.1, hX.2.2.2.2.1, hX.2.2.2.2.2.1, hX.2.2.2.2.2.2.1, hX.2.2.2.2.2.2.2.1, hX.2.2.2.2.2.2.2.2.1, hX.2.2.2.2.2.2.2.2.2.1, hX.2.2.2.2.2.2.2.2.2.2.1, hX.2.2.2.2.2.2.2.2.2.2.2.1, hX.2.2.2.2.2.2.2.2.2.2.2.2.1, hX.2.2.2.2.2.2.2.2.2.2.2.2.2.1, hX.2.2.2.2.2.2.2.2.2.2.2.2.2.2.1, hX.2.2.2.2.2.2.2.2.2.2.2.2.2.2.2.1, hX.2.2.2.2.2.2.2.2.2.2.2.2.2.2.2.2.1, hX.2.2.2.2.2.2.2.2.2.2.2.2.2.2.2.2.2.1, hX.2.2.2.2.2.2.2.2.2.2.2.2.2.2.2.2.2.2.1, hX.2.2.2.2.2.2.2.2.2.2.2.2.2.2.2.2.2.2.2.1, hX.2.2.2.2.2.2.2.2.2.2.2.2.2.2.2.2.2.2.2.2.1, hX.2.2.2.2.2.2.2.2.2.2.2.2.2.2.2.2.2.2.2.2.2.1, hX.2.2.2.2.2.2.2.2.2.2.2.2.2.2.2.2.2.2.2.2.2.2.1, hX.2.2.2.2.2.2.2.2.2.2.2.2.2.2.2.2.2.2.2.2.2.2.2.1, hX.2.2.2.2.2.2.2.2.2.2.2.2.2.2.2.2.2.2.2.2.2.2.2.2.1, hX.2.2.2.2.2.2.2.2.2.2.2.2.2.2.2.2.2.2.2.2.2.2.2.2.2.1, hX.2.2.2.2.2.2.2.2.2.2.2.2.2.2.2.2.2.2.2.2.2.2.2.2.2.2⟩ ⟨hM.1, hM.2.1, hM.2.2⟩ hR hP hD hS hl

set_option maxRecDepth 100000 in
set_option maxHeartbeats 16000000 in
theorem law_54 {p : Program} {l : Launch} {e : Env} {s : State} {m : MethodId} {below : List Frame} {meth : Method} {c : Code} {b L : Nat} {xs : Nat → Int32} {G : va_G} {cs : Nat → ClassId} {h1 : Nat} {Q : Nat → Nat → Nat} {h2 : Nat} {q2 : Nat → Nat} {sd : Nat → Nat × Nat} {i : Int32} : LCase p l e s m below meth c b G cs h1 Q h2 q2 i L xs sd 54 := by
  intro C0 hL hK hQ hQM hi0 hi6 kk F A B D MF MA MD MB H locs ls hX hM hR hP hD hS hl
  obtain ⟨hx, hb, hr, hml, hown, hts, hXs, hbl, hlocks, hgv⟩ := id C0
  have hown : s.vm.findClass RL = some m.cls := hown
  have ht : ∀ w ∈ tb, w.before #[Value.ref b] s = true := fun w h => hts w (List.mem_filter.mp h).1
  have hbA : ¬ (fun q : Nat => s.heap.size ≤ q) b := Nat.not_le.mpr hbl
  have t1 : (i + 1).toInt = i.toInt + 1 := addT rfl (by decide) (by omega)
  obtain ⟨a1, ea1⟩ : ∃ z : Int32, z = xs (i + 1).toNatClampNeg := ⟨_, rfl⟩
  have t2 : (i + 2).toInt = i.toInt + 2 := addT rfl (by decide) (by omega)
  obtain ⟨a2, ea2⟩ : ∃ z : Int32, z = xs (i + 2).toNatClampNeg := ⟨_, rfl⟩
  have t3 : (i + 3).toInt = i.toInt + 3 := addT rfl (by decide) (by omega)
  obtain ⟨a3, ea3⟩ : ∃ z : Int32, z = xs (i + 3).toNatClampNeg := ⟨_, rfl⟩
  refine lv_tableIn (off := 1703) (tgt := 1736) hx hb dL_law_33 (by decide) (by decide) (by decide) (by decide) ?_
  refine lv_aload_n hx hb dL_law_1736 rfl (lv_at hl 2 rfl) ?_
  refine lv_aload_n hx hb dL_law_1737 rfl (lv_at hl 3 rfl) ?_
  refine lv_iload_n hx hb dL_law_1738 rfl (lv_at hl 0 rfl) ?_
  refine lv_iconst (v := 1) hx hb dL_law_1739 (by decide) ?_
  refine lv_iadd hx hb dL_law_1740 ?_
  refine va_sld hx hb hXs hbl hbA hS (inK t1 (by omega) (by omega)) dL_law_1741 ?_
  refine W.eq (g2 := F0 m 1742 ls [.int a1, .ref h1]) (by rw [← ea1]) ?_
  refine lv_aload_n hx hb dL_law_1742 rfl (lv_at hl 3 rfl) ?_
  refine lv_iload_n hx hb dL_law_1743 rfl (lv_at hl 0 rfl) ?_
  refine lv_iconst (v := 2) hx hb dL_law_1744 (by decide) ?_
  refine lv_iadd hx hb dL_law_1745 ?_
  refine va_sld hx hb hXs hbl hbA hS (inK t2 (by omega) (by omega)) dL_law_1746 ?_
  refine W.eq (g2 := F0 m 1747 ls [.int a2, .int a1, .ref h1]) (by rw [← ea2]) ?_
  refine lv_aload_n hx hb dL_law_1747 rfl (lv_at hl 3 rfl) ?_
  refine lv_iload_n hx hb dL_law_1748 rfl (lv_at hl 0 rfl) ?_
  refine lv_iconst (v := 3) hx hb dL_law_1749 (by decide) ?_
  refine lv_iadd hx hb dL_law_1750 ?_
  refine va_sld hx hb hXs hbl hbA hS (inK t3 (by omega) (by omega)) dL_law_1751 ?_
  refine W.eq (g2 := F0 m 1752 ls [.int a3, .int a2, .int a1, .ref h1]) (by rw [← ea3]) ?_
  rcases csN4 a2 with hN | hN | rfl | rfl | rfl | rfl
  · have bb1 := i32b a2
    refine behDi (wr := ((uX6 cs (Q 0 0) (fun _ => Q 0 1) (F 1) (A 1) (B 1) (D 1)) ++ ((uX9 cs (Q 0 1) (Q 2) (F 2) (A 2) (B 2) (D 2)) ++ ((uX3 cs (Q 0 2) (Q 3) (F 3) (A 3) (B 3) (D 3)) ++ ((uX5 cs (Q 0 6) (Q 6) (F 6) (A 6) (B 6) (D 6)) ++ ((uX5 cs (Q 0 7) (Q 7) (F 7) (A 7) (B 7) (D 7)) ++ ((uX0 cs (Q 0 8) (Q 8) (F 8) (A 8) (B 8) (D 8)) ++ ((uX1 cs (Q 0 9) (Q 9) (F 9) (A 9) (B 9) (D 9)) ++ ((uX4 cs (Q 0 10) (Q 10) (F 10) (A 10) (B 10) (D 10)) ++ ((uX7 cs (Q 0 20) (Q 12) (F 12) (A 12) (B 12) (D 12)) ++ ((uX7 cs (Q 0 21) (Q 13) (F 13) (A 13) (B 13) (D 13)) ++ ((uX7 cs (Q 0 22) (Q 14) (F 14) (A 14) (B 14) (D 14)) ++ ((uX7 cs (Q 0 23) (Q 15) (F 15) (A 15) (B 15) (D 15)) ++ ((uX8 cs (Q 0 30) (Q 16) (F 16) (A 16) (B 16) (D 16)) ++ ((uX3 cs (Q 16 0) (Q 17) (F 17) (A 17) (B 17) (D 17)) ++ ((uX8 cs (Q 0 31) (Q 18) (F 18) (A 18) (B 18) (D 18)) ++ ((uX3 cs (Q 18 0) (Q 19) (F 19) (A 19) (B 19) (D 19)) ++ ((uX8 cs (Q 0 32) (Q 20) (F 20) (A 20) (B 20) (D 20)) ++ ((uX3 cs (Q 20 0) (Q 21) (F 21) (A 21) (B 21) (D 21)) ++ ((uX5 cs (Q 8 10) (Q 22) (F 22) (A 22) (B 22) (D 22)) ++ ((uX5 cs (Q 8 11) (Q 23) (F 23) (A 23) (B 23) (D 23)) ++ ((uX5 cs (Q 8 12) (Q 24) (F 24) (A 24) (B 24) (D 24)) ++ ((uX5 cs (Q 8 13) (Q 25) (F 25) (A 25) (B 25) (D 25)) ++ ((uX5 cs (Q 8 14) (Q 26) (F 26) (A 26) (B 26) (D 26)) ++ (mS cs h2 q2 MF MA MD MB))))))))))))))))))))))))) (runVD (As := [.int a1, .int a2, .int a3]) (rest := []) ⟨hx, hb, hml, hown, ht⟩ (sX10_drawn_lo l G cs h1 (Q 0) (F 0) (A 0) (B 0) (D 0) hX.1 (Q 4) (F 4) (A 4) (B 4) (D 4) hX.2.2.2.2.1 (Q 5) (F 5) (A 5) (B 5) (D 5) hX.2.2.2.2.2.1 (Q 11) (F 11) (A 11) (B 11) (D 11) hX.2.2.2.2.2.2.2.2.2.2.2.1 a1 a2 a3 (by omega)) okV_RL_237 ⟨(Nat.le_of_ble_eq_true rfl), (Nat.le_of_ble_eq_true rfl)⟩ hK hP hD [0, 1, 2, 14, 15, 16, 17, 18, 19, 20, 21, 22, 23, 47] rfl (by decide +kernel) rfl 0 rfl rfl hl.1 rfl (Nat.le_of_ble_eq_true rfl) dL_law_1752 ⟨(Nat.le_of_ble_eq_true rfl), (Nat.le_of_ble_eq_true rfl)⟩) hP hD hS (fun _ h => h) [0, 1, 2, 14, 15, 16, 17, 18, 19, 20, 21, 22, 23, 47] [3, 4, 5, 6, 7, 8, 9, 10, 11, 12, 13, 24, 25, 26, 27, 28, 29, 30, 31, 32, 33, 34, 35, 36, 37, 38, 39, 40, 41, 42, 43, 44, 45, 46, 48, 49, 50, 51, 52, 53, 54, 55, 56, 57, 58, 59, 60, 61, 62, 63, 64, 65, 66, 67, 68, 69, 70, 71, 72, 73, 74, 75, 76, 77, 78, 79, 80, 81, 82, 83, 84, 85, 86, 87, 88, 89, 90, 91, 92, 93, 94, 95, 96, 97, 98, 99, 100, 101, 102, 103, 104, 105, 106, 107, 108, 109, 110, 111, 112, 113, 114, 115, 116, 117, 118, 119, 120] rfl rfl (by decide +kernel) (by decide +kernel) (fun r9 u H locs hu hP hD hS => ?_)
    obtain ⟨r2, rfl⟩ : ∃ z, z = r9 := ⟨_, rfl⟩
    have hr2 := hu
    have hP : va_P G vwCl (LW cs h1 Q h2 q2 F A B D MF MA MD MB) H := hP.sub [107, 108, 109, 0, 1, 2, 3, 4, 5, 6, 7, 8, 9, 10, 110, 111, 112, 113, 114, 115, 116, 117, 118, 119, 11, 12, 13, 14, 15, 16, 17, 18, 19, 20, 21, 22, 23, 24, 25, 26, 27, 28, 29, 30, 31, 32, 33, 120, 34, 35, 36, 37, 38, 39, 40, 41, 42, 43, 44, 45, 46, 47, 48, 49, 50, 51, 52, 53, 54, 55, 56, 57, 58, 59, 60, 61, 62, 63, 64, 65, 66, 67, 68, 69, 70, 71, 72, 73, 74, 75, 76, 77, 78, 79, 80, 81, 82, 83, 84, 85, 86, 87, 88, 89, 90, 91, 92, 93, 94, 95, 96, 97, 98, 99, 100, 101, 102, 103, 104, 105, 106] rfl
    have hD : va_D (fun q : Nat => s.heap.size ≤ q) (LW cs h1 Q h2 q2 F A B D MF MA MD MB) := hD.sub [107, 108, 109, 0, 1, 2, 3, 4, 5, 6, 7, 8, 9, 10, 110, 111, 112, 113, 114, 115, 116, 117, 118, 119, 11, 12, 13, 14, 15, 16, 17, 18, 19, 20, 21, 22, 23, 24, 25, 26, 27, 28, 29, 30, 31, 32, 33, 120, 34, 35, 36, 37, 38, 39, 40, 41, 42, 43, 44, 45, 46, 47, 48, 49, 50, 51, 52, 53, 54, 55, 56, 57, 58, 59, 60, 61, 62, 63, 64, 65, 66, 67, 68, 69, 70, 71, 72, 73, 74, 75, 76, 77, 78, 79, 80, 81, 82, 83, 84, 85, 86, 87, 88, 89, 90, 91, 92, 93, 94, 95, 96, 97, 98, 99, 100, 101, 102, 103, 104, 105, 106] (by decide +kernel) rfl
    refine lv_pop hx hb dL_law_1755 rfl ?_
    refine lv_aload_n hx hb dL_law_1756 rfl (lv_at hl 1 rfl) ?_
    refine lv_aload_n hx hb dL_law_1757 rfl (lv_at hl 3 rfl) ?_
    refine lv_iload_n hx hb dL_law_1758 rfl (lv_at hl 0 rfl) ?_
    refine lv_iconst (v := 1) hx hb dL_law_1759 (by decide) ?_
    refine lv_iadd hx hb dL_law_1760 ?_
    refine va_sld hx hb hXs hbl hbA hS (inK t1 (by omega) (by omega)) dL_law_1761 ?_
    refine W.eq (g2 := F0 m 1762 ls [.int a1, .ref h2]) (by rw [← ea1]) ?_
    refine lv_aload_n hx hb dL_law_1762 rfl (lv_at hl 3 rfl) ?_
    refine lv_iload_n hx hb dL_law_1763 rfl (lv_at hl 0 rfl) ?_
    refine lv_iconst (v := 2) hx hb dL_law_1764 (by decide) ?_
    refine lv_iadd hx hb dL_law_1765 ?_
    refine va_sld hx hb hXs hbl hbA hS (inK t2 (by omega) (by omega)) dL_law_1766 ?_
    refine W.eq (g2 := F0 m 1767 ls [.int a2, .int a1, .ref h2]) (by rw [← ea2]) ?_
    refine lv_aload_n hx hb dL_law_1767 rfl (lv_at hl 3 rfl) ?_
    refine lv_iload_n hx hb dL_law_1768 rfl (lv_at hl 0 rfl) ?_
    refine lv_iconst (v := 3) hx hb dL_law_1769 (by decide) ?_
    refine lv_iadd hx hb dL_law_1770 ?_
    refine va_sld hx hb hXs hbl hbA hS (inK t3 (by omega) (by omega)) dL_law_1771 ?_
    refine W.eq (g2 := F0 m 1772 ls [.int a3, .int a2, .int a1, .ref h2]) (by rw [← ea3]) ?_
    refine behDi (wr := (XLW cs h1 Q F A B D)) (runVD (As := [.int a1, .int a2, .int a3]) (rest := []) ⟨hx, hb, hml, hown, ht⟩ (sX11_drawn l G cs h2 q2 MF MA MD MB hM.1 a1 a2 a3) okV_RL_240 ⟨(Nat.le_of_ble_eq_true rfl), (Nat.le_of_ble_eq_true rfl)⟩ hK hP hD [101, 102, 103, 104, 105, 106, 107, 108, 109, 110, 111, 112, 113, 114, 115, 116, 117, 118, 119, 120] rfl (by decide +kernel) rfl 101 rfl rfl hl.1 rfl (Nat.le_of_ble_eq_true rfl) dL_law_1772 ⟨(Nat.le_of_ble_eq_true rfl), (Nat.le_of_ble_eq_true rfl)⟩) hP hD hS (fun _ h => h) [101, 102, 103, 104, 105, 106, 107, 108, 109, 110, 111, 112, 113, 114, 115, 116, 117, 118, 119, 120] [0, 1, 2, 3, 4, 5, 6, 7, 8, 9, 10, 11, 12, 13, 14, 15, 16, 17, 18, 19, 20, 21, 22, 23, 24, 25, 26, 27, 28, 29, 30, 31, 32, 33, 34, 35, 36, 37, 38, 39, 40, 41, 42, 43, 44, 45, 46, 47, 48, 49, 50, 51, 52, 53, 54, 55, 56, 57, 58, 59, 60, 61, 62, 63, 64, 65, 66, 67, 68, 69, 70, 71, 72, 73, 74, 75, 76, 77, 78, 79, 80, 81, 82, 83, 84, 85, 86, 87, 88, 89, 90, 91, 92, 93, 94, 95, 96, 97, 98, 99, 100] rfl rfl (by decide +kernel) (by decide +kernel) (fun r9 u H locs hu hP hD hS => ?_)
    obtain ⟨x4, x5, d6⟩ := u
    obtain ⟨r3, rfl⟩ : ∃ z, z = r9 := ⟨_, rfl⟩
    obtain ⟨hbx4, hbx5, hr3⟩ := hu
    have hbx4 : (-1 : Int) ≤ x4.toInt ∧ x4.toInt ≤ 59 := hbx4
    have hbx5 : (-1 : Int) ≤ x5.toInt ∧ x5.toInt ≤ 6 := hbx5
    have hP : va_P G vwCl (LW cs h1 Q h2 q2 F A B D (upd (upd MF 29 x4) 30 x5) MA d6 MB) H := hP
    have hD : va_D (fun q : Nat => s.heap.size ≤ q) (LW cs h1 Q h2 q2 F A B D (upd (upd MF 29 x4) 30 x5) MA d6 MB) := hD
    refine lv_pop hx hb dL_law_1775 rfl ?_
    refine lv_goto (tgt := 2156) hx hb dL_law_1776 (by decide) ?_
    exact kk F A B D (upd (upd MF 29 x4) 30 x5) MA d6 MB H locs ls ⟨hX.1, hX.2.1, hX.2.2.1, hX.2.2.2.1, hX.2.2.2.2.1, hX.2.2.2.2.2.1, hX.2.2.2.2.2.2.1, hX.2.2.2.2.2.2.2.1, hX.2.2.2.2.2.2.2.2.1, hX.2.2.2.2.2.2.2.2.2.1, hX.2.2.2.2.2.2.2.2.2.2.1, hX.2.2.2.2.2.2.2.2.2.2.2.1, hX.2.2.2.2.2.2.2.2.2.2.2.2.1, hX.2.2.2.2.2.2.2.2.2.2.2.2.2.1, hX.2.2.2.2.2.2.2.2.2.2.2.2.2.2.1, hX.2.2.2.2.2.2.2.2.2.2.2.2.2.2.2.1, hX.2.2.2.2.2.2.2.2.2.2.2.2.2.2.2.2.1, hX.2.2.2.2.2.2.2.2.2.2.2.2.2.2.2.2.2.1, hX.2.2.2.2.2.2.2.2.2.2.2.2.2.2.2.2.2.2.1, hX.2.2.2.2.2.2.2.2.2.2.2.2.2.2.2.2.2.2.2.1, hX.2.2.2.2.2.2.2.2.2.2.2.2.2.2.2.2.2.2.2.2.1, hX.2.2.2.2.2.2.2.2.2.2.2.2.2.2.2.2.2.2.2.2.2.1, hX.2.2.2.2.2.2.2.2.2.2.2.2.2.2.2.2.2.2.2.2.2.2.1, hX.2.2.2.2.2.2.2.2.2.2.2.2.2.2.2.2.2.2.2.2.2.2.2.1, hX.2.2.2.2.2.2.2.2.2.2.2.2.2.2.2.2.2.2.2.2.2.2.2.2.1, hX.2.2.2.2.2.2.2.2.2.2.2.2.2.2.2.2.2.2.2.2.2.2.2.2.2.1, hX.2.2.2.2.2.2.2.2.2.2.2.2.2.2.2.2.2.2.2.2.2.2.2.2.2.2⟩ ⟨(IM_put (k := 30) (IM_put (k := 29) hM.1 (hbx4)) (hbx5)), hM.2.1, hM.2.2⟩ hR hP hD hS hl
  · have bb7 := i32b a2
    refine behDi (wr := ((uX6 cs (Q 0 0) (fun _ => Q 0 1) (F 1) (A 1) (B 1) (D 1)) ++ ((uX9 cs (Q 0 1) (Q 2) (F 2) (A 2) (B 2) (D 2)) ++ ((uX3 cs (Q 0 2) (Q 3) (F 3) (A 3) (B 3) (D 3)) ++ ((uX5 cs (Q 0 6) (Q 6) (F 6) (A 6) (B 6) (D 6)) ++ ((uX5 cs (Q 0 7) (Q 7) (F 7) (A 7) (B 7) (D 7)) ++ ((uX0 cs (Q 0 8) (Q 8) (F 8) (A 8) (B 8) (D 8)) ++ ((uX1 cs (Q 0 9) (Q 9) (F 9) (A 9) (B 9) (D 9)) ++ ((uX4 cs (Q 0 10) (Q 10) (F 10) (A 10) (B 10) (D 10)) ++ ((uX7 cs (Q 0 20) (Q 12) (F 12) (A 12) (B 12) (D 12)) ++ ((uX7 cs (Q 0 21) (Q 13) (F 13) (A 13) (B 13) (D 13)) ++ ((uX7 cs (Q 0 22) (Q 14) (F 14) (A 14) (B 14) (D 14)) ++ ((uX7 cs (Q 0 23) (Q 15) (F 15) (A 15) (B 15) (D 15)) ++ ((uX8 cs (Q 0 30) (Q 16) (F 16) (A 16) (B 16) (D 16)) ++ ((uX3 cs (Q 16 0) (Q 17) (F 17) (A 17) (B 17) (D 17)) ++ ((uX8 cs (Q 0 31) (Q 18) (F 18) (A 18) (B 18) (D 18)) ++ ((uX3 cs (Q 18 0) (Q 19) (F 19) (A 19) (B 19) (D 19)) ++ ((uX8 cs (Q 0 32) (Q 20) (F 20) (A 20) (B 20) (D 20)) ++ ((uX3 cs (Q 20 0) (Q 21) (F 21) (A 21) (B 21) (D 21)) ++ ((uX5 cs (Q 8 10) (Q 22) (F 22) (A 22) (B 22) (D 22)) ++ ((uX5 cs (Q 8 11) (Q 23) (F 23) (A 23) (B 23) (D 23)) ++ ((uX5 cs (Q 8 12) (Q 24) (F 24) (A 24) (B 24) (D 24)) ++ ((uX5 cs (Q 8 13) (Q 25) (F 25) (A 25) (B 25) (D 25)) ++ ((uX5 cs (Q 8 14) (Q 26) (F 26) (A 26) (B 26) (D 26)) ++ (mS cs h2 q2 MF MA MD MB))))))))))))))))))))))))) (runVD (As := [.int a1, .int a2, .int a3]) (rest := []) ⟨hx, hb, hml, hown, ht⟩ (sX10_drawn_hi l G cs h1 (Q 0) (F 0) (A 0) (B 0) (D 0) hX.1 (Q 4) (F 4) (A 4) (B 4) (D 4) hX.2.2.2.2.1 (Q 5) (F 5) (A 5) (B 5) (D 5) hX.2.2.2.2.2.1 (Q 11) (F 11) (A 11) (B 11) (D 11) hX.2.2.2.2.2.2.2.2.2.2.2.1 a1 a2 a3 (by omega)) okV_RL_237 ⟨(Nat.le_of_ble_eq_true rfl), (Nat.le_of_ble_eq_true rfl)⟩ hK hP hD [0, 1, 2, 14, 15, 16, 17, 18, 19, 20, 21, 22, 23, 47] rfl (by decide +kernel) rfl 0 rfl rfl hl.1 rfl (Nat.le_of_ble_eq_true rfl) dL_law_1752 ⟨(Nat.le_of_ble_eq_true rfl), (Nat.le_of_ble_eq_true rfl)⟩) hP hD hS (fun _ h => h) [0, 1, 2, 14, 15, 16, 17, 18, 19, 20, 21, 22, 23, 47] [3, 4, 5, 6, 7, 8, 9, 10, 11, 12, 13, 24, 25, 26, 27, 28, 29, 30, 31, 32, 33, 34, 35, 36, 37, 38, 39, 40, 41, 42, 43, 44, 45, 46, 48, 49, 50, 51, 52, 53, 54, 55, 56, 57, 58, 59, 60, 61, 62, 63, 64, 65, 66, 67, 68, 69, 70, 71, 72, 73, 74, 75, 76, 77, 78, 79, 80, 81, 82, 83, 84, 85, 86, 87, 88, 89, 90, 91, 92, 93, 94, 95, 96, 97, 98, 99, 100, 101, 102, 103, 104, 105, 106, 107, 108, 109, 110, 111, 112, 113, 114, 115, 116, 117, 118, 119, 120] rfl rfl (by decide +kernel) (by decide +kernel) (fun r9 u H locs hu hP hD hS => ?_)
    obtain ⟨r8, rfl⟩ : ∃ z, z = r9 := ⟨_, rfl⟩
    have hr8 := hu
    have hP : va_P G vwCl (LW cs h1 Q h2 q2 F A B D MF MA MD MB) H := hP.sub [107, 108, 109, 0, 1, 2, 3, 4, 5, 6, 7, 8, 9, 10, 110, 111, 112, 113, 114, 115, 116, 117, 118, 119, 11, 12, 13, 14, 15, 16, 17, 18, 19, 20, 21, 22, 23, 24, 25, 26, 27, 28, 29, 30, 31, 32, 33, 120, 34, 35, 36, 37, 38, 39, 40, 41, 42, 43, 44, 45, 46, 47, 48, 49, 50, 51, 52, 53, 54, 55, 56, 57, 58, 59, 60, 61, 62, 63, 64, 65, 66, 67, 68, 69, 70, 71, 72, 73, 74, 75, 76, 77, 78, 79, 80, 81, 82, 83, 84, 85, 86, 87, 88, 89, 90, 91, 92, 93, 94, 95, 96, 97, 98, 99, 100, 101, 102, 103, 104, 105, 106] rfl
    have hD : va_D (fun q : Nat => s.heap.size ≤ q) (LW cs h1 Q h2 q2 F A B D MF MA MD MB) := hD.sub [107, 108, 109, 0, 1, 2, 3, 4, 5, 6, 7, 8, 9, 10, 110, 111, 112, 113, 114, 115, 116, 117, 118, 119, 11, 12, 13, 14, 15, 16, 17, 18, 19, 20, 21, 22, 23, 24, 25, 26, 27, 28, 29, 30, 31, 32, 33, 120, 34, 35, 36, 37, 38, 39, 40, 41, 42, 43, 44, 45, 46, 47, 48, 49, 50, 51, 52, 53, 54, 55, 56, 57, 58, 59, 60, 61, 62, 63, 64, 65, 66, 67, 68, 69, 70, 71, 72, 73, 74, 75, 76, 77, 78, 79, 80, 81, 82, 83, 84, 85, 86, 87, 88, 89, 90, 91, 92, 93, 94, 95, 96, 97, 98, 99, 100, 101, 102, 103, 104, 105, 106] (by decide +kernel) rfl
    refine lv_pop hx hb dL_law_1755 rfl ?_
    refine lv_aload_n hx hb dL_law_1756 rfl (lv_at hl 1 rfl) ?_
    refine lv_aload_n hx hb dL_law_1757 rfl (lv_at hl 3 rfl) ?_
    refine lv_iload_n hx hb dL_law_1758 rfl (lv_at hl 0 rfl) ?_
    refine lv_iconst (v := 1) hx hb dL_law_1759 (by decide) ?_
    refine lv_iadd hx hb dL_law_1760 ?_
    refine va_sld hx hb hXs hbl hbA hS (inK t1 (by omega) (by omega)) dL_law_1761 ?_
    refine W.eq (g2 := F0 m 1762 ls [.int a1, .ref h2]) (by rw [← ea1]) ?_
    refine lv_aload_n hx hb dL_law_1762 rfl (lv_at hl 3 rfl) ?_
    refine lv_iload_n hx hb dL_law_1763 rfl (lv_at hl 0 rfl) ?_
    refine lv_iconst (v := 2) hx hb dL_law_1764 (by decide) ?_
    refine lv_iadd hx hb dL_law_1765 ?_
    refine va_sld hx hb hXs hbl hbA hS (inK t2 (by omega) (by omega)) dL_law_1766 ?_
    refine W.eq (g2 := F0 m 1767 ls [.int a2, .int a1, .ref h2]) (by rw [← ea2]) ?_
    refine lv_aload_n hx hb dL_law_1767 rfl (lv_at hl 3 rfl) ?_
    refine lv_iload_n hx hb dL_law_1768 rfl (lv_at hl 0 rfl) ?_
    refine lv_iconst (v := 3) hx hb dL_law_1769 (by decide) ?_
    refine lv_iadd hx hb dL_law_1770 ?_
    refine va_sld hx hb hXs hbl hbA hS (inK t3 (by omega) (by omega)) dL_law_1771 ?_
    refine W.eq (g2 := F0 m 1772 ls [.int a3, .int a2, .int a1, .ref h2]) (by rw [← ea3]) ?_
    refine behDi (wr := (XLW cs h1 Q F A B D)) (runVD (As := [.int a1, .int a2, .int a3]) (rest := []) ⟨hx, hb, hml, hown, ht⟩ (sX11_drawn l G cs h2 q2 MF MA MD MB hM.1 a1 a2 a3) okV_RL_240 ⟨(Nat.le_of_ble_eq_true rfl), (Nat.le_of_ble_eq_true rfl)⟩ hK hP hD [101, 102, 103, 104, 105, 106, 107, 108, 109, 110, 111, 112, 113, 114, 115, 116, 117, 118, 119, 120] rfl (by decide +kernel) rfl 101 rfl rfl hl.1 rfl (Nat.le_of_ble_eq_true rfl) dL_law_1772 ⟨(Nat.le_of_ble_eq_true rfl), (Nat.le_of_ble_eq_true rfl)⟩) hP hD hS (fun _ h => h) [101, 102, 103, 104, 105, 106, 107, 108, 109, 110, 111, 112, 113, 114, 115, 116, 117, 118, 119, 120] [0, 1, 2, 3, 4, 5, 6, 7, 8, 9, 10, 11, 12, 13, 14, 15, 16, 17, 18, 19, 20, 21, 22, 23, 24, 25, 26, 27, 28, 29, 30, 31, 32, 33, 34, 35, 36, 37, 38, 39, 40, 41, 42, 43, 44, 45, 46, 47, 48, 49, 50, 51, 52, 53, 54, 55, 56, 57, 58, 59, 60, 61, 62, 63, 64, 65, 66, 67, 68, 69, 70, 71, 72, 73, 74, 75, 76, 77, 78, 79, 80, 81, 82, 83, 84, 85, 86, 87, 88, 89, 90, 91, 92, 93, 94, 95, 96, 97, 98, 99, 100] rfl rfl (by decide +kernel) (by decide +kernel) (fun r9 u H locs hu hP hD hS => ?_)
    obtain ⟨x10, x11, d12⟩ := u
    obtain ⟨r9, rfl⟩ : ∃ z, z = r9 := ⟨_, rfl⟩
    obtain ⟨hbx10, hbx11, hr9⟩ := hu
    have hbx10 : (-1 : Int) ≤ x10.toInt ∧ x10.toInt ≤ 59 := hbx10
    have hbx11 : (-1 : Int) ≤ x11.toInt ∧ x11.toInt ≤ 6 := hbx11
    have hP : va_P G vwCl (LW cs h1 Q h2 q2 F A B D (upd (upd MF 29 x10) 30 x11) MA d12 MB) H := hP
    have hD : va_D (fun q : Nat => s.heap.size ≤ q) (LW cs h1 Q h2 q2 F A B D (upd (upd MF 29 x10) 30 x11) MA d12 MB) := hD
    refine lv_pop hx hb dL_law_1775 rfl ?_
    refine lv_goto (tgt := 2156) hx hb dL_law_1776 (by decide) ?_
    exact kk F A B D (upd (upd MF 29 x10) 30 x11) MA d12 MB H locs ls ⟨hX.1, hX.2.1, hX.2.2.1, hX.2.2.2.1, hX.2.2.2.2.1, hX.2.2.2.2.2.1, hX.2.2.2.2.2.2.1, hX.2.2.2.2.2.2.2.1, hX.2.2.2.2.2.2.2.2.1, hX.2.2.2.2.2.2.2.2.2.1, hX.2.2.2.2.2.2.2.2.2.2.1, hX.2.2.2.2.2.2.2.2.2.2.2.1, hX.2.2.2.2.2.2.2.2.2.2.2.2.1, hX.2.2.2.2.2.2.2.2.2.2.2.2.2.1, hX.2.2.2.2.2.2.2.2.2.2.2.2.2.2.1, hX.2.2.2.2.2.2.2.2.2.2.2.2.2.2.2.1, hX.2.2.2.2.2.2.2.2.2.2.2.2.2.2.2.2.1, hX.2.2.2.2.2.2.2.2.2.2.2.2.2.2.2.2.2.1, hX.2.2.2.2.2.2.2.2.2.2.2.2.2.2.2.2.2.2.1, hX.2.2.2.2.2.2.2.2.2.2.2.2.2.2.2.2.2.2.2.1, hX.2.2.2.2.2.2.2.2.2.2.2.2.2.2.2.2.2.2.2.2.1, hX.2.2.2.2.2.2.2.2.2.2.2.2.2.2.2.2.2.2.2.2.2.1, hX.2.2.2.2.2.2.2.2.2.2.2.2.2.2.2.2.2.2.2.2.2.2.1, hX.2.2.2.2.2.2.2.2.2.2.2.2.2.2.2.2.2.2.2.2.2.2.2.1, hX.2.2.2.2.2.2.2.2.2.2.2.2.2.2.2.2.2.2.2.2.2.2.2.2.1, hX.2.2.2.2.2.2.2.2.2.2.2.2.2.2.2.2.2.2.2.2.2.2.2.2.2.1, hX.2.2.2.2.2.2.2.2.2.2.2.2.2.2.2.2.2.2.2.2.2.2.2.2.2.2⟩ ⟨(IM_put (k := 30) (IM_put (k := 29) hM.1 (hbx10)) (hbx11)), hM.2.1, hM.2.2⟩ hR hP hD hS hl
  · refine behDi (wr := ((uX6 cs (Q 0 0) (fun _ => Q 0 1) (F 1) (A 1) (B 1) (D 1)) ++ ((uX9 cs (Q 0 1) (Q 2) (F 2) (A 2) (B 2) (D 2)) ++ ((uX3 cs (Q 0 2) (Q 3) (F 3) (A 3) (B 3) (D 3)) ++ ((uX5 cs (Q 0 6) (Q 6) (F 6) (A 6) (B 6) (D 6)) ++ ((uX5 cs (Q 0 7) (Q 7) (F 7) (A 7) (B 7) (D 7)) ++ ((uX0 cs (Q 0 8) (Q 8) (F 8) (A 8) (B 8) (D 8)) ++ ((uX1 cs (Q 0 9) (Q 9) (F 9) (A 9) (B 9) (D 9)) ++ ((uX4 cs (Q 0 10) (Q 10) (F 10) (A 10) (B 10) (D 10)) ++ ((uX7 cs (Q 0 21) (Q 13) (F 13) (A 13) (B 13) (D 13)) ++ ((uX7 cs (Q 0 22) (Q 14) (F 14) (A 14) (B 14) (D 14)) ++ ((uX7 cs (Q 0 23) (Q 15) (F 15) (A 15) (B 15) (D 15)) ++ ((uX8 cs (Q 0 30) (Q 16) (F 16) (A 16) (B 16) (D 16)) ++ ((uX3 cs (Q 16 0) (Q 17) (F 17) (A 17) (B 17) (D 17)) ++ ((uX8 cs (Q 0 31) (Q 18) (F 18) (A 18) (B 18) (D 18)) ++ ((uX3 cs (Q 18 0) (Q 19) (F 19) (A 19) (B 19) (D 19)) ++ ((uX8 cs (Q 0 32) (Q 20) (F 20) (A 20) (B 20) (D 20)) ++ ((uX3 cs (Q 20 0) (Q 21) (F 21) (A 21) (B 21) (D 21)) ++ ((uX5 cs (Q 8 10) (Q 22) (F 22) (A 22) (B 22) (D 22)) ++ ((uX5 cs (Q 8 11) (Q 23) (F 23) (A 23) (B 23) (D 23)) ++ ((uX5 cs (Q 8 12) (Q 24) (F 24) (A 24) (B 24) (D 24)) ++ ((uX5 cs (Q 8 13) (Q 25) (F 25) (A 25) (B 25) (D 25)) ++ ((uX5 cs (Q 8 14) (Q 26) (F 26) (A 26) (B 26) (D 26)) ++ (mS cs h2 q2 MF MA MD MB)))))))))))))))))))))))) (runVD (As := [.int a1, .int 0, .int a3]) (rest := []) ⟨hx, hb, hml, hown, ht⟩ (sX10_drawn_0 l G cs h1 (Q 0) (F 0) (A 0) (B 0) (D 0) hX.1 (Q 4) (F 4) (A 4) (B 4) (D 4) hX.2.2.2.2.1 (Q 5) (F 5) (A 5) (B 5) (D 5) hX.2.2.2.2.2.1 (Q 11) (F 11) (A 11) (B 11) (D 11) hX.2.2.2.2.2.2.2.2.2.2.2.1 (Q 12) (F 12) (A 12) (B 12) (D 12) hX.2.2.2.2.2.2.2.2.2.2.2.2.1 a1 a3) okV_RL_237 ⟨(Nat.le_of_ble_eq_true rfl), (Nat.le_of_ble_eq_true rfl)⟩ hK hP hD [0, 1, 2, 14, 15, 16, 17, 18, 19, 20, 21, 22, 23, 47, 48, 49] rfl (by decide +kernel) rfl 0 rfl rfl hl.1 rfl (Nat.le_of_ble_eq_true rfl) dL_law_1752 ⟨(Nat.le_of_ble_eq_true rfl), (Nat.le_of_ble_eq_true rfl)⟩) hP hD hS (fun _ h => h) [0, 1, 2, 14, 15, 16, 17, 18, 19, 20, 21, 22, 23, 47, 48, 49] [3, 4, 5, 6, 7, 8, 9, 10, 11, 12, 13, 24, 25, 26, 27, 28, 29, 30, 31, 32, 33, 34, 35, 36, 37, 38, 39, 40, 41, 42, 43, 44, 45, 46, 50, 51, 52, 53, 54, 55, 56, 57, 58, 59, 60, 61, 62, 63, 64, 65, 66, 67, 68, 69, 70, 71, 72, 73, 74, 75, 76, 77, 78, 79, 80, 81, 82, 83, 84, 85, 86, 87, 88, 89, 90, 91, 92, 93, 94, 95, 96, 97, 98, 99, 100, 101, 102, 103, 104, 105, 106, 107, 108, 109, 110, 111, 112, 113, 114, 115, 116, 117, 118, 119, 120] rfl rfl (by decide +kernel) (by decide +kernel) (fun r9 u H locs hu hP hD hS => ?_)
    obtain ⟨x14, x15, d16⟩ := u
    obtain ⟨r13, rfl⟩ : ∃ z, z = r9 := ⟨_, rfl⟩
    obtain ⟨hbx15, hr13⟩ := hu
    have hbx15 : (-1 : Int) ≤ x15.toInt ∧ x15.toInt ≤ 6 := hbx15
    have hP : va_P G vwCl (LW cs h1 Q h2 q2 (vA F 11 (upd (upd (F 11) 1 x14) 2 x15)) A B (va_up D 11 d16) MF MA MD MB) H := hP.sub [105, 106, 107, 0, 1, 2, 3, 4, 5, 6, 7, 8, 9, 10, 108, 109, 110, 111, 112, 113, 114, 115, 116, 117, 11, 12, 13, 14, 15, 16, 17, 18, 19, 20, 21, 22, 23, 24, 25, 26, 27, 28, 29, 30, 31, 32, 33, 118, 119, 120, 34, 35, 36, 37, 38, 39, 40, 41, 42, 43, 44, 45, 46, 47, 48, 49, 50, 51, 52, 53, 54, 55, 56, 57, 58, 59, 60, 61, 62, 63, 64, 65, 66, 67, 68, 69, 70, 71, 72, 73, 74, 75, 76, 77, 78, 79, 80, 81, 82, 83, 84, 85, 86, 87, 88, 89, 90, 91, 92, 93, 94, 95, 96, 97, 98, 99, 100, 101, 102, 103, 104] rfl
    have hD : va_D (fun q : Nat => s.heap.size ≤ q) (LW cs h1 Q h2 q2 (vA F 11 (upd (upd (F 11) 1 x14) 2 x15)) A B (va_up D 11 d16) MF MA MD MB) := hD.sub [105, 106, 107, 0, 1, 2, 3, 4, 5, 6, 7, 8, 9, 10, 108, 109, 110, 111, 112, 113, 114, 115, 116, 117, 11, 12, 13, 14, 15, 16, 17, 18, 19, 20, 21, 22, 23, 24, 25, 26, 27, 28, 29, 30, 31, 32, 33, 118, 119, 120, 34, 35, 36, 37, 38, 39, 40, 41, 42, 43, 44, 45, 46, 47, 48, 49, 50, 51, 52, 53, 54, 55, 56, 57, 58, 59, 60, 61, 62, 63, 64, 65, 66, 67, 68, 69, 70, 71, 72, 73, 74, 75, 76, 77, 78, 79, 80, 81, 82, 83, 84, 85, 86, 87, 88, 89, 90, 91, 92, 93, 94, 95, 96, 97, 98, 99, 100, 101, 102, 103, 104] (by decide +kernel) rfl
    refine lv_pop hx hb dL_law_1755 rfl ?_
    refine lv_aload_n hx hb dL_law_1756 rfl (lv_at hl 1 rfl) ?_
    refine lv_aload_n hx hb dL_law_1757 rfl (lv_at hl 3 rfl) ?_
    refine lv_iload_n hx hb dL_law_1758 rfl (lv_at hl 0 rfl) ?_
    refine lv_iconst (v := 1) hx hb dL_law_1759 (by decide) ?_
    refine lv_iadd hx hb dL_law_1760 ?_
    refine va_sld hx hb hXs hbl hbA hS (inK t1 (by omega) (by omega)) dL_law_1761 ?_
    refine W.eq (g2 := F0 m 1762 ls [.int a1, .ref h2]) (by rw [← ea1]) ?_
    refine lv_aload_n hx hb dL_law_1762 rfl (lv_at hl 3 rfl) ?_
    refine lv_iload_n hx hb dL_law_1763 rfl (lv_at hl 0 rfl) ?_
    refine lv_iconst (v := 2) hx hb dL_law_1764 (by decide) ?_
    refine lv_iadd hx hb dL_law_1765 ?_
    refine va_sld hx hb hXs hbl hbA hS (inK t2 (by omega) (by omega)) dL_law_1766 ?_
    refine W.eq (g2 := F0 m 1767 ls [.int 0, .int a1, .ref h2]) (by rw [← ea2]) ?_
    refine lv_aload_n hx hb dL_law_1767 rfl (lv_at hl 3 rfl) ?_
    refine lv_iload_n hx hb dL_law_1768 rfl (lv_at hl 0 rfl) ?_
    refine lv_iconst (v := 3) hx hb dL_law_1769 (by decide) ?_
    refine lv_iadd hx hb dL_law_1770 ?_
    refine va_sld hx hb hXs hbl hbA hS (inK t3 (by omega) (by omega)) dL_law_1771 ?_
    refine W.eq (g2 := F0 m 1772 ls [.int a3, .int 0, .int a1, .ref h2]) (by rw [← ea3]) ?_
    refine behDi (wr := (XLW cs h1 Q (vA F 11 (upd (upd (F 11) 1 x14) 2 x15)) A B (va_up D 11 d16))) (runVD (As := [.int a1, .int 0, .int a3]) (rest := []) ⟨hx, hb, hml, hown, ht⟩ (sX11_drawn l G cs h2 q2 MF MA MD MB hM.1 a1 0 a3) okV_RL_240 ⟨(Nat.le_of_ble_eq_true rfl), (Nat.le_of_ble_eq_true rfl)⟩ hK hP hD [101, 102, 103, 104, 105, 106, 107, 108, 109, 110, 111, 112, 113, 114, 115, 116, 117, 118, 119, 120] rfl (by decide +kernel) rfl 101 rfl rfl hl.1 rfl (Nat.le_of_ble_eq_true rfl) dL_law_1772 ⟨(Nat.le_of_ble_eq_true rfl), (Nat.le_of_ble_eq_true rfl)⟩) hP hD hS (fun _ h => h) [101, 102, 103, 104, 105, 106, 107, 108, 109, 110, 111, 112, 113, 114, 115, 116, 117, 118, 119, 120] [0, 1, 2, 3, 4, 5, 6, 7, 8, 9, 10, 11, 12, 13, 14, 15, 16, 17, 18, 19, 20, 21, 22, 23, 24, 25, 26, 27, 28, 29, 30, 31, 32, 33, 34, 35, 36, 37, 38, 39, 40, 41, 42, 43, 44, 45, 46, 47, 48, 49, 50, 51, 52, 53, 54, 55, 56, 57, 58, 59, 60, 61, 62, 63, 64, 65, 66, 67, 68, 69, 70, 71, 72, 73, 74, 75, 76, 77, 78, 79, 80, 81, 82, 83, 84, 85, 86, 87, 88, 89, 90, 91, 92, 93, 94, 95, 96, 97, 98, 99, 100] rfl rfl (by decide +kernel) (by decide +kernel) (fun r9 u H locs hu hP hD hS => ?_)
    obtain ⟨x18, x19, d20⟩ := u
    obtain ⟨r17, rfl⟩ : ∃ z, z = r9 := ⟨_, rfl⟩
    obtain ⟨hbx18, hbx19, hr17⟩ := hu
    have hbx18 : (-1 : Int) ≤ x18.toInt ∧ x18.toInt ≤ 59 := hbx18
    have hbx19 : (-1 : Int) ≤ x19.toInt ∧ x19.toInt ≤ 6 := hbx19
    have hP : va_P G vwCl (LW cs h1 Q h2 q2 (vA F 11 (upd (upd (F 11) 1 x14) 2 x15)) A B (va_up D 11 d16) (upd (upd MF 29 x18) 30 x19) MA d20 MB) H := hP
    have hD : va_D (fun q : Nat => s.heap.size ≤ q) (LW cs h1 Q h2 q2 (vA F 11 (upd (upd (F 11) 1 x14) 2 x15)) A B (va_up D 11 d16) (upd (upd MF 29 x18) 30 x19) MA d20 MB) := hD
    refine lv_pop hx hb dL_law_1775 rfl ?_
    refine lv_goto (tgt := 2156) hx hb dL_law_1776 (by decide) ?_
    exact kk (vA F 11 (upd (upd (F 11) 1 x14) 2 x15)) A B (va_up D 11 d16) (upd (upd MF 29 x18) 30 x19) MA d20 MB H locs ls ⟨hX.1, hX.2.1, hX.2.2.1, hX.2.2.2.1, hX.2.2.2.2.1, hX.2.2.2.2.2.1, hX.2.2.2.2.2.2.1, hX.2.2.2.2.2.2.2.1, hX.2.2.2.2.2.2.2.2.1, hX.2.2.2.2.2.2.2.2.2.1, hX.2.2.2.2.2.2.2.2.2.2.1, (IB_put (k := 2) (IB_put (k := 1) hX.2.2.2.2.2.2.2.2.2.2.2.1 (i32b _)) (hbx15)), hX.2.2.2.2.2.2.2.2.2.2.2.2.1, hX.2.2.2.2.2.2.2.2.2.2.2.2.2.1, hX.2.2.2.2.2.2.2.2.2.2.2.2.2.2.1, hX.2.2.2.2.2.2.2.2.2.2.2.2.2.2.2.1, hX.2.2.2.2.2.2.2.2.2.2.2.2.2.2.2.2.1, hX.2.2.2.2.2.2.2.2.2.2.2.2.2.2.2.2.2.1, hX.2.2.2.2.2.2.2.2.2.2.2.2.2.2.2.2.2.2.1, hX.2.2.2.2.2.2.2.2.2.2.2.2.2.2.2.2.2.2.2.1, hX.2.2.2.2.2.2.2.2.2.2.2.2.2.2.2.2.2.2.2.2.1, hX.2.2.2.2.2.2.2.2.2.2.2.2.2.2.2.2.2.2.2.2.2.1, hX.2.2.2.2.2.2.2.2.2.2.2.2.2.2.2.2.2.2.2.2.2.2.1, hX.2.2.2.2.2.2.2.2.2.2.2.2.2.2.2.2.2.2.2.2.2.2.2.1, hX.2.2.2.2.2.2.2.2.2.2.2.2.2.2.2.2.2.2.2.2.2.2.2.2.1, hX.2.2.2.2.2.2.2.2.2.2.2.2.2.2.2.2.2.2.2.2.2.2.2.2.2.1, hX.2.2.2.2.2.2.2.2.2.2.2.2.2.2.2.2.2.2.2.2.2.2.2.2.2.2⟩ ⟨(IM_put (k := 30) (IM_put (k := 29) hM.1 (hbx18)) (hbx19)), hM.2.1, hM.2.2⟩ hR hP hD hS hl
  · refine behDi (wr := ((uX6 cs (Q 0 0) (fun _ => Q 0 1) (F 1) (A 1) (B 1) (D 1)) ++ ((uX9 cs (Q 0 1) (Q 2) (F 2) (A 2) (B 2) (D 2)) ++ ((uX3 cs (Q 0 2) (Q 3) (F 3) (A 3) (B 3) (D 3)) ++ ((uX5 cs (Q 0 6) (Q 6) (F 6) (A 6) (B 6) (D 6)) ++ ((uX5 cs (Q 0 7) (Q 7) (F 7) (A 7) (B 7) (D 7)) ++ ((uX0 cs (Q 0 8) (Q 8) (F 8) (A 8) (B 8) (D 8)) ++ ((uX1 cs (Q 0 9) (Q 9) (F 9) (A 9) (B 9) (D 9)) ++ ((uX4 cs (Q 0 10) (Q 10) (F 10) (A 10) (B 10) (D 10)) ++ ((uX7 cs (Q 0 20) (Q 12) (F 12) (A 12) (B 12) (D 12)) ++ ((uX7 cs (Q 0 22) (Q 14) (F 14) (A 14) (B 14) (D 14)) ++ ((uX7 cs (Q 0 23) (Q 15) (F 15) (A 15) (B 15) (D 15)) ++ ((uX8 cs (Q 0 30) (Q 16) (F 16) (A 16) (B 16) (D 16)) ++ ((uX3 cs (Q 16 0) (Q 17) (F 17) (A 17) (B 17) (D 17)) ++ ((uX8 cs (Q 0 31) (Q 18) (F 18) (A 18) (B 18) (D 18)) ++ ((uX3 cs (Q 18 0) (Q 19) (F 19) (A 19) (B 19) (D 19)) ++ ((uX8 cs (Q 0 32) (Q 20) (F 20) (A 20) (B 20) (D 20)) ++ ((uX3 cs (Q 20 0) (Q 21) (F 21) (A 21) (B 21) (D 21)) ++ ((uX5 cs (Q 8 10) (Q 22) (F 22) (A 22) (B 22) (D 22)) ++ ((uX5 cs (Q 8 11) (Q 23) (F 23) (A 23) (B 23) (D 23)) ++ ((uX5 cs (Q 8 12) (Q 24) (F 24) (A 24) (B 24) (D 24)) ++ ((uX5 cs (Q 8 13) (Q 25) (F 25) (A 25) (B 25) (D 25)) ++ ((uX5 cs (Q 8 14) (Q 26) (F 26) (A 26) (B 26) (D 26)) ++ (mS cs h2 q2 MF MA MD MB)))))))))))))))))))))))) (runVD (As := [.int a1, .int 1, .int a3]) (rest := []) ⟨hx, hb, hml, hown, ht⟩ (sX10_drawn_1 l G cs h1 (Q 0) (F 0) (A 0) (B 0) (D 0) hX.1 (Q 4) (F 4) (A 4) (B 4) (D 4) hX.2.2.2.2.1 (Q 5) (F 5) (A 5) (B 5) (D 5) hX.2.2.2.2.2.1 (Q 11) (F 11) (A 11) (B 11) (D 11) hX.2.2.2.2.2.2.2.2.2.2.2.1 (Q 13) (F 13) (A 13) (B 13) (D 13) hX.2.2.2.2.2.2.2.2.2.2.2.2.2.1 a1 a3) okV_RL_237 ⟨(Nat.le_of_ble_eq_true rfl), (Nat.le_of_ble_eq_true rfl)⟩ hK hP hD [0, 1, 2, 14, 15, 16, 17, 18, 19, 20, 21, 22, 23, 47, 50, 51] rfl (by decide +kernel) rfl 0 rfl rfl hl.1 rfl (Nat.le_of_ble_eq_true rfl) dL_law_1752 ⟨(Nat.le_of_ble_eq_true rfl), (Nat.le_of_ble_eq_true rfl)⟩) hP hD hS (fun _ h => h) [0, 1, 2, 14, 15, 16, 17, 18, 19, 20, 21, 22, 23, 47, 50, 51] [3, 4, 5, 6, 7, 8, 9, 10, 11, 12, 13, 24, 25, 26, 27, 28, 29, 30, 31, 32, 33, 34, 35, 36, 37, 38, 39, 40, 41, 42, 43, 44, 45, 46, 48, 49, 52, 53, 54, 55, 56, 57, 58, 59, 60, 61, 62, 63, 64, 65, 66, 67, 68, 69, 70, 71, 72, 73, 74, 75, 76, 77, 78, 79, 80, 81, 82, 83, 84, 85, 86, 87, 88, 89, 90, 91, 92, 93, 94, 95, 96, 97, 98, 99, 100, 101, 102, 103, 104, 105, 106, 107, 108, 109, 110, 111, 112, 113, 114, 115, 116, 117, 118, 119, 120] rfl rfl (by decide +kernel) (by decide +kernel) (fun r9 u H locs hu hP hD hS => ?_)
    obtain ⟨x22, x23, d24⟩ := u
    obtain ⟨r21, rfl⟩ : ∃ z, z = r9 := ⟨_, rfl⟩
    obtain ⟨hbx23, hr21⟩ := hu
    have hbx23 : (-1 : Int) ≤ x23.toInt ∧ x23.toInt ≤ 6 := hbx23
    have hP : va_P G vwCl (LW cs h1 Q h2 q2 (vA F 11 (upd (upd (F 11) 1 x22) 2 x23)) A B (va_up D 11 d24) MF MA MD MB) H := hP.sub [105, 106, 107, 0, 1, 2, 3, 4, 5, 6, 7, 8, 9, 10, 108, 109, 110, 111, 112, 113, 114, 115, 116, 117, 11, 12, 13, 14, 15, 16, 17, 18, 19, 20, 21, 22, 23, 24, 25, 26, 27, 28, 29, 30, 31, 32, 33, 118, 34, 35, 119, 120, 36, 37, 38, 39, 40, 41, 42, 43, 44, 45, 46, 47, 48, 49, 50, 51, 52, 53, 54, 55, 56, 57, 58, 59, 60, 61, 62, 63, 64, 65, 66, 67, 68, 69, 70, 71, 72, 73, 74, 75, 76, 77, 78, 79, 80, 81, 82, 83, 84, 85, 86, 87, 88, 89, 90, 91, 92, 93, 94, 95, 96, 97, 98, 99, 100, 101, 102, 103, 104] rfl
    have hD : va_D (fun q : Nat => s.heap.size ≤ q) (LW cs h1 Q h2 q2 (vA F 11 (upd (upd (F 11) 1 x22) 2 x23)) A B (va_up D 11 d24) MF MA MD MB) := hD.sub [105, 106, 107, 0, 1, 2, 3, 4, 5, 6, 7, 8, 9, 10, 108, 109, 110, 111, 112, 113, 114, 115, 116, 117, 11, 12, 13, 14, 15, 16, 17, 18, 19, 20, 21, 22, 23, 24, 25, 26, 27, 28, 29, 30, 31, 32, 33, 118, 34, 35, 119, 120, 36, 37, 38, 39, 40, 41, 42, 43, 44, 45, 46, 47, 48, 49, 50, 51, 52, 53, 54, 55, 56, 57, 58, 59, 60, 61, 62, 63, 64, 65, 66, 67, 68, 69, 70, 71, 72, 73, 74, 75, 76, 77, 78, 79, 80, 81, 82, 83, 84, 85, 86, 87, 88, 89, 90, 91, 92, 93, 94, 95, 96, 97, 98, 99, 100, 101, 102, 103, 104] (by decide +kernel) rfl
    refine lv_pop hx hb dL_law_1755 rfl ?_
    refine lv_aload_n hx hb dL_law_1756 rfl (lv_at hl 1 rfl) ?_
    refine lv_aload_n hx hb dL_law_1757 rfl (lv_at hl 3 rfl) ?_
    refine lv_iload_n hx hb dL_law_1758 rfl (lv_at hl 0 rfl) ?_
    refine lv_iconst (v := 1) hx hb dL_law_1759 (by decide) ?_
    refine lv_iadd hx hb dL_law_1760 ?_
    refine va_sld hx hb hXs hbl hbA hS (inK t1 (by omega) (by omega)) dL_law_1761 ?_
    refine W.eq (g2 := F0 m 1762 ls [.int a1, .ref h2]) (by rw [← ea1]) ?_
    refine lv_aload_n hx hb dL_law_1762 rfl (lv_at hl 3 rfl) ?_
    refine lv_iload_n hx hb dL_law_1763 rfl (lv_at hl 0 rfl) ?_
    refine lv_iconst (v := 2) hx hb dL_law_1764 (by decide) ?_
    refine lv_iadd hx hb dL_law_1765 ?_
    refine va_sld hx hb hXs hbl hbA hS (inK t2 (by omega) (by omega)) dL_law_1766 ?_
    refine W.eq (g2 := F0 m 1767 ls [.int 1, .int a1, .ref h2]) (by rw [← ea2]) ?_
    refine lv_aload_n hx hb dL_law_1767 rfl (lv_at hl 3 rfl) ?_
    refine lv_iload_n hx hb dL_law_1768 rfl (lv_at hl 0 rfl) ?_
    refine lv_iconst (v := 3) hx hb dL_law_1769 (by decide) ?_
    refine lv_iadd hx hb dL_law_1770 ?_
    refine va_sld hx hb hXs hbl hbA hS (inK t3 (by omega) (by omega)) dL_law_1771 ?_
    refine W.eq (g2 := F0 m 1772 ls [.int a3, .int 1, .int a1, .ref h2]) (by rw [← ea3]) ?_
    refine behDi (wr := (XLW cs h1 Q (vA F 11 (upd (upd (F 11) 1 x22) 2 x23)) A B (va_up D 11 d24))) (runVD (As := [.int a1, .int 1, .int a3]) (rest := []) ⟨hx, hb, hml, hown, ht⟩ (sX11_drawn l G cs h2 q2 MF MA MD MB hM.1 a1 1 a3) okV_RL_240 ⟨(Nat.le_of_ble_eq_true rfl), (Nat.le_of_ble_eq_true rfl)⟩ hK hP hD [101, 102, 103, 104, 105, 106, 107, 108, 109, 110, 111, 112, 113, 114, 115, 116, 117, 118, 119, 120] rfl (by decide +kernel) rfl 101 rfl rfl hl.1 rfl (Nat.le_of_ble_eq_true rfl) dL_law_1772 ⟨(Nat.le_of_ble_eq_true rfl), (Nat.le_of_ble_eq_true rfl)⟩) hP hD hS (fun _ h => h) [101, 102, 103, 104, 105, 106, 107, 108, 109, 110, 111, 112, 113, 114, 115, 116, 117, 118, 119, 120] [0, 1, 2, 3, 4, 5, 6, 7, 8, 9, 10, 11, 12, 13, 14, 15, 16, 17, 18, 19, 20, 21, 22, 23, 24, 25, 26, 27, 28, 29, 30, 31, 32, 33, 34, 35, 36, 37, 38, 39, 40, 41, 42, 43, 44, 45, 46, 47, 48, 49, 50, 51, 52, 53, 54, 55, 56, 57, 58, 59, 60, 61, 62, 63, 64, 65, 66, 67, 68, 69, 70, 71, 72, 73, 74, 75, 76, 77, 78, 79, 80, 81, 82, 83, 84, 85, 86, 87, 88, 89, 90, 91, 92, 93, 94, 95, 96, 97, 98, 99, 100] rfl rfl (by decide +kernel) (by decide +kernel) (fun r9 u H locs hu hP hD hS => ?_)
    obtain ⟨x26, x27, d28⟩ := u
    obtain ⟨r25, rfl⟩ : ∃ z, z = r9 := ⟨_, rfl⟩
    obtain ⟨hbx26, hbx27, hr25⟩ := hu
    have hbx26 : (-1 : Int) ≤ x26.toInt ∧ x26.toInt ≤ 59 := hbx26
    have hbx27 : (-1 : Int) ≤ x27.toInt ∧ x27.toInt ≤ 6 := hbx27
    have hP : va_P G vwCl (LW cs h1 Q h2 q2 (vA F 11 (upd (upd (F 11) 1 x22) 2 x23)) A B (va_up D 11 d24) (upd (upd MF 29 x26) 30 x27) MA d28 MB) H := hP
    have hD : va_D (fun q : Nat => s.heap.size ≤ q) (LW cs h1 Q h2 q2 (vA F 11 (upd (upd (F 11) 1 x22) 2 x23)) A B (va_up D 11 d24) (upd (upd MF 29 x26) 30 x27) MA d28 MB) := hD
    refine lv_pop hx hb dL_law_1775 rfl ?_
    refine lv_goto (tgt := 2156) hx hb dL_law_1776 (by decide) ?_
    exact kk (vA F 11 (upd (upd (F 11) 1 x22) 2 x23)) A B (va_up D 11 d24) (upd (upd MF 29 x26) 30 x27) MA d28 MB H locs ls ⟨hX.1, hX.2.1, hX.2.2.1, hX.2.2.2.1, hX.2.2.2.2.1, hX.2.2.2.2.2.1, hX.2.2.2.2.2.2.1, hX.2.2.2.2.2.2.2.1, hX.2.2.2.2.2.2.2.2.1, hX.2.2.2.2.2.2.2.2.2.1, hX.2.2.2.2.2.2.2.2.2.2.1, (IB_put (k := 2) (IB_put (k := 1) hX.2.2.2.2.2.2.2.2.2.2.2.1 (i32b _)) (hbx23)), hX.2.2.2.2.2.2.2.2.2.2.2.2.1, hX.2.2.2.2.2.2.2.2.2.2.2.2.2.1, hX.2.2.2.2.2.2.2.2.2.2.2.2.2.2.1, hX.2.2.2.2.2.2.2.2.2.2.2.2.2.2.2.1, hX.2.2.2.2.2.2.2.2.2.2.2.2.2.2.2.2.1, hX.2.2.2.2.2.2.2.2.2.2.2.2.2.2.2.2.2.1, hX.2.2.2.2.2.2.2.2.2.2.2.2.2.2.2.2.2.2.1, hX.2.2.2.2.2.2.2.2.2.2.2.2.2.2.2.2.2.2.2.1, hX.2.2.2.2.2.2.2.2.2.2.2.2.2.2.2.2.2.2.2.2.1, hX.2.2.2.2.2.2.2.2.2.2.2.2.2.2.2.2.2.2.2.2.2.1, hX.2.2.2.2.2.2.2.2.2.2.2.2.2.2.2.2.2.2.2.2.2.2.1, hX.2.2.2.2.2.2.2.2.2.2.2.2.2.2.2.2.2.2.2.2.2.2.2.1, hX.2.2.2.2.2.2.2.2.2.2.2.2.2.2.2.2.2.2.2.2.2.2.2.2.1, hX.2.2.2.2.2.2.2.2.2.2.2.2.2.2.2.2.2.2.2.2.2.2.2.2.2.1, hX.2.2.2.2.2.2.2.2.2.2.2.2.2.2.2.2.2.2.2.2.2.2.2.2.2.2⟩ ⟨(IM_put (k := 30) (IM_put (k := 29) hM.1 (hbx26)) (hbx27)), hM.2.1, hM.2.2⟩ hR hP hD hS hl
  · refine behDi (wr := ((uX6 cs (Q 0 0) (fun _ => Q 0 1) (F 1) (A 1) (B 1) (D 1)) ++ ((uX9 cs (Q 0 1) (Q 2) (F 2) (A 2) (B 2) (D 2)) ++ ((uX3 cs (Q 0 2) (Q 3) (F 3) (A 3) (B 3) (D 3)) ++ ((uX5 cs (Q 0 6) (Q 6) (F 6) (A 6) (B 6) (D 6)) ++ ((uX5 cs (Q 0 7) (Q 7) (F 7) (A 7) (B 7) (D 7)) ++ ((uX0 cs (Q 0 8) (Q 8) (F 8) (A 8) (B 8) (D 8)) ++ ((uX1 cs (Q 0 9) (Q 9) (F 9) (A 9) (B 9) (D 9)) ++ ((uX4 cs (Q 0 10) (Q 10) (F 10) (A 10) (B 10) (D 10)) ++ ((uX7 cs (Q 0 20) (Q 12) (F 12) (A 12) (B 12) (D 12)) ++ ((uX7 cs (Q 0 21) (Q 13) (F 13) (A 13) (B 13) (D 13)) ++ ((uX7 cs (Q 0 23) (Q 15) (F 15) (A 15) (B 15) (D 15)) ++ ((uX8 cs (Q 0 30) (Q 16) (F 16) (A 16) (B 16) (D 16)) ++ ((uX3 cs (Q 16 0) (Q 17) (F 17) (A 17) (B 17) (D 17)) ++ ((uX8 cs (Q 0 31) (Q 18) (F 18) (A 18) (B 18) (D 18)) ++ ((uX3 cs (Q 18 0) (Q 19) (F 19) (A 19) (B 19) (D 19)) ++ ((uX8 cs (Q 0 32) (Q 20) (F 20) (A 20) (B 20) (D 20)) ++ ((uX3 cs (Q 20 0) (Q 21) (F 21) (A 21) (B 21) (D 21)) ++ ((uX5 cs (Q 8 10) (Q 22) (F 22) (A 22) (B 22) (D 22)) ++ ((uX5 cs (Q 8 11) (Q 23) (F 23) (A 23) (B 23) (D 23)) ++ ((uX5 cs (Q 8 12) (Q 24) (F 24) (A 24) (B 24) (D 24)) ++ ((uX5 cs (Q 8 13) (Q 25) (F 25) (A 25) (B 25) (D 25)) ++ ((uX5 cs (Q 8 14) (Q 26) (F 26) (A 26) (B 26) (D 26)) ++ (mS cs h2 q2 MF MA MD MB)))))))))))))))))))))))) (runVD (As := [.int a1, .int 2, .int a3]) (rest := []) ⟨hx, hb, hml, hown, ht⟩ (sX10_drawn_2 l G cs h1 (Q 0) (F 0) (A 0) (B 0) (D 0) hX.1 (Q 4) (F 4) (A 4) (B 4) (D 4) hX.2.2.2.2.1 (Q 5) (F 5) (A 5) (B 5) (D 5) hX.2.2.2.2.2.1 (Q 11) (F 11) (A 11) (B 11) (D 11) hX.2.2.2.2.2.2.2.2.2.2.2.1 (Q 14) (F 14) (A 14) (B 14) (D 14) hX.2.2.2.2.2.2.2.2.2.2.2.2.2.2.1 a1 a3) okV_RL_237 ⟨(Nat.le_of_ble_eq_true rfl), (Nat.le_of_ble_eq_true rfl)⟩ hK hP hD [0, 1, 2, 14, 15, 16, 17, 18, 19, 20, 21, 22, 23, 47, 52, 53] rfl (by decide +kernel) rfl 0 rfl rfl hl.1 rfl (Nat.le_of_ble_eq_true rfl) dL_law_1752 ⟨(Nat.le_of_ble_eq_true rfl), (Nat.le_of_ble_eq_true rfl)⟩) hP hD hS (fun _ h => h) [0, 1, 2, 14, 15, 16, 17, 18, 19, 20, 21, 22, 23, 47, 52, 53] [3, 4, 5, 6, 7, 8, 9, 10, 11, 12, 13, 24, 25, 26, 27, 28, 29, 30, 31, 32, 33, 34, 35, 36, 37, 38, 39, 40, 41, 42, 43, 44, 45, 46, 48, 49, 50, 51, 54, 55, 56, 57, 58, 59, 60, 61, 62, 63, 64, 65, 66, 67, 68, 69, 70, 71, 72, 73, 74, 75, 76, 77, 78, 79, 80, 81, 82, 83, 84, 85, 86, 87, 88, 89, 90, 91, 92, 93, 94, 95, 96, 97, 98, 99, 100, 101, 102, 103, 104, 105, 106, 107, 108, 109, 110, 111, 112, 113, 114, 115, 116, 117, 118, 119, 120] rfl rfl (by decide +kernel) (by decide +kernel) (fun r9 u H locs hu hP hD hS => ?_)
    obtain ⟨x30, x31, d32⟩ := u
    obtain ⟨r29, rfl⟩ : ∃ z, z = r9 := ⟨_, rfl⟩
    obtain ⟨hbx31, hr29⟩ := hu
    have hbx31 : (-1 : Int) ≤ x31.toInt ∧ x31.toInt ≤ 6 := hbx31
    have hP : va_P G vwCl (LW cs h1 Q h2 q2 (vA F 11 (upd (upd (F 11) 1 x30) 2 x31)) A B (va_up D 11 d32) MF MA MD MB) H := hP.sub [105, 106, 107, 0, 1, 2, 3, 4, 5, 6, 7, 8, 9, 10, 108, 109, 110, 111, 112, 113, 114, 115, 116, 117, 11, 12, 13, 14, 15, 16, 17, 18, 19, 20, 21, 22, 23, 24, 25, 26, 27, 28, 29, 30, 31, 32, 33, 118, 34, 35, 36, 37, 119, 120, 38, 39, 40, 41, 42, 43, 44, 45, 46, 47, 48, 49, 50, 51, 52, 53, 54, 55, 56, 57, 58, 59, 60, 61, 62, 63, 64, 65, 66, 67, 68, 69, 70, 71, 72, 73, 74, 75, 76, 77, 78, 79, 80, 81, 82, 83, 84, 85, 86, 87, 88, 89, 90, 91, 92, 93, 94, 95, 96, 97, 98, 99, 100, 101, 102, 103, 104] rfl
    have hD : va_D (fun q : Nat => s.heap.size ≤ q) (LW cs h1 Q h2 q2 (vA F 11 (upd (upd (F 11) 1 x30) 2 x31)) A B (va_up D 11 d32) MF MA MD MB) := hD.sub [105, 106, 107, 0, 1, 2, 3, 4, 5, 6, 7, 8, 9, 10, 108, 109, 110, 111, 112, 113, 114, 115, 116, 117, 11, 12, 13, 14, 15, 16, 17, 18, 19, 20, 21, 22, 23, 24, 25, 26, 27, 28, 29, 30, 31, 32, 33, 118, 34, 35, 36, 37, 119, 120, 38, 39, 40, 41, 42, 43, 44, 45, 46, 47, 48, 49, 50, 51, 52, 53, 54, 55, 56, 57, 58, 59, 60, 61, 62, 63, 64, 65, 66, 67, 68, 69, 70, 71, 72, 73, 74, 75, 76, 77, 78, 79, 80, 81, 82, 83, 84, 85, 86, 87, 88, 89, 90, 91, 92, 93, 94, 95, 96, 97, 98, 99, 100, 101, 102, 103, 104] (by decide +kernel) rfl
    refine lv_pop hx hb dL_law_1755 rfl ?_
    refine lv_aload_n hx hb dL_law_1756 rfl (lv_at hl 1 rfl) ?_
    refine lv_aload_n hx hb dL_law_1757 rfl (lv_at hl 3 rfl) ?_
    refine lv_iload_n hx hb dL_law_1758 rfl (lv_at hl 0 rfl) ?_
    refine lv_iconst (v := 1) hx hb dL_law_1759 (by decide) ?_
    refine lv_iadd hx hb dL_law_1760 ?_
    refine va_sld hx hb hXs hbl hbA hS (inK t1 (by omega) (by omega)) dL_law_1761 ?_
    refine W.eq (g2 := F0 m 1762 ls [.int a1, .ref h2]) (by rw [← ea1]) ?_
    refine lv_aload_n hx hb dL_law_1762 rfl (lv_at hl 3 rfl) ?_
    refine lv_iload_n hx hb dL_law_1763 rfl (lv_at hl 0 rfl) ?_
    refine lv_iconst (v := 2) hx hb dL_law_1764 (by decide) ?_
    refine lv_iadd hx hb dL_law_1765 ?_
    refine va_sld hx hb hXs hbl hbA hS (inK t2 (by omega) (by omega)) dL_law_1766 ?_
    refine W.eq (g2 := F0 m 1767 ls [.int 2, .int a1, .ref h2]) (by rw [← ea2]) ?_
    refine lv_aload_n hx hb dL_law_1767 rfl (lv_at hl 3 rfl) ?_
    refine lv_iload_n hx hb dL_law_1768 rfl (lv_at hl 0 rfl) ?_
    refine lv_iconst (v := 3) hx hb dL_law_1769 (by decide) ?_
    refine lv_iadd hx hb dL_law_1770 ?_
    refine va_sld hx hb hXs hbl hbA hS (inK t3 (by omega) (by omega)) dL_law_1771 ?_
    refine W.eq (g2 := F0 m 1772 ls [.int a3, .int 2, .int a1, .ref h2]) (by rw [← ea3]) ?_
    refine behDi (wr := (XLW cs h1 Q (vA F 11 (upd (upd (F 11) 1 x30) 2 x31)) A B (va_up D 11 d32))) (runVD (As := [.int a1, .int 2, .int a3]) (rest := []) ⟨hx, hb, hml, hown, ht⟩ (sX11_drawn l G cs h2 q2 MF MA MD MB hM.1 a1 2 a3) okV_RL_240 ⟨(Nat.le_of_ble_eq_true rfl), (Nat.le_of_ble_eq_true rfl)⟩ hK hP hD [101, 102, 103, 104, 105, 106, 107, 108, 109, 110, 111, 112, 113, 114, 115, 116, 117, 118, 119, 120] rfl (by decide +kernel) rfl 101 rfl rfl hl.1 rfl (Nat.le_of_ble_eq_true rfl) dL_law_1772 ⟨(Nat.le_of_ble_eq_true rfl), (Nat.le_of_ble_eq_true rfl)⟩) hP hD hS (fun _ h => h) [101, 102, 103, 104, 105, 106, 107, 108, 109, 110, 111, 112, 113, 114, 115, 116, 117, 118, 119, 120] [0, 1, 2, 3, 4, 5, 6, 7, 8, 9, 10, 11, 12, 13, 14, 15, 16, 17, 18, 19, 20, 21, 22, 23, 24, 25, 26, 27, 28, 29, 30, 31, 32, 33, 34, 35, 36, 37, 38, 39, 40, 41, 42, 43, 44, 45, 46, 47, 48, 49, 50, 51, 52, 53, 54, 55, 56, 57, 58, 59, 60, 61, 62, 63, 64, 65, 66, 67, 68, 69, 70, 71, 72, 73, 74, 75, 76, 77, 78, 79, 80, 81, 82, 83, 84, 85, 86, 87, 88, 89, 90, 91, 92, 93, 94, 95, 96, 97, 98, 99, 100] rfl rfl (by decide +kernel) (by decide +kernel) (fun r9 u H locs hu hP hD hS => ?_)
    obtain ⟨x34, x35, d36⟩ := u
    obtain ⟨r33, rfl⟩ : ∃ z, z = r9 := ⟨_, rfl⟩
    obtain ⟨hbx34, hbx35, hr33⟩ := hu
    have hbx34 : (-1 : Int) ≤ x34.toInt ∧ x34.toInt ≤ 59 := hbx34
    have hbx35 : (-1 : Int) ≤ x35.toInt ∧ x35.toInt ≤ 6 := hbx35
    have hP : va_P G vwCl (LW cs h1 Q h2 q2 (vA F 11 (upd (upd (F 11) 1 x30) 2 x31)) A B (va_up D 11 d32) (upd (upd MF 29 x34) 30 x35) MA d36 MB) H := hP
    have hD : va_D (fun q : Nat => s.heap.size ≤ q) (LW cs h1 Q h2 q2 (vA F 11 (upd (upd (F 11) 1 x30) 2 x31)) A B (va_up D 11 d32) (upd (upd MF 29 x34) 30 x35) MA d36 MB) := hD
    refine lv_pop hx hb dL_law_1775 rfl ?_
    refine lv_goto (tgt := 2156) hx hb dL_law_1776 (by decide) ?_
    exact kk (vA F 11 (upd (upd (F 11) 1 x30) 2 x31)) A B (va_up D 11 d32) (upd (upd MF 29 x34) 30 x35) MA d36 MB H locs ls ⟨hX.1, hX.2.1, hX.2.2.1, hX.2.2.2.1, hX.2.2.2.2.1, hX.2.2.2.2.2.1, hX.2.2.2.2.2.2.1, hX.2.2.2.2.2.2.2.1, hX.2.2.2.2.2.2.2.2.1, hX.2.2.2.2.2.2.2.2.2.1, hX.2.2.2.2.2.2.2.2.2.2.1, (IB_put (k := 2) (IB_put (k := 1) hX.2.2.2.2.2.2.2.2.2.2.2.1 (i32b _)) (hbx31)), hX.2.2.2.2.2.2.2.2.2.2.2.2.1, hX.2.2.2.2.2.2.2.2.2.2.2.2.2.1, hX.2.2.2.2.2.2.2.2.2.2.2.2.2.2.1, hX.2.2.2.2.2.2.2.2.2.2.2.2.2.2.2.1, hX.2.2.2.2.2.2.2.2.2.2.2.2.2.2.2.2.1, hX.2.2.2.2.2.2.2.2.2.2.2.2.2.2.2.2.2.1, hX.2.2.2.2.2.2.2.2.2.2.2.2.2.2.2.2.2.2.1, hX.2.2.2.2.2.2.2.2.2.2.2.2.2.2.2.2.2.2.2.1, hX.2.2.2.2.2.2.2.2.2.2.2.2.2.2.2.2.2.2.2.2.1, hX.2.2.2.2.2.2.2.2.2.2.2.2.2.2.2.2.2.2.2.2.2.1, hX.2.2.2.2.2.2.2.2.2.2.2.2.2.2.2.2.2.2.2.2.2.2.1, hX.2.2.2.2.2.2.2.2.2.2.2.2.2.2.2.2.2.2.2.2.2.2.2.1, hX.2.2.2.2.2.2.2.2.2.2.2.2.2.2.2.2.2.2.2.2.2.2.2.2.1, hX.2.2.2.2.2.2.2.2.2.2.2.2.2.2.2.2.2.2.2.2.2.2.2.2.2.1, hX.2.2.2.2.2.2.2.2.2.2.2.2.2.2.2.2.2.2.2.2.2.2.2.2.2.2⟩ ⟨(IM_put (k := 30) (IM_put (k := 29) hM.1 (hbx34)) (hbx35)), hM.2.1, hM.2.2⟩ hR hP hD hS hl
  · refine behDi (wr := ((uX6 cs (Q 0 0) (fun _ => Q 0 1) (F 1) (A 1) (B 1) (D 1)) ++ ((uX9 cs (Q 0 1) (Q 2) (F 2) (A 2) (B 2) (D 2)) ++ ((uX3 cs (Q 0 2) (Q 3) (F 3) (A 3) (B 3) (D 3)) ++ ((uX5 cs (Q 0 6) (Q 6) (F 6) (A 6) (B 6) (D 6)) ++ ((uX5 cs (Q 0 7) (Q 7) (F 7) (A 7) (B 7) (D 7)) ++ ((uX0 cs (Q 0 8) (Q 8) (F 8) (A 8) (B 8) (D 8)) ++ ((uX1 cs (Q 0 9) (Q 9) (F 9) (A 9) (B 9) (D 9)) ++ ((uX4 cs (Q 0 10) (Q 10) (F 10) (A 10) (B 10) (D 10)) ++ ((uX7 cs (Q 0 20) (Q 12) (F 12) (A 12) (B 12) (D 12)) ++ ((uX7 cs (Q 0 21) (Q 13) (F 13) (A 13) (B 13) (D 13)) ++ ((uX7 cs (Q 0 22) (Q 14) (F 14) (A 14) (B 14) (D 14)) ++ ((uX8 cs (Q 0 30) (Q 16) (F 16) (A 16) (B 16) (D 16)) ++ ((uX3 cs (Q 16 0) (Q 17) (F 17) (A 17) (B 17) (D 17)) ++ ((uX8 cs (Q 0 31) (Q 18) (F 18) (A 18) (B 18) (D 18)) ++ ((uX3 cs (Q 18 0) (Q 19) (F 19) (A 19) (B 19) (D 19)) ++ ((uX8 cs (Q 0 32) (Q 20) (F 20) (A 20) (B 20) (D 20)) ++ ((uX3 cs (Q 20 0) (Q 21) (F 21) (A 21) (B 21) (D 21)) ++ ((uX5 cs (Q 8 10) (Q 22) (F 22) (A 22) (B 22) (D 22)) ++ ((uX5 cs (Q 8 11) (Q 23) (F 23) (A 23) (B 23) (D 23)) ++ ((uX5 cs (Q 8 12) (Q 24) (F 24) (A 24) (B 24) (D 24)) ++ ((uX5 cs (Q 8 13) (Q 25) (F 25) (A 25) (B 25) (D 25)) ++ ((uX5 cs (Q 8 14) (Q 26) (F 26) (A 26) (B 26) (D 26)) ++ (mS cs h2 q2 MF MA MD MB)))))))))))))))))))))))) (runVD (As := [.int a1, .int 3, .int a3]) (rest := []) ⟨hx, hb, hml, hown, ht⟩ (sX10_drawn_3 l G cs h1 (Q 0) (F 0) (A 0) (B 0) (D 0) hX.1 (Q 4) (F 4) (A 4) (B 4) (D 4) hX.2.2.2.2.1 (Q 5) (F 5) (A 5) (B 5) (D 5) hX.2.2.2.2.2.1 (Q 11) (F 11) (A 11) (B 11) (D 11) hX.2.2.2.2.2.2.2.2.2.2.2.1 (Q 15) (F 15) (A 15) (B 15) (D 15) hX.2.2.2.2.2.2.2.2.2.2.2.2.2.2.2.1 a1 a3) okV_RL_237 ⟨(Nat.le_of_ble_eq_true rfl), (Nat.le_of_ble_eq_true rfl)⟩ hK hP hD [0, 1, 2, 14, 15, 16, 17, 18, 19, 20, 21, 22, 23, 47, 54, 55] rfl (by decide +kernel) rfl 0 rfl rfl hl.1 rfl (Nat.le_of_ble_eq_true rfl) dL_law_1752 ⟨(Nat.le_of_ble_eq_true rfl), (Nat.le_of_ble_eq_true rfl)⟩) hP hD hS (fun _ h => h) [0, 1, 2, 14, 15, 16, 17, 18, 19, 20, 21, 22, 23, 47, 54, 55] [3, 4, 5, 6, 7, 8, 9, 10, 11, 12, 13, 24, 25, 26, 27, 28, 29, 30, 31, 32, 33, 34, 35, 36, 37, 38, 39, 40, 41, 42, 43, 44, 45, 46, 48, 49, 50, 51, 52, 53, 56, 57, 58, 59, 60, 61, 62, 63, 64, 65, 66, 67, 68, 69, 70, 71, 72, 73, 74, 75, 76, 77, 78, 79, 80, 81, 82, 83, 84, 85, 86, 87, 88, 89, 90, 91, 92, 93, 94, 95, 96, 97, 98, 99, 100, 101, 102, 103, 104, 105, 106, 107, 108, 109, 110, 111, 112, 113, 114, 115, 116, 117, 118, 119, 120] rfl rfl (by decide +kernel) (by decide +kernel) (fun r9 u H locs hu hP hD hS => ?_)
    obtain ⟨x38, x39, d40⟩ := u
    obtain ⟨r37, rfl⟩ : ∃ z, z = r9 := ⟨_, rfl⟩
    obtain ⟨hbx39, hr37⟩ := hu
    have hbx39 : (-1 : Int) ≤ x39.toInt ∧ x39.toInt ≤ 6 := hbx39
    have hP : va_P G vwCl (LW cs h1 Q h2 q2 (vA F 11 (upd (upd (F 11) 1 x38) 2 x39)) A B (va_up D 11 d40) MF MA MD MB) H := hP.sub [105, 106, 107, 0, 1, 2, 3, 4, 5, 6, 7, 8, 9, 10, 108, 109, 110, 111, 112, 113, 114, 115, 116, 117, 11, 12, 13, 14, 15, 16, 17, 18, 19, 20, 21, 22, 23, 24, 25, 26, 27, 28, 29, 30, 31, 32, 33, 118, 34, 35, 36, 37, 38, 39, 119, 120, 40, 41, 42, 43, 44, 45, 46, 47, 48, 49, 50, 51, 52, 53, 54, 55, 56, 57, 58, 59, 60, 61, 62, 63, 64, 65, 66, 67, 68, 69, 70, 71, 72, 73, 74, 75, 76, 77, 78, 79, 80, 81, 82, 83, 84, 85, 86, 87, 88, 89, 90, 91, 92, 93, 94, 95, 96, 97, 98, 99, 100, 101, 102, 103, 104] rfl
    have hD : va_D (fun q : Nat => s.heap.size ≤ q) (LW cs h1 Q h2 q2 (vA F 11 (upd (upd (F 11) 1 x38) 2 x39)) A B (va_up D 11 d40) MF MA MD MB) := hD.sub [105, 106, 107, 0, 1, 2, 3, 4, 5, 6, 7, 8, 9, 10, 108, 109, 110, 111, 112, 113, 114, 115, 116, 117, 11, 12, 13, 14, 15, 16, 17, 18, 19, 20, 21, 22, 23, 24, 25, 26, 27, 28, 29, 30, 31, 32, 33, 118, 34, 35, 36, 37, 38, 39, 119, 120, 40, 41, 42, 43, 44, 45, 46, 47, 48, 49, 50, 51, 52, 53, 54, 55, 56, 57, 58, 59, 60, 61, 62, 63, 64, 65, 66, 67, 68, 69, 70, 71, 72, 73, 74, 75, 76, 77, 78, 79, 80, 81, 82, 83, 84, 85, 86, 87, 88, 89, 90, 91, 92, 93, 94, 95, 96, 97, 98, 99, 100, 101, 102, 103, 104] (by decide +kernel) rfl
    refine lv_pop hx hb dL_law_1755 rfl ?_
    refine lv_aload_n hx hb dL_law_1756 rfl (lv_at hl 1 rfl) ?_
    refine lv_aload_n hx hb dL_law_1757 rfl (lv_at hl 3 rfl) ?_
    refine lv_iload_n hx hb dL_law_1758 rfl (lv_at hl 0 rfl) ?_
    refine lv_iconst (v := 1) hx hb dL_law_1759 (by decide) ?_
    refine lv_iadd hx hb dL_law_1760 ?_
    refine va_sld hx hb hXs hbl hbA hS (inK t1 (by omega) (by omega)) dL_law_1761 ?_
    refine W.eq (g2 := F0 m 1762 ls [.int a1, .ref h2]) (by rw [← ea1]) ?_
    refine lv_aload_n hx hb dL_law_1762 rfl (lv_at hl 3 rfl) ?_
    refine lv_iload_n hx hb dL_law_1763 rfl (lv_at hl 0 rfl) ?_
    refine lv_iconst (v := 2) hx hb dL_law_1764 (by decide) ?_
    refine lv_iadd hx hb dL_law_1765 ?_
    refine va_sld hx hb hXs hbl hbA hS (inK t2 (by omega) (by omega)) dL_law_1766 ?_
    refine W.eq (g2 := F0 m 1767 ls [.int 3, .int a1, .ref h2]) (by rw [← ea2]) ?_
    refine lv_aload_n hx hb dL_law_1767 rfl (lv_at hl 3 rfl) ?_
    refine lv_iload_n hx hb dL_law_1768 rfl (lv_at hl 0 rfl) ?_
    refine lv_iconst (v := 3) hx hb dL_law_1769 (by decide) ?_
    refine lv_iadd hx hb dL_law_1770 ?_
    refine va_sld hx hb hXs hbl hbA hS (inK t3 (by omega) (by omega)) dL_law_1771 ?_
    refine W.eq (g2 := F0 m 1772 ls [.int a3, .int 3, .int a1, .ref h2]) (by rw [← ea3]) ?_
    refine behDi (wr := (XLW cs h1 Q (vA F 11 (upd (upd (F 11) 1 x38) 2 x39)) A B (va_up D 11 d40))) (runVD (As := [.int a1, .int 3, .int a3]) (rest := []) ⟨hx, hb, hml, hown, ht⟩ (sX11_drawn l G cs h2 q2 MF MA MD MB hM.1 a1 3 a3) okV_RL_240 ⟨(Nat.le_of_ble_eq_true rfl), (Nat.le_of_ble_eq_true rfl)⟩ hK hP hD [101, 102, 103, 104, 105, 106, 107, 108, 109, 110, 111, 112, 113, 114, 115, 116, 117, 118, 119, 120] rfl (by decide +kernel) rfl 101 rfl rfl hl.1 rfl (Nat.le_of_ble_eq_true rfl) dL_law_1772 ⟨(Nat.le_of_ble_eq_true rfl), (Nat.le_of_ble_eq_true rfl)⟩) hP hD hS (fun _ h => h) [101, 102, 103, 104, 105, 106, 107, 108, 109, 110, 111, 112, 113, 114, 115, 116, 117, 118, 119, 120] [0, 1, 2, 3, 4, 5, 6, 7, 8, 9, 10, 11, 12, 13, 14, 15, 16, 17, 18, 19, 20, 21, 22, 23, 24, 25, 26, 27, 28, 29, 30, 31, 32, 33, 34, 35, 36, 37, 38, 39, 40, 41, 42, 43, 44, 45, 46, 47, 48, 49, 50, 51, 52, 53, 54, 55, 56, 57, 58, 59, 60, 61, 62, 63, 64, 65, 66, 67, 68, 69, 70, 71, 72, 73, 74, 75, 76, 77, 78, 79, 80, 81, 82, 83, 84, 85, 86, 87, 88, 89, 90, 91, 92, 93, 94, 95, 96, 97, 98, 99, 100] rfl rfl (by decide +kernel) (by decide +kernel) (fun r9 u H locs hu hP hD hS => ?_)
    obtain ⟨x42, x43, d44⟩ := u
    obtain ⟨r41, rfl⟩ : ∃ z, z = r9 := ⟨_, rfl⟩
    obtain ⟨hbx42, hbx43, hr41⟩ := hu
    have hbx42 : (-1 : Int) ≤ x42.toInt ∧ x42.toInt ≤ 59 := hbx42
    have hbx43 : (-1 : Int) ≤ x43.toInt ∧ x43.toInt ≤ 6 := hbx43
    have hP : va_P G vwCl (LW cs h1 Q h2 q2 (vA F 11 (upd (upd (F 11) 1 x38) 2 x39)) A B (va_up D 11 d40) (upd (upd MF 29 x42) 30 x43) MA d44 MB) H := hP
    have hD : va_D (fun q : Nat => s.heap.size ≤ q) (LW cs h1 Q h2 q2 (vA F 11 (upd (upd (F 11) 1 x38) 2 x39)) A B (va_up D 11 d40) (upd (upd MF 29 x42) 30 x43) MA d44 MB) := hD
    refine lv_pop hx hb dL_law_1775 rfl ?_
    refine lv_goto (tgt := 2156) hx hb dL_law_1776 (by decide) ?_
    exact kk (vA F 11 (upd (upd (F 11) 1 x38) 2 x39)) A B (va_up D 11 d40) (upd (upd MF 29 x42) 30 x43) MA d44 MB H locs ls ⟨hX.1, hX.2.1, hX.2.2.1, hX.2.2.2.1, hX.2.2.2.2.1, hX.2.2.2.2.2.1, hX.2.2.2.2.2.2.1, hX.2.2.2.2.2.2.2.1, hX.2.2.2.2.2.2.2.2.1, hX.2.2.2.2.2.2.2.2.2.1, hX.2.2.2.2.2.2.2.2.2.2.1, (IB_put (k := 2) (IB_put (k := 1) hX.2.2.2.2.2.2.2.2.2.2.2.1 (i32b _)) (hbx39)), hX.2.2.2.2.2.2.2.2.2.2.2.2.1, hX.2.2.2.2.2.2.2.2.2.2.2.2.2.1, hX.2.2.2.2.2.2.2.2.2.2.2.2.2.2.1, hX.2.2.2.2.2.2.2.2.2.2.2.2.2.2.2.1, hX.2.2.2.2.2.2.2.2.2.2.2.2.2.2.2.2.1, hX.2.2.2.2.2.2.2.2.2.2.2.2.2.2.2.2.2.1, hX.2.2.2.2.2.2.2.2.2.2.2.2.2.2.2.2.2.2.1, hX.2.2.2.2.2.2.2.2.2.2.2.2.2.2.2.2.2.2.2.1, hX.2.2.2.2.2.2.2.2.2.2.2.2.2.2.2.2.2.2.2.2.1, hX.2.2.2.2.2.2.2.2.2.2.2.2.2.2.2.2.2.2.2.2.2.1, hX.2.2.2.2.2.2.2.2.2.2.2.2.2.2.2.2.2.2.2.2.2.2.1, hX.2.2.2.2.2.2.2.2.2.2.2.2.2.2.2.2.2.2.2.2.2.2.2.1, hX.2.2.2.2.2.2.2.2.2.2.2.2.2.2.2.2.2.2.2.2.2.2.2.2.1, hX.2.2.2.2.2.2.2.2.2.2.2.2.2.2.2.2.2.2.2.2.2.2.2.2.2.1, hX.2.2.2.2.2.2.2.2.2.2.2.2.2.2.2.2.2.2.2.2.2.2.2.2.2.2⟩ ⟨(IM_put (k := 30) (IM_put (k := 29) hM.1 (hbx42)) (hbx43)), hM.2.1, hM.2.2⟩ hR hP hD hS hl

set_option maxRecDepth 100000 in
set_option maxHeartbeats 16000000 in
theorem law_55 {p : Program} {l : Launch} {e : Env} {s : State} {m : MethodId} {below : List Frame} {meth : Method} {c : Code} {b L : Nat} {xs : Nat → Int32} {G : va_G} {cs : Nat → ClassId} {h1 : Nat} {Q : Nat → Nat → Nat} {h2 : Nat} {q2 : Nat → Nat} {sd : Nat → Nat × Nat} {i : Int32} : LCase p l e s m below meth c b G cs h1 Q h2 q2 i L xs sd 55 := by
  intro C0 hL hK hQ hQM hi0 hi6 kk F A B D MF MA MD MB H locs ls hX hM hR hP hD hS hl
  obtain ⟨hx, hb, hr, hml, hown, hts, hXs, hbl, hlocks, hgv⟩ := id C0
  have hown : s.vm.findClass RL = some m.cls := hown
  have ht : ∀ w ∈ tb, w.before #[Value.ref b] s = true := fun w h => hts w (List.mem_filter.mp h).1
  have hbA : ¬ (fun q : Nat => s.heap.size ≤ q) b := Nat.not_le.mpr hbl
  have t1 : (i + 1).toInt = i.toInt + 1 := addT rfl (by decide) (by omega)
  obtain ⟨a1, ea1⟩ : ∃ z : Int32, z = xs (i + 1).toNatClampNeg := ⟨_, rfl⟩
  have t2 : (i + 2).toInt = i.toInt + 2 := addT rfl (by decide) (by omega)
  obtain ⟨a2, ea2⟩ : ∃ z : Int32, z = xs (i + 2).toNatClampNeg := ⟨_, rfl⟩
  have t3 : (i + 3).toInt = i.toInt + 3 := addT rfl (by decide) (by omega)
  obtain ⟨a3, ea3⟩ : ∃ z : Int32, z = xs (i + 3).toNatClampNeg := ⟨_, rfl⟩
  refine lv_tableIn (off := 1746) (tgt := 1779) hx hb dL_law_33 (by decide) (by decide) (by decide) (by decide) ?_
  refine lv_aload_n hx hb dL_law_1779 rfl (lv_at hl 2 rfl) ?_
  refine lv_aload_n hx hb dL_law_1780 rfl (lv_at hl 3 rfl) ?_
  refine lv_iload_n hx hb dL_law_1781 rfl (lv_at hl 0 rfl) ?_
  refine lv_iconst (v := 1) hx hb dL_law_1782 (by decide) ?_
  refine lv_iadd hx hb dL_law_1783 ?_
  refine va_sld hx hb hXs hbl hbA hS (inK t1 (by omega) (by omega)) dL_law_1784 ?_
  refine W.eq (g2 := F0 m 1785 ls [.int a1, .ref h1]) (by rw [← ea1]) ?_
  refine lv_aload_n hx hb dL_law_1785 rfl (lv_at hl 3 rfl) ?_
  refine lv_iload_n hx hb dL_law_1786 rfl (lv_at hl 0 rfl) ?_
  refine lv_iconst (v := 2) hx hb dL_law_1787 (by decide) ?_
  refine lv_iadd hx hb dL_law_1788 ?_
  refine va_sld hx hb hXs hbl hbA hS (inK t2 (by omega) (by omega)) dL_law_1789 ?_
  refine W.eq (g2 := F0 m 1790 ls [.int a2, .int a1, .ref h1]) (by rw [← ea2]) ?_
  refine lv_aload_n hx hb dL_law_1790 rfl (lv_at hl 3 rfl) ?_
  refine lv_iload_n hx hb dL_law_1791 rfl (lv_at hl 0 rfl) ?_
  refine lv_iconst (v := 3) hx hb dL_law_1792 (by decide) ?_
  refine lv_iadd hx hb dL_law_1793 ?_
  refine va_sld hx hb hXs hbl hbA hS (inK t3 (by omega) (by omega)) dL_law_1794 ?_
  refine W.eq (g2 := F0 m 1795 ls [.int a3, .int a2, .int a1, .ref h1]) (by rw [← ea3]) ?_
  rcases csN4 a2 with hN | hN | rfl | rfl | rfl | rfl
  · have bb1 := i32b a2
    refine behDi (wr := ((uX6 cs (Q 0 0) (fun _ => Q 0 1) (F 1) (A 1) (B 1) (D 1)) ++ ((uX9 cs (Q 0 1) (Q 2) (F 2) (A 2) (B 2) (D 2)) ++ ((uX3 cs (Q 0 2) (Q 3) (F 3) (A 3) (B 3) (D 3)) ++ ((uX5 cs (Q 0 6) (Q 6) (F 6) (A 6) (B 6) (D 6)) ++ ((uX5 cs (Q 0 7) (Q 7) (F 7) (A 7) (B 7) (D 7)) ++ ((uX0 cs (Q 0 8) (Q 8) (F 8) (A 8) (B 8) (D 8)) ++ ((uX1 cs (Q 0 9) (Q 9) (F 9) (A 9) (B 9) (D 9)) ++ ((uX4 cs (Q 0 10) (Q 10) (F 10) (A 10) (B 10) (D 10)) ++ ((uX7 cs (Q 0 20) (Q 12) (F 12) (A 12) (B 12) (D 12)) ++ ((uX7 cs (Q 0 21) (Q 13) (F 13) (A 13) (B 13) (D 13)) ++ ((uX7 cs (Q 0 22) (Q 14) (F 14) (A 14) (B 14) (D 14)) ++ ((uX7 cs (Q 0 23) (Q 15) (F 15) (A 15) (B 15) (D 15)) ++ ((uX8 cs (Q 0 30) (Q 16) (F 16) (A 16) (B 16) (D 16)) ++ ((uX3 cs (Q 16 0) (Q 17) (F 17) (A 17) (B 17) (D 17)) ++ ((uX8 cs (Q 0 31) (Q 18) (F 18) (A 18) (B 18) (D 18)) ++ ((uX3 cs (Q 18 0) (Q 19) (F 19) (A 19) (B 19) (D 19)) ++ ((uX8 cs (Q 0 32) (Q 20) (F 20) (A 20) (B 20) (D 20)) ++ ((uX3 cs (Q 20 0) (Q 21) (F 21) (A 21) (B 21) (D 21)) ++ ((uX5 cs (Q 8 10) (Q 22) (F 22) (A 22) (B 22) (D 22)) ++ ((uX5 cs (Q 8 11) (Q 23) (F 23) (A 23) (B 23) (D 23)) ++ ((uX5 cs (Q 8 12) (Q 24) (F 24) (A 24) (B 24) (D 24)) ++ ((uX5 cs (Q 8 13) (Q 25) (F 25) (A 25) (B 25) (D 25)) ++ ((uX5 cs (Q 8 14) (Q 26) (F 26) (A 26) (B 26) (D 26)) ++ (mS cs h2 q2 MF MA MD MB))))))))))))))))))))))))) (runVD (As := [.int a1, .int a2, .int a3]) (rest := []) ⟨hx, hb, hml, hown, ht⟩ (sX10_lot_lo l G cs h1 (Q 0) (F 0) (A 0) (B 0) (D 0) hX.1 (Q 4) (F 4) (A 4) (B 4) (D 4) hX.2.2.2.2.1 (Q 5) (F 5) (A 5) (B 5) (D 5) hX.2.2.2.2.2.1 (Q 11) (F 11) (A 11) (B 11) (D 11) hX.2.2.2.2.2.2.2.2.2.2.2.1 a1 a2 a3 (by omega)) okV_RL_241 ⟨(Nat.le_of_ble_eq_true rfl), (Nat.le_of_ble_eq_true rfl)⟩ hK hP hD [0, 1, 2, 14, 15, 16, 17, 18, 19, 20, 21, 22, 23, 47] rfl (by decide +kernel) rfl 0 rfl rfl hl.1 rfl (Nat.le_of_ble_eq_true rfl) dL_law_1795 ⟨(Nat.le_of_ble_eq_true rfl), (Nat.le_of_ble_eq_true rfl)⟩) hP hD hS (fun _ h => h) [0, 1, 2, 14, 15, 16, 17, 18, 19, 20, 21, 22, 23, 47] [3, 4, 5, 6, 7, 8, 9, 10, 11, 12, 13, 24, 25, 26, 27, 28, 29, 30, 31, 32, 33, 34, 35, 36, 37, 38, 39, 40, 41, 42, 43, 44, 45, 46, 48, 49, 50, 51, 52, 53, 54, 55, 56, 57, 58, 59, 60, 61, 62, 63, 64, 65, 66, 67, 68, 69, 70, 71, 72, 73, 74, 75, 76, 77, 78, 79, 80, 81, 82, 83, 84, 85, 86, 87, 88, 89, 90, 91, 92, 93, 94, 95, 96, 97, 98, 99, 100, 101, 102, 103, 104, 105, 106, 107, 108, 109, 110, 111, 112, 113, 114, 115, 116, 117, 118, 119, 120] rfl rfl (by decide +kernel) (by decide +kernel) (fun r9 u H locs hu hP hD hS => ?_)
    obtain ⟨r2, rfl⟩ : ∃ z, z = r9 := ⟨_, rfl⟩
    have hr2 := hu
    have hP : va_P G vwCl (LW cs h1 Q h2 q2 F A B D MF MA MD MB) H := hP.sub [107, 108, 109, 0, 1, 2, 3, 4, 5, 6, 7, 8, 9, 10, 110, 111, 112, 113, 114, 115, 116, 117, 118, 119, 11, 12, 13, 14, 15, 16, 17, 18, 19, 20, 21, 22, 23, 24, 25, 26, 27, 28, 29, 30, 31, 32, 33, 120, 34, 35, 36, 37, 38, 39, 40, 41, 42, 43, 44, 45, 46, 47, 48, 49, 50, 51, 52, 53, 54, 55, 56, 57, 58, 59, 60, 61, 62, 63, 64, 65, 66, 67, 68, 69, 70, 71, 72, 73, 74, 75, 76, 77, 78, 79, 80, 81, 82, 83, 84, 85, 86, 87, 88, 89, 90, 91, 92, 93, 94, 95, 96, 97, 98, 99, 100, 101, 102, 103, 104, 105, 106] rfl
    have hD : va_D (fun q : Nat => s.heap.size ≤ q) (LW cs h1 Q h2 q2 F A B D MF MA MD MB) := hD.sub [107, 108, 109, 0, 1, 2, 3, 4, 5, 6, 7, 8, 9, 10, 110, 111, 112, 113, 114, 115, 116, 117, 118, 119, 11, 12, 13, 14, 15, 16, 17, 18, 19, 20, 21, 22, 23, 24, 25, 26, 27, 28, 29, 30, 31, 32, 33, 120, 34, 35, 36, 37, 38, 39, 40, 41, 42, 43, 44, 45, 46, 47, 48, 49, 50, 51, 52, 53, 54, 55, 56, 57, 58, 59, 60, 61, 62, 63, 64, 65, 66, 67, 68, 69, 70, 71, 72, 73, 74, 75, 76, 77, 78, 79, 80, 81, 82, 83, 84, 85, 86, 87, 88, 89, 90, 91, 92, 93, 94, 95, 96, 97, 98, 99, 100, 101, 102, 103, 104, 105, 106] (by decide +kernel) rfl
    refine lv_pop hx hb dL_law_1798 rfl ?_
    refine lv_aload_n hx hb dL_law_1799 rfl (lv_at hl 1 rfl) ?_
    refine lv_aload_n hx hb dL_law_1800 rfl (lv_at hl 3 rfl) ?_
    refine lv_iload_n hx hb dL_law_1801 rfl (lv_at hl 0 rfl) ?_
    refine lv_iconst (v := 1) hx hb dL_law_1802 (by decide) ?_
    refine lv_iadd hx hb dL_law_1803 ?_
    refine va_sld hx hb hXs hbl hbA hS (inK t1 (by omega) (by omega)) dL_law_1804 ?_
    refine W.eq (g2 := F0 m 1805 ls [.int a1, .ref h2]) (by rw [← ea1]) ?_
    refine lv_aload_n hx hb dL_law_1805 rfl (lv_at hl 3 rfl) ?_
    refine lv_iload_n hx hb dL_law_1806 rfl (lv_at hl 0 rfl) ?_
    refine lv_iconst (v := 2) hx hb dL_law_1807 (by decide) ?_
    refine lv_iadd hx hb dL_law_1808 ?_
    refine va_sld hx hb hXs hbl hbA hS (inK t2 (by omega) (by omega)) dL_law_1809 ?_
    refine W.eq (g2 := F0 m 1810 ls [.int a2, .int a1, .ref h2]) (by rw [← ea2]) ?_
    refine lv_aload_n hx hb dL_law_1810 rfl (lv_at hl 3 rfl) ?_
    refine lv_iload_n hx hb dL_law_1811 rfl (lv_at hl 0 rfl) ?_
    refine lv_iconst (v := 3) hx hb dL_law_1812 (by decide) ?_
    refine lv_iadd hx hb dL_law_1813 ?_
    refine va_sld hx hb hXs hbl hbA hS (inK t3 (by omega) (by omega)) dL_law_1814 ?_
    refine W.eq (g2 := F0 m 1815 ls [.int a3, .int a2, .int a1, .ref h2]) (by rw [← ea3]) ?_
    refine behDi (wr := (XLW cs h1 Q F A B D)) (runVD (As := [.int a1, .int a2, .int a3]) (rest := []) ⟨hx, hb, hml, hown, ht⟩ (sX11_lot l G cs h2 q2 MF MA MD MB hM.1 a1 a2 a3) okV_RL_244 ⟨(Nat.le_of_ble_eq_true rfl), (Nat.le_of_ble_eq_true rfl)⟩ hK hP hD [101, 102, 103, 104, 105, 106, 107, 108, 109, 110, 111, 112, 113, 114, 115, 116, 117, 118, 119, 120] rfl (by decide +kernel) rfl 101 rfl rfl hl.1 rfl (Nat.le_of_ble_eq_true rfl) dL_law_1815 ⟨(Nat.le_of_ble_eq_true rfl), (Nat.le_of_ble_eq_true rfl)⟩) hP hD hS (fun _ h => h) [101, 102, 103, 104, 105, 106, 107, 108, 109, 110, 111, 112, 113, 114, 115, 116, 117, 118, 119, 120] [0, 1, 2, 3, 4, 5, 6, 7, 8, 9, 10, 11, 12, 13, 14, 15, 16, 17, 18, 19, 20, 21, 22, 23, 24, 25, 26, 27, 28, 29, 30, 31, 32, 33, 34, 35, 36, 37, 38, 39, 40, 41, 42, 43, 44, 45, 46, 47, 48, 49, 50, 51, 52, 53, 54, 55, 56, 57, 58, 59, 60, 61, 62, 63, 64, 65, 66, 67, 68, 69, 70, 71, 72, 73, 74, 75, 76, 77, 78, 79, 80, 81, 82, 83, 84, 85, 86, 87, 88, 89, 90, 91, 92, 93, 94, 95, 96, 97, 98, 99, 100] rfl rfl (by decide +kernel) (by decide +kernel) (fun r9 u H locs hu hP hD hS => ?_)
    obtain ⟨x4, x5, d6⟩ := u
    obtain ⟨r3, rfl⟩ : ∃ z, z = r9 := ⟨_, rfl⟩
    obtain ⟨hbx4, hbx5, hr3⟩ := hu
    have hbx4 : (-1 : Int) ≤ x4.toInt ∧ x4.toInt ≤ 59 := hbx4
    have hbx5 : (-1 : Int) ≤ x5.toInt ∧ x5.toInt ≤ 6 := hbx5
    have hP : va_P G vwCl (LW cs h1 Q h2 q2 F A B D (upd (upd MF 29 x4) 30 x5) MA d6 MB) H := hP
    have hD : va_D (fun q : Nat => s.heap.size ≤ q) (LW cs h1 Q h2 q2 F A B D (upd (upd MF 29 x4) 30 x5) MA d6 MB) := hD
    refine lv_pop hx hb dL_law_1818 rfl ?_
    refine lv_goto (tgt := 2156) hx hb dL_law_1819 (by decide) ?_
    exact kk F A B D (upd (upd MF 29 x4) 30 x5) MA d6 MB H locs ls ⟨hX.1, hX.2.1, hX.2.2.1, hX.2.2.2.1, hX.2.2.2.2.1, hX.2.2.2.2.2.1, hX.2.2.2.2.2.2.1, hX.2.2.2.2.2.2.2.1, hX.2.2.2.2.2.2.2.2.1, hX.2.2.2.2.2.2.2.2.2.1, hX.2.2.2.2.2.2.2.2.2.2.1, hX.2.2.2.2.2.2.2.2.2.2.2.1, hX.2.2.2.2.2.2.2.2.2.2.2.2.1, hX.2.2.2.2.2.2.2.2.2.2.2.2.2.1, hX.2.2.2.2.2.2.2.2.2.2.2.2.2.2.1, hX.2.2.2.2.2.2.2.2.2.2.2.2.2.2.2.1, hX.2.2.2.2.2.2.2.2.2.2.2.2.2.2.2.2.1, hX.2.2.2.2.2.2.2.2.2.2.2.2.2.2.2.2.2.1, hX.2.2.2.2.2.2.2.2.2.2.2.2.2.2.2.2.2.2.1, hX.2.2.2.2.2.2.2.2.2.2.2.2.2.2.2.2.2.2.2.1, hX.2.2.2.2.2.2.2.2.2.2.2.2.2.2.2.2.2.2.2.2.1, hX.2.2.2.2.2.2.2.2.2.2.2.2.2.2.2.2.2.2.2.2.2.1, hX.2.2.2.2.2.2.2.2.2.2.2.2.2.2.2.2.2.2.2.2.2.2.1, hX.2.2.2.2.2.2.2.2.2.2.2.2.2.2.2.2.2.2.2.2.2.2.2.1, hX.2.2.2.2.2.2.2.2.2.2.2.2.2.2.2.2.2.2.2.2.2.2.2.2.1, hX.2.2.2.2.2.2.2.2.2.2.2.2.2.2.2.2.2.2.2.2.2.2.2.2.2.1, hX.2.2.2.2.2.2.2.2.2.2.2.2.2.2.2.2.2.2.2.2.2.2.2.2.2.2⟩ ⟨(IM_put (k := 30) (IM_put (k := 29) hM.1 (hbx4)) (hbx5)), hM.2.1, hM.2.2⟩ hR hP hD hS hl
  · have bb7 := i32b a2
    refine behDi (wr := ((uX6 cs (Q 0 0) (fun _ => Q 0 1) (F 1) (A 1) (B 1) (D 1)) ++ ((uX9 cs (Q 0 1) (Q 2) (F 2) (A 2) (B 2) (D 2)) ++ ((uX3 cs (Q 0 2) (Q 3) (F 3) (A 3) (B 3) (D 3)) ++ ((uX5 cs (Q 0 6) (Q 6) (F 6) (A 6) (B 6) (D 6)) ++ ((uX5 cs (Q 0 7) (Q 7) (F 7) (A 7) (B 7) (D 7)) ++ ((uX0 cs (Q 0 8) (Q 8) (F 8) (A 8) (B 8) (D 8)) ++ ((uX1 cs (Q 0 9) (Q 9) (F 9) (A 9) (B 9) (D 9)) ++ ((uX4 cs (Q 0 10) (Q 10) (F 10) (A 10) (B 10) (D 10)) ++ ((uX7 cs (Q 0 20) (Q 12) (F 12) (A 12) (B 12) (D 12)) ++ ((uX7 cs (Q 0 21) (Q 13) (F 13) (A 13) (B 13) (D 13)) ++ ((uX7 cs (Q 0 22) (Q 14) (F 14) (A 14) (B 14) (D 14)) ++ ((uX7 cs (Q 0 23) (Q 15) (F 15) (A 15) (B 15) (D 15)) ++ ((uX8 cs (Q 0 30) (Q 16) (F 16) (A 16) (B 16) (D 16)) ++ ((uX3 cs (Q 16 0) (Q 17) (F 17) (A 17) (B 17) (D 17)) ++ ((uX8 cs (Q 0 31) (Q 18) (F 18) (A 18) (B 18) (D 18)) ++ ((uX3 cs (Q 18 0) (Q 19) (F 19) (A 19) (B 19) (D 19)) ++ ((uX8 cs (Q 0 32) (Q 20) (F 20) (A 20) (B 20) (D 20)) ++ ((uX3 cs (Q 20 0) (Q 21) (F 21) (A 21) (B 21) (D 21)) ++ ((uX5 cs (Q 8 10) (Q 22) (F 22) (A 22) (B 22) (D 22)) ++ ((uX5 cs (Q 8 11) (Q 23) (F 23) (A 23) (B 23) (D 23)) ++ ((uX5 cs (Q 8 12) (Q 24) (F 24) (A 24) (B 24) (D 24)) ++ ((uX5 cs (Q 8 13) (Q 25) (F 25) (A 25) (B 25) (D 25)) ++ ((uX5 cs (Q 8 14) (Q 26) (F 26) (A 26) (B 26) (D 26)) ++ (mS cs h2 q2 MF MA MD MB))))))))))))))))))))))))) (runVD (As := [.int a1, .int a2, .int a3]) (rest := []) ⟨hx, hb, hml, hown, ht⟩ (sX10_lot_hi l G cs h1 (Q 0) (F 0) (A 0) (B 0) (D 0) hX.1 (Q 4) (F 4) (A 4) (B 4) (D 4) hX.2.2.2.2.1 (Q 5) (F 5) (A 5) (B 5) (D 5) hX.2.2.2.2.2.1 (Q 11) (F 11) (A 11) (B 11) (D 11) hX.2.2.2.2.2.2.2.2.2.2.2.1 a1 a2 a3 (by omega)) okV_RL_241 ⟨(Nat.le_of_ble_eq_true rfl), (Nat.le_of_ble_eq_true rfl)⟩ hK hP hD [0, 1, 2, 14, 15, 16, 17, 18, 19, 20, 21, 22, 23, 47] rfl (by decide +kernel) rfl 0 rfl rfl hl.1 rfl (Nat.le_of_ble_eq_true rfl) dL_law_1795 ⟨(Nat.le_of_ble_eq_true rfl), (Nat.le_of_ble_eq_true rfl)⟩) hP hD hS (fun _ h => h) [0, 1, 2, 14, 15, 16, 17, 18, 19, 20, 21, 22, 23, 47] [3, 4, 5, 6, 7, 8, 9, 10, 11, 12, 13, 24, 25, 26, 27, 28, 29, 30, 31, 32, 33, 34, 35, 36, 37, 38, 39, 40, 41, 42, 43, 44, 45, 46, 48, 49, 50, 51, 52, 53, 54, 55, 56, 57, 58, 59, 60, 61, 62, 63, 64, 65, 66, 67, 68, 69, 70, 71, 72, 73, 74, 75, 76, 77, 78, 79, 80, 81, 82, 83, 84, 85, 86, 87, 88, 89, 90, 91, 92, 93, 94, 95, 96, 97, 98, 99, 100, 101, 102, 103, 104, 105, 106, 107, 108, 109, 110, 111, 112, 113, 114, 115, 116, 117, 118, 119, 120] rfl rfl (by decide +kernel) (by decide +kernel) (fun r9 u H locs hu hP hD hS => ?_)
    obtain ⟨r8, rfl⟩ : ∃ z, z = r9 := ⟨_, rfl⟩
    have hr8 := hu
    have hP : va_P G vwCl (LW cs h1 Q h2 q2 F A B D MF MA MD MB) H := hP.sub [107, 108, 109, 0, 1, 2, 3, 4, 5, 6, 7, 8, 9, 10, 110, 111, 112, 113, 114, 115, 116, 117, 118, 119, 11, 12, 13, 14, 15, 16, 17, 18, 19, 20, 21, 22, 23, 24, 25, 26, 27, 28, 29, 30, 31, 32, 33, 120, 34, 35, 36, 37, 38, 39, 40, 41, 42, 43, 44, 45, 46, 47, 48, 49, 50, 51, 52, 53, 54, 55, 56, 57, 58, 59, 60, 61, 62, 63, 64, 65, 66, 67, 68, 69, 70, 71, 72, 73, 74, 75, 76, 77, 78, 79, 80, 81, 82, 83, 84, 85, 86, 87, 88, 89, 90, 91, 92, 93, 94, 95, 96, 97, 98, 99, 100, 101, 102, 103, 104, 105, 106] rfl
    have hD : va_D (fun q : Nat => s.heap.size ≤ q) (LW cs h1 Q h2 q2 F A B D MF MA MD MB) := hD.sub [107, 108, 109, 0, 1, 2, 3, 4, 5, 6, 7, 8, 9, 10, 110, 111, 112, 113, 114, 115, 116, 117, 118, 119, 11, 12, 13, 14, 15, 16, 17, 18, 19, 20, 21, 22, 23, 24, 25, 26, 27, 28, 29, 30, 31, 32, 33, 120, 34, 35, 36, 37, 38, 39, 40, 41, 42, 43, 44, 45, 46, 47, 48, 49, 50, 51, 52, 53, 54, 55, 56, 57, 58, 59, 60, 61, 62, 63, 64, 65, 66, 67, 68, 69, 70, 71, 72, 73, 74, 75, 76, 77, 78, 79, 80, 81, 82, 83, 84, 85, 86, 87, 88, 89, 90, 91, 92, 93, 94, 95, 96, 97, 98, 99, 100, 101, 102, 103, 104, 105, 106] (by decide +kernel) rfl
    refine lv_pop hx hb dL_law_1798 rfl ?_
    refine lv_aload_n hx hb dL_law_1799 rfl (lv_at hl 1 rfl) ?_
    refine lv_aload_n hx hb dL_law_1800 rfl (lv_at hl 3 rfl) ?_
    refine lv_iload_n hx hb dL_law_1801 rfl (lv_at hl 0 rfl) ?_
    refine lv_iconst (v := 1) hx hb dL_law_1802 (by decide) ?_
    refine lv_iadd hx hb dL_law_1803 ?_
    refine va_sld hx hb hXs hbl hbA hS (inK t1 (by omega) (by omega)) dL_law_1804 ?_
    refine W.eq (g2 := F0 m 1805 ls [.int a1, .ref h2]) (by rw [← ea1]) ?_
    refine lv_aload_n hx hb dL_law_1805 rfl (lv_at hl 3 rfl) ?_
    refine lv_iload_n hx hb dL_law_1806 rfl (lv_at hl 0 rfl) ?_
    refine lv_iconst (v := 2) hx hb dL_law_1807 (by decide) ?_
    refine lv_iadd hx hb dL_law_1808 ?_
    refine va_sld hx hb hXs hbl hbA hS (inK t2 (by omega) (by omega)) dL_law_1809 ?_
    refine W.eq (g2 := F0 m 1810 ls [.int a2, .int a1, .ref h2]) (by rw [← ea2]) ?_
    refine lv_aload_n hx hb dL_law_1810 rfl (lv_at hl 3 rfl) ?_
    refine lv_iload_n hx hb dL_law_1811 rfl (lv_at hl 0 rfl) ?_
    refine lv_iconst (v := 3) hx hb dL_law_1812 (by decide) ?_
    refine lv_iadd hx hb dL_law_1813 ?_
    refine va_sld hx hb hXs hbl hbA hS (inK t3 (by omega) (by omega)) dL_law_1814 ?_
    refine W.eq (g2 := F0 m 1815 ls [.int a3, .int a2, .int a1, .ref h2]) (by rw [← ea3]) ?_
    refine behDi (wr := (XLW cs h1 Q F A B D)) (runVD (As := [.int a1, .int a2, .int a3]) (rest := []) ⟨hx, hb, hml, hown, ht⟩ (sX11_lot l G cs h2 q2 MF MA MD MB hM.1 a1 a2 a3) okV_RL_244 ⟨(Nat.le_of_ble_eq_true rfl), (Nat.le_of_ble_eq_true rfl)⟩ hK hP hD [101, 102, 103, 104, 105, 106, 107, 108, 109, 110, 111, 112, 113, 114, 115, 116, 117, 118, 119, 120] rfl (by decide +kernel) rfl 101 rfl rfl hl.1 rfl (Nat.le_of_ble_eq_true rfl) dL_law_1815 ⟨(Nat.le_of_ble_eq_true rfl), (Nat.le_of_ble_eq_true rfl)⟩) hP hD hS (fun _ h => h) [101, 102, 103, 104, 105, 106, 107, 108, 109, 110, 111, 112, 113, 114, 115, 116, 117, 118, 119, 120] [0, 1, 2, 3, 4, 5, 6, 7, 8, 9, 10, 11, 12, 13, 14, 15, 16, 17, 18, 19, 20, 21, 22, 23, 24, 25, 26, 27, 28, 29, 30, 31, 32, 33, 34, 35, 36, 37, 38, 39, 40, 41, 42, 43, 44, 45, 46, 47, 48, 49, 50, 51, 52, 53, 54, 55, 56, 57, 58, 59, 60, 61, 62, 63, 64, 65, 66, 67, 68, 69, 70, 71, 72, 73, 74, 75, 76, 77, 78, 79, 80, 81, 82, 83, 84, 85, 86, 87, 88, 89, 90, 91, 92, 93, 94, 95, 96, 97, 98, 99, 100] rfl rfl (by decide +kernel) (by decide +kernel) (fun r9 u H locs hu hP hD hS => ?_)
    obtain ⟨x10, x11, d12⟩ := u
    obtain ⟨r9, rfl⟩ : ∃ z, z = r9 := ⟨_, rfl⟩
    obtain ⟨hbx10, hbx11, hr9⟩ := hu
    have hbx10 : (-1 : Int) ≤ x10.toInt ∧ x10.toInt ≤ 59 := hbx10
    have hbx11 : (-1 : Int) ≤ x11.toInt ∧ x11.toInt ≤ 6 := hbx11
    have hP : va_P G vwCl (LW cs h1 Q h2 q2 F A B D (upd (upd MF 29 x10) 30 x11) MA d12 MB) H := hP
    have hD : va_D (fun q : Nat => s.heap.size ≤ q) (LW cs h1 Q h2 q2 F A B D (upd (upd MF 29 x10) 30 x11) MA d12 MB) := hD
    refine lv_pop hx hb dL_law_1818 rfl ?_
    refine lv_goto (tgt := 2156) hx hb dL_law_1819 (by decide) ?_
    exact kk F A B D (upd (upd MF 29 x10) 30 x11) MA d12 MB H locs ls ⟨hX.1, hX.2.1, hX.2.2.1, hX.2.2.2.1, hX.2.2.2.2.1, hX.2.2.2.2.2.1, hX.2.2.2.2.2.2.1, hX.2.2.2.2.2.2.2.1, hX.2.2.2.2.2.2.2.2.1, hX.2.2.2.2.2.2.2.2.2.1, hX.2.2.2.2.2.2.2.2.2.2.1, hX.2.2.2.2.2.2.2.2.2.2.2.1, hX.2.2.2.2.2.2.2.2.2.2.2.2.1, hX.2.2.2.2.2.2.2.2.2.2.2.2.2.1, hX.2.2.2.2.2.2.2.2.2.2.2.2.2.2.1, hX.2.2.2.2.2.2.2.2.2.2.2.2.2.2.2.1, hX.2.2.2.2.2.2.2.2.2.2.2.2.2.2.2.2.1, hX.2.2.2.2.2.2.2.2.2.2.2.2.2.2.2.2.2.1, hX.2.2.2.2.2.2.2.2.2.2.2.2.2.2.2.2.2.2.1, hX.2.2.2.2.2.2.2.2.2.2.2.2.2.2.2.2.2.2.2.1, hX.2.2.2.2.2.2.2.2.2.2.2.2.2.2.2.2.2.2.2.2.1, hX.2.2.2.2.2.2.2.2.2.2.2.2.2.2.2.2.2.2.2.2.2.1, hX.2.2.2.2.2.2.2.2.2.2.2.2.2.2.2.2.2.2.2.2.2.2.1, hX.2.2.2.2.2.2.2.2.2.2.2.2.2.2.2.2.2.2.2.2.2.2.2.1, hX.2.2.2.2.2.2.2.2.2.2.2.2.2.2.2.2.2.2.2.2.2.2.2.2.1, hX.2.2.2.2.2.2.2.2.2.2.2.2.2.2.2.2.2.2.2.2.2.2.2.2.2.1, hX.2.2.2.2.2.2.2.2.2.2.2.2.2.2.2.2.2.2.2.2.2.2.2.2.2.2⟩ ⟨(IM_put (k := 30) (IM_put (k := 29) hM.1 (hbx10)) (hbx11)), hM.2.1, hM.2.2⟩ hR hP hD hS hl
  · refine behDi (wr := ((uX6 cs (Q 0 0) (fun _ => Q 0 1) (F 1) (A 1) (B 1) (D 1)) ++ ((uX9 cs (Q 0 1) (Q 2) (F 2) (A 2) (B 2) (D 2)) ++ ((uX3 cs (Q 0 2) (Q 3) (F 3) (A 3) (B 3) (D 3)) ++ ((uX5 cs (Q 0 6) (Q 6) (F 6) (A 6) (B 6) (D 6)) ++ ((uX5 cs (Q 0 7) (Q 7) (F 7) (A 7) (B 7) (D 7)) ++ ((uX0 cs (Q 0 8) (Q 8) (F 8) (A 8) (B 8) (D 8)) ++ ((uX1 cs (Q 0 9) (Q 9) (F 9) (A 9) (B 9) (D 9)) ++ ((uX4 cs (Q 0 10) (Q 10) (F 10) (A 10) (B 10) (D 10)) ++ ((uX7 cs (Q 0 21) (Q 13) (F 13) (A 13) (B 13) (D 13)) ++ ((uX7 cs (Q 0 22) (Q 14) (F 14) (A 14) (B 14) (D 14)) ++ ((uX7 cs (Q 0 23) (Q 15) (F 15) (A 15) (B 15) (D 15)) ++ ((uX8 cs (Q 0 30) (Q 16) (F 16) (A 16) (B 16) (D 16)) ++ ((uX3 cs (Q 16 0) (Q 17) (F 17) (A 17) (B 17) (D 17)) ++ ((uX8 cs (Q 0 31) (Q 18) (F 18) (A 18) (B 18) (D 18)) ++ ((uX3 cs (Q 18 0) (Q 19) (F 19) (A 19) (B 19) (D 19)) ++ ((uX8 cs (Q 0 32) (Q 20) (F 20) (A 20) (B 20) (D 20)) ++ ((uX3 cs (Q 20 0) (Q 21) (F 21) (A 21) (B 21) (D 21)) ++ ((uX5 cs (Q 8 10) (Q 22) (F 22) (A 22) (B 22) (D 22)) ++ ((uX5 cs (Q 8 11) (Q 23) (F 23) (A 23) (B 23) (D 23)) ++ ((uX5 cs (Q 8 12) (Q 24) (F 24) (A 24) (B 24) (D 24)) ++ ((uX5 cs (Q 8 13) (Q 25) (F 25) (A 25) (B 25) (D 25)) ++ ((uX5 cs (Q 8 14) (Q 26) (F 26) (A 26) (B 26) (D 26)) ++ (mS cs h2 q2 MF MA MD MB)))))))))))))))))))))))) (runVD (As := [.int a1, .int 0, .int a3]) (rest := []) ⟨hx, hb, hml, hown, ht⟩ (sX10_lot_0 l G cs h1 (Q 0) (F 0) (A 0) (B 0) (D 0) hX.1 (Q 4) (F 4) (A 4) (B 4) (D 4) hX.2.2.2.2.1 (Q 5) (F 5) (A 5) (B 5) (D 5) hX.2.2.2.2.2.1 (Q 11) (F 11) (A 11) (B 11) (D 11) hX.2.2.2.2.2.2.2.2.2.2.2.1 (Q 12) (F 12) (A 12) (B 12) (D 12) hX.2.2.2.2.2.2.2.2.2.2.2.2.1 a1 a3) okV_RL_241 ⟨(Nat.le_of_ble_eq_true rfl), (Nat.le_of_ble_eq_true rfl)⟩ hK hP hD [0, 1, 2, 14, 15, 16, 17, 18, 19, 20, 21, 22, 23, 47, 48, 49] rfl (by decide +kernel) rfl 0 rfl rfl hl.1 rfl (Nat.le_of_ble_eq_true rfl) dL_law_1795 ⟨(Nat.le_of_ble_eq_true rfl), (Nat.le_of_ble_eq_true rfl)⟩) hP hD hS (fun _ h => h) [0, 1, 2, 14, 15, 16, 17, 18, 19, 20, 21, 22, 23, 47, 48, 49] [3, 4, 5, 6, 7, 8, 9, 10, 11, 12, 13, 24, 25, 26, 27, 28, 29, 30, 31, 32, 33, 34, 35, 36, 37, 38, 39, 40, 41, 42, 43, 44, 45, 46, 50, 51, 52, 53, 54, 55, 56, 57, 58, 59, 60, 61, 62, 63, 64, 65, 66, 67, 68, 69, 70, 71, 72, 73, 74, 75, 76, 77, 78, 79, 80, 81, 82, 83, 84, 85, 86, 87, 88, 89, 90, 91, 92, 93, 94, 95, 96, 97, 98, 99, 100, 101, 102, 103, 104, 105, 106, 107, 108, 109, 110, 111, 112, 113, 114, 115, 116, 117, 118, 119, 120] rfl rfl (by decide +kernel) (by decide +kernel) (fun r9 u H locs hu hP hD hS => ?_)
    obtain ⟨x14, x15, d16⟩ := u
    obtain ⟨r13, rfl⟩ : ∃ z, z = r9 := ⟨_, rfl⟩
    obtain ⟨hbx15, hr13⟩ := hu
    have hbx15 : (-1 : Int) ≤ x15.toInt ∧ x15.toInt ≤ 6 := hbx15
    have hP : va_P G vwCl (LW cs h1 Q h2 q2 (vA F 11 (upd (upd (F 11) 1 x14) 2 x15)) A B (va_up D 11 d16) MF MA MD MB) H := hP.sub [105, 106, 107, 0, 1, 2, 3, 4, 5, 6, 7, 8, 9, 10, 108, 109, 110, 111, 112, 113, 114, 115, 116, 117, 11, 12, 13, 14, 15, 16, 17, 18, 19, 20, 21, 22, 23, 24, 25, 26, 27, 28, 29, 30, 31, 32, 33, 118, 119, 120, 34, 35, 36, 37, 38, 39, 40, 41, 42, 43, 44, 45, 46, 47, 48, 49, 50, 51, 52, 53, 54, 55, 56, 57, 58, 59, 60, 61, 62, 63, 64, 65, 66, 67, 68, 69, 70, 71, 72, 73, 74, 75, 76, 77, 78, 79, 80, 81, 82, 83, 84, 85, 86, 87, 88, 89, 90, 91, 92, 93, 94, 95, 96, 97, 98, 99, 100, 101, 102, 103, 104] rfl
    have hD : va_D (fun q : Nat => s.heap.size ≤ q) (LW cs h1 Q h2 q2 (vA F 11 (upd (upd (F 11) 1 x14) 2 x15)) A B (va_up D 11 d16) MF MA MD MB) := hD.sub [105, 106, 107, 0, 1, 2, 3, 4, 5, 6, 7, 8, 9, 10, 108, 109, 110, 111, 112, 113, 114, 115, 116, 117, 11, 12, 13, 14, 15, 16, 17, 18, 19, 20, 21, 22, 23, 24, 25, 26, 27, 28, 29, 30, 31, 32, 33, 118, 119, 120, 34, 35, 36, 37, 38, 39, 40, 41, 42, 43, 44, 45, 46, 47, 48, 49, 50, 51, 52, 53, 54, 55, 56, 57, 58, 59, 60, 61, 62, 63, 64, 65, 66, 67, 68, 69, 70, 71, 72, 73, 74, 75, 76, 77, 78, 79, 80, 81, 82, 83, 84, 85, 86, 87, 88, 89, 90, 91, 92, 93, 94, 95, 96, 97, 98, 99, 100, 101, 102, 103, 104] (by decide +kernel) rfl
    refine lv_pop hx hb dL_law_1798 rfl ?_
    refine lv_aload_n hx hb dL_law_1799 rfl (lv_at hl 1 rfl) ?_
    refine lv_aload_n hx hb dL_law_1800 rfl (lv_at hl 3 rfl) ?_
    refine lv_iload_n hx hb dL_law_1801 rfl (lv_at hl 0 rfl) ?_
    refine lv_iconst (v := 1) hx hb dL_law_1802 (by decide) ?_
    refine lv_iadd hx hb dL_law_1803 ?_
    refine va_sld hx hb hXs hbl hbA hS (inK t1 (by omega) (by omega)) dL_law_1804 ?_
    refine W.eq (g2 := F0 m 1805 ls [.int a1, .ref h2]) (by rw [← ea1]) ?_
    refine lv_aload_n hx hb dL_law_1805 rfl (lv_at hl 3 rfl) ?_
    refine lv_iload_n hx hb dL_law_1806 rfl (lv_at hl 0 rfl) ?_
    refine lv_iconst (v := 2) hx hb dL_law_1807 (by decide) ?_
    refine lv_iadd hx hb dL_law_1808 ?_
    refine va_sld hx hb hXs hbl hbA hS (inK t2 (by omega) (by omega)) dL_law_1809 ?_
    refine W.eq (g2 := F0 m 1810 ls [.int 0, .int a1, .ref h2]) (by rw [← ea2]) ?_
    refine lv_aload_n hx hb dL_law_1810 rfl (lv_at hl 3 rfl) ?_
    refine lv_iload_n hx hb dL_law_1811 rfl (lv_at hl 0 rfl) ?_
    refine lv_iconst (v := 3) hx hb dL_law_1812 (by decide) ?_
    refine lv_iadd hx hb dL_law_1813 ?_
    refine va_sld hx hb hXs hbl hbA hS (inK t3 (by omega) (by omega)) dL_law_1814 ?_
    refine W.eq (g2 := F0 m 1815 ls [.int a3, .int 0, .int a1, .ref h2]) (by rw [← ea3]) ?_
    refine behDi (wr := (XLW cs h1 Q (vA F 11 (upd (upd (F 11) 1 x14) 2 x15)) A B (va_up D 11 d16))) (runVD (As := [.int a1, .int 0, .int a3]) (rest := []) ⟨hx, hb, hml, hown, ht⟩ (sX11_lot l G cs h2 q2 MF MA MD MB hM.1 a1 0 a3) okV_RL_244 ⟨(Nat.le_of_ble_eq_true rfl), (Nat.le_of_ble_eq_true rfl)⟩ hK hP hD [101, 102, 103, 104, 105, 106, 107, 108, 109, 110, 111, 112, 113, 114, 115, 116, 117, 118, 119, 120] rfl (by decide +kernel) rfl 101 rfl rfl hl.1 rfl (Nat.le_of_ble_eq_true rfl) dL_law_1815 ⟨(Nat.le_of_ble_eq_true rfl), (Nat.le_of_ble_eq_true rfl)⟩) hP hD hS (fun _ h => h) [101, 102, 103, 104, 105, 106, 107, 108, 109, 110, 111, 112, 113, 114, 115, 116, 117, 118, 119, 120] [0, 1, 2, 3, 4, 5, 6, 7, 8, 9, 10, 11, 12, 13, 14, 15, 16, 17, 18, 19, 20, 21, 22, 23, 24, 25, 26, 27, 28, 29, 30, 31, 32, 33, 34, 35, 36, 37, 38, 39, 40, 41, 42, 43, 44, 45, 46, 47, 48, 49, 50, 51, 52, 53, 54, 55, 56, 57, 58, 59, 60, 61, 62, 63, 64, 65, 66, 67, 68, 69, 70, 71, 72, 73, 74, 75, 76, 77, 78, 79, 80, 81, 82, 83, 84, 85, 86, 87, 88, 89, 90, 91, 92, 93, 94, 95, 96, 97, 98, 99, 100] rfl rfl (by decide +kernel) (by decide +kernel) (fun r9 u H locs hu hP hD hS => ?_)
    obtain ⟨x18, x19, d20⟩ := u
    obtain ⟨r17, rfl⟩ : ∃ z, z = r9 := ⟨_, rfl⟩
    obtain ⟨hbx18, hbx19, hr17⟩ := hu
    have hbx18 : (-1 : Int) ≤ x18.toInt ∧ x18.toInt ≤ 59 := hbx18
    have hbx19 : (-1 : Int) ≤ x19.toInt ∧ x19.toInt ≤ 6 := hbx19
    have hP : va_P G vwCl (LW cs h1 Q h2 q2 (vA F 11 (upd (upd (F 11) 1 x14) 2 x15)) A B (va_up D 11 d16) (upd (upd MF 29 x18) 30 x19) MA d20 MB) H := hP
    have hD : va_D (fun q : Nat => s.heap.size ≤ q) (LW cs h1 Q h2 q2 (vA F 11 (upd (upd (F 11) 1 x14) 2 x15)) A B (va_up D 11 d16) (upd (upd MF 29 x18) 30 x19) MA d20 MB) := hD
    refine lv_pop hx hb dL_law_1818 rfl ?_
    refine lv_goto (tgt := 2156) hx hb dL_law_1819 (by decide) ?_
    exact kk (vA F 11 (upd (upd (F 11) 1 x14) 2 x15)) A B (va_up D 11 d16) (upd (upd MF 29 x18) 30 x19) MA d20 MB H locs ls ⟨hX.1, hX.2.1, hX.2.2.1, hX.2.2.2.1, hX.2.2.2.2.1, hX.2.2.2.2.2.1, hX.2.2.2.2.2.2.1, hX.2.2.2.2.2.2.2.1, hX.2.2.2.2.2.2.2.2.1, hX.2.2.2.2.2.2.2.2.2.1, hX.2.2.2.2.2.2.2.2.2.2.1, (IB_put (k := 2) (IB_put (k := 1) hX.2.2.2.2.2.2.2.2.2.2.2.1 (i32b _)) (hbx15)), hX.2.2.2.2.2.2.2.2.2.2.2.2.1, hX.2.2.2.2.2.2.2.2.2.2.2.2.2.1, hX.2.2.2.2.2.2.2.2.2.2.2.2.2.2.1, hX.2.2.2.2.2.2.2.2.2.2.2.2.2.2.2.1, hX.2.2.2.2.2.2.2.2.2.2.2.2.2.2.2.2.1, hX.2.2.2.2.2.2.2.2.2.2.2.2.2.2.2.2.2.1, hX.2.2.2.2.2.2.2.2.2.2.2.2.2.2.2.2.2.2.1, hX.2.2.2.2.2.2.2.2.2.2.2.2.2.2.2.2.2.2.2.1, hX.2.2.2.2.2.2.2.2.2.2.2.2.2.2.2.2.2.2.2.2.1, hX.2.2.2.2.2.2.2.2.2.2.2.2.2.2.2.2.2.2.2.2.2.1, hX.2.2.2.2.2.2.2.2.2.2.2.2.2.2.2.2.2.2.2.2.2.2.1, hX.2.2.2.2.2.2.2.2.2.2.2.2.2.2.2.2.2.2.2.2.2.2.2.1, hX.2.2.2.2.2.2.2.2.2.2.2.2.2.2.2.2.2.2.2.2.2.2.2.2.1, hX.2.2.2.2.2.2.2.2.2.2.2.2.2.2.2.2.2.2.2.2.2.2.2.2.2.1, hX.2.2.2.2.2.2.2.2.2.2.2.2.2.2.2.2.2.2.2.2.2.2.2.2.2.2⟩ ⟨(IM_put (k := 30) (IM_put (k := 29) hM.1 (hbx18)) (hbx19)), hM.2.1, hM.2.2⟩ hR hP hD hS hl
  · refine behDi (wr := ((uX6 cs (Q 0 0) (fun _ => Q 0 1) (F 1) (A 1) (B 1) (D 1)) ++ ((uX9 cs (Q 0 1) (Q 2) (F 2) (A 2) (B 2) (D 2)) ++ ((uX3 cs (Q 0 2) (Q 3) (F 3) (A 3) (B 3) (D 3)) ++ ((uX5 cs (Q 0 6) (Q 6) (F 6) (A 6) (B 6) (D 6)) ++ ((uX5 cs (Q 0 7) (Q 7) (F 7) (A 7) (B 7) (D 7)) ++ ((uX0 cs (Q 0 8) (Q 8) (F 8) (A 8) (B 8) (D 8)) ++ ((uX1 cs (Q 0 9) (Q 9) (F 9) (A 9) (B 9) (D 9)) ++ ((uX4 cs (Q 0 10) (Q 10) (F 10) (A 10) (B 10) (D 10)) ++ ((uX7 cs (Q 0 20) (Q 12) (F 12) (A 12) (B 12) (D 12)) ++ ((uX7 cs (Q 0 22) (Q 14) (F 14) (A 14) (B 14) (D 14)) ++ ((uX7 cs (Q 0 23) (Q 15) (F 15) (A 15) (B 15) (D 15)) ++ ((uX8 cs (Q 0 30) (Q 16) (F 16) (A 16) (B 16) (D 16)) ++ ((uX3 cs (Q 16 0) (Q 17) (F 17) (A 17) (B 17) (D 17)) ++ ((uX8 cs (Q 0 31) (Q 18) (F 18) (A 18) (B 18) (D 18)) ++ ((uX3 cs (Q 18 0) (Q 19) (F 19) (A 19) (B 19) (D 19)) ++ ((uX8 cs (Q 0 32) (Q 20) (F 20) (A 20) (B 20) (D 20)) ++ ((uX3 cs (Q 20 0) (Q 21) (F 21) (A 21) (B 21) (D 21)) ++ ((uX5 cs (Q 8 10) (Q 22) (F 22) (A 22) (B 22) (D 22)) ++ ((uX5 cs (Q 8 11) (Q 23) (F 23) (A 23) (B 23) (D 23)) ++ ((uX5 cs (Q 8 12) (Q 24) (F 24) (A 24) (B 24) (D 24)) ++ ((uX5 cs (Q 8 13) (Q 25) (F 25) (A 25) (B 25) (D 25)) ++ ((uX5 cs (Q 8 14) (Q 26) (F 26) (A 26) (B 26) (D 26)) ++ (mS cs h2 q2 MF MA MD MB)))))))))))))))))))))))) (runVD (As := [.int a1, .int 1, .int a3]) (rest := []) ⟨hx, hb, hml, hown, ht⟩ (sX10_lot_1 l G cs h1 (Q 0) (F 0) (A 0) (B 0) (D 0) hX.1 (Q 4) (F 4) (A 4) (B 4) (D 4) hX.2.2.2.2.1 (Q 5) (F 5) (A 5) (B 5) (D 5) hX.2.2.2.2.2.1 (Q 11) (F 11) (A 11) (B 11) (D 11) hX.2.2.2.2.2.2.2.2.2.2.2.1 (Q 13) (F 13) (A 13) (B 13) (D 13) hX.2.2.2.2.2.2.2.2.2.2.2.2.2.1 a1 a3) okV_RL_241 ⟨(Nat.le_of_ble_eq_true rfl), (Nat.le_of_ble_eq_true rfl)⟩ hK hP hD [0, 1, 2, 14, 15, 16, 17, 18, 19, 20, 21, 22, 23, 47, 50, 51] rfl (by decide +kernel) rfl 0 rfl rfl hl.1 rfl (Nat.le_of_ble_eq_true rfl) dL_law_1795 ⟨(Nat.le_of_ble_eq_true rfl), (Nat.le_of_ble_eq_true rfl)⟩) hP hD hS (fun _ h => h) [0, 1, 2, 14, 15, 16, 17, 18, 19, 20, 21, 22, 23, 47, 50, 51] [3, 4, 5, 6, 7, 8, 9, 10, 11, 12, 13, 24, 25, 26, 27, 28, 29, 30, 31, 32, 33, 34, 35, 36, 37, 38, 39, 40, 41, 42, 43, 44, 45, 46, 48, 49, 52, 53, 54, 55, 56, 57, 58, 59, 60, 61, 62, 63, 64, 65, 66, 67, 68, 69, 70, 71, 72, 73, 74, 75, 76, 77, 78, 79, 80, 81, 82, 83, 84, 85, 86, 87, 88, 89, 90, 91, 92, 93, 94, 95, 96, 97, 98, 99, 100, 101, 102, 103, 104, 105, 106, 107, 108, 109, 110, 111, 112, 113, 114, 115, 116, 117, 118, 119, 120] rfl rfl (by decide +kernel) (by decide +kernel) (fun r9 u H locs hu hP hD hS => ?_)
    obtain ⟨x22, x23, d24⟩ := u
    obtain ⟨r21, rfl⟩ : ∃ z, z = r9 := ⟨_, rfl⟩
    obtain ⟨hbx23, hr21⟩ := hu
    have hbx23 : (-1 : Int) ≤ x23.toInt ∧ x23.toInt ≤ 6 := hbx23
    have hP : va_P G vwCl (LW cs h1 Q h2 q2 (vA F 11 (upd (upd (F 11) 1 x22) 2 x23)) A B (va_up D 11 d24) MF MA MD MB) H := hP.sub [105, 106, 107, 0, 1, 2, 3, 4, 5, 6, 7, 8, 9, 10, 108, 109, 110, 111, 112, 113, 114, 115, 116, 117, 11, 12, 13, 14, 15, 16, 17, 18, 19, 20, 21, 22, 23, 24, 25, 26, 27, 28, 29, 30, 31, 32, 33, 118, 34, 35, 119, 120, 36, 37, 38, 39, 40, 41, 42, 43, 44, 45, 46, 47, 48, 49, 50, 51, 52, 53, 54, 55, 56, 57, 58, 59, 60, 61, 62, 63, 64, 65, 66, 67, 68, 69, 70, 71, 72, 73, 74, 75, 76, 77, 78, 79, 80, 81, 82, 83, 84, 85, 86, 87, 88, 89, 90, 91, 92, 93, 94, 95, 96, 97, 98, 99, 100, 101, 102, 103, 104] rfl
    have hD : va_D (fun q : Nat => s.heap.size ≤ q) (LW cs h1 Q h2 q2 (vA F 11 (upd (upd (F 11) 1 x22) 2 x23)) A B (va_up D 11 d24) MF MA MD MB) := hD.sub [105, 106, 107, 0, 1, 2, 3, 4, 5, 6, 7, 8, 9, 10, 108, 109, 110, 111, 112, 113, 114, 115, 116, 117, 11, 12, 13, 14, 15, 16, 17, 18, 19, 20, 21, 22, 23, 24, 25, 26, 27, 28, 29, 30, 31, 32, 33, 118, 34, 35, 119, 120, 36, 37, 38, 39, 40, 41, 42, 43, 44, 45, 46, 47, 48, 49, 50, 51, 52, 53, 54, 55, 56, 57, 58, 59, 60, 61, 62, 63, 64, 65, 66, 67, 68, 69, 70, 71, 72, 73, 74, 75, 76, 77, 78, 79, 80, 81, 82, 83, 84, 85, 86, 87, 88, 89, 90, 91, 92, 93, 94, 95, 96, 97, 98, 99, 100, 101, 102, 103, 104] (by decide +kernel) rfl
    refine lv_pop hx hb dL_law_1798 rfl ?_
    refine lv_aload_n hx hb dL_law_1799 rfl (lv_at hl 1 rfl) ?_
    refine lv_aload_n hx hb dL_law_1800 rfl (lv_at hl 3 rfl) ?_
    refine lv_iload_n hx hb dL_law_1801 rfl (lv_at hl 0 rfl) ?_
    refine lv_iconst (v := 1) hx hb dL_law_1802 (by decide) ?_
    refine lv_iadd hx hb dL_law_1803 ?_
    refine va_sld hx hb hXs hbl hbA hS (inK t1 (by omega) (by omega)) dL_law_1804 ?_
    refine W.eq (g2 := F0 m 1805 ls [.int a1, .ref h2]) (by rw [← ea1]) ?_
    refine lv_aload_n hx hb dL_law_1805 rfl (lv_at hl 3 rfl) ?_
    refine lv_iload_n hx hb dL_law_1806 rfl (lv_at hl 0 rfl) ?_
    refine lv_iconst (v := 2) hx hb dL_law_1807 (by decide) ?_
    refine lv_iadd hx hb dL_law_1808 ?_
    refine va_sld hx hb hXs hbl hbA hS (inK t2 (by omega) (by omega)) dL_law_1809 ?_
    refine W.eq (g2 := F0 m 1810 ls [.int 1, .int a1, .ref h2]) (by rw [← ea2]) ?_
    refine lv_aload_n hx hb dL_law_1810 rfl (lv_at hl 3 rfl) ?_
    refine lv_iload_n hx hb dL_law_1811 rfl (lv_at hl 0 rfl) ?_
    refine lv_iconst (v := 3) hx hb dL_law_1812 (by decide) ?_
    refine lv_iadd hx hb dL_law_1813 ?_
    refine va_sld hx hb hXs hbl hbA hS (inK t3 (by omega) (by omega)) dL_law_1814 ?_
    refine W.eq (g2 := F0 m 1815 ls [.int a3, .int 1, .int a1, .ref h2]) (by rw [← ea3]) ?_
    refine behDi (wr := (XLW cs h1 Q (vA F 11 (upd (upd (F 11) 1 x22) 2 x23)) A B (va_up D 11 d24))) (runVD (As := [.int a1, .int 1, .int a3]) (rest := []) ⟨hx, hb, hml, hown, ht⟩ (sX11_lot l G cs h2 q2 MF MA MD MB hM.1 a1 1 a3) okV_RL_244 ⟨(Nat.le_of_ble_eq_true rfl), (Nat.le_of_ble_eq_true rfl)⟩ hK hP hD [101, 102, 103, 104, 105, 106, 107, 108, 109, 110, 111, 112, 113, 114, 115, 116, 117, 118, 119, 120] rfl (by decide +kernel) rfl 101 rfl rfl hl.1 rfl (Nat.le_of_ble_eq_true rfl) dL_law_1815 ⟨(Nat.le_of_ble_eq_true rfl), (Nat.le_of_ble_eq_true rfl)⟩) hP hD hS (fun _ h => h) [101, 102, 103, 104, 105, 106, 107, 108, 109, 110, 111, 112, 113, 114, 115, 116, 117, 118, 119, 120] [0, 1, 2, 3, 4, 5, 6, 7, 8, 9, 10, 11, 12, 13, 14, 15, 16, 17, 18, 19, 20, 21, 22, 23, 24, 25, 26, 27, 28, 29, 30, 31, 32, 33, 34, 35, 36, 37, 38, 39, 40, 41, 42, 43, 44, 45, 46, 47, 48, 49, 50, 51, 52, 53, 54, 55, 56, 57, 58, 59, 60, 61, 62, 63, 64, 65, 66, 67, 68, 69, 70, 71, 72, 73, 74, 75, 76, 77, 78, 79, 80, 81, 82, 83, 84, 85, 86, 87, 88, 89, 90, 91, 92, 93, 94, 95, 96, 97, 98, 99, 100] rfl rfl (by decide +kernel) (by decide +kernel) (fun r9 u H locs hu hP hD hS => ?_)
    obtain ⟨x26, x27, d28⟩ := u
    obtain ⟨r25, rfl⟩ : ∃ z, z = r9 := ⟨_, rfl⟩
    obtain ⟨hbx26, hbx27, hr25⟩ := hu
    have hbx26 : (-1 : Int) ≤ x26.toInt ∧ x26.toInt ≤ 59 := hbx26
    have hbx27 : (-1 : Int) ≤ x27.toInt ∧ x27.toInt ≤ 6 := hbx27
    have hP : va_P G vwCl (LW cs h1 Q h2 q2 (vA F 11 (upd (upd (F 11) 1 x22) 2 x23)) A B (va_up D 11 d24) (upd (upd MF 29 x26) 30 x27) MA d28 MB) H := hP
    have hD : va_D (fun q : Nat => s.heap.size ≤ q) (LW cs h1 Q h2 q2 (vA F 11 (upd (upd (F 11) 1 x22) 2 x23)) A B (va_up D 11 d24) (upd (upd MF 29 x26) 30 x27) MA d28 MB) := hD
    refine lv_pop hx hb dL_law_1818 rfl ?_
    refine lv_goto (tgt := 2156) hx hb dL_law_1819 (by decide) ?_
    exact kk (vA F 11 (upd (upd (F 11) 1 x22) 2 x23)) A B (va_up D 11 d24) (upd (upd MF 29 x26) 30 x27) MA d28 MB H locs ls ⟨hX.1, hX.2.1, hX.2.2.1, hX.2.2.2.1, hX.2.2.2.2.1, hX.2.2.2.2.2.1, hX.2.2.2.2.2.2.1, hX.2.2.2.2.2.2.2.1, hX.2.2.2.2.2.2.2.2.1, hX.2.2.2.2.2.2.2.2.2.1, hX.2.2.2.2.2.2.2.2.2.2.1, (IB_put (k := 2) (IB_put (k := 1) hX.2.2.2.2.2.2.2.2.2.2.2.1 (i32b _)) (hbx23)), hX.2.2.2.2.2.2.2.2.2.2.2.2.1, hX.2.2.2.2.2.2.2.2.2.2.2.2.2.1, hX.2.2.2.2.2.2.2.2.2.2.2.2.2.2.1, hX.2.2.2.2.2.2.2.2.2.2.2.2.2.2.2.1, hX.2.2.2.2.2.2.2.2.2.2.2.2.2.2.2.2.1, hX.2.2.2.2.2.2.2.2.2.2.2.2.2.2.2.2.2.1, hX.2.2.2.2.2.2.2.2.2.2.2.2.2.2.2.2.2.2.1, hX.2.2.2.2.2.2.2.2.2.2.2.2.2.2.2.2.2.2.2.1, hX.2.2.2.2.2.2.2.2.2.2.2.2.2.2.2.2.2.2.2.2.1, hX.2.2.2.2.2.2.2.2.2.2.2.2.2.2.2.2.2.2.2.2.2.1, hX.2.2.2.2.2.2.2.2.2.2.2.2.2.2.2.2.2.2.2.2.2.2.1, hX.2.2.2.2.2.2.2.2.2.2.2.2.2.2.2.2.2.2.2.2.2.2.2.1, hX.2.2.2.2.2.2.2.2.2.2.2.2.2.2.2.2.2.2.2.2.2.2.2.2.1, hX.2.2.2.2.2.2.2.2.2.2.2.2.2.2.2.2.2.2.2.2.2.2.2.2.2.1, hX.2.2.2.2.2.2.2.2.2.2.2.2.2.2.2.2.2.2.2.2.2.2.2.2.2.2⟩ ⟨(IM_put (k := 30) (IM_put (k := 29) hM.1 (hbx26)) (hbx27)), hM.2.1, hM.2.2⟩ hR hP hD hS hl
  · refine behDi (wr := ((uX6 cs (Q 0 0) (fun _ => Q 0 1) (F 1) (A 1) (B 1) (D 1)) ++ ((uX9 cs (Q 0 1) (Q 2) (F 2) (A 2) (B 2) (D 2)) ++ ((uX3 cs (Q 0 2) (Q 3) (F 3) (A 3) (B 3) (D 3)) ++ ((uX5 cs (Q 0 6) (Q 6) (F 6) (A 6) (B 6) (D 6)) ++ ((uX5 cs (Q 0 7) (Q 7) (F 7) (A 7) (B 7) (D 7)) ++ ((uX0 cs (Q 0 8) (Q 8) (F 8) (A 8) (B 8) (D 8)) ++ ((uX1 cs (Q 0 9) (Q 9) (F 9) (A 9) (B 9) (D 9)) ++ ((uX4 cs (Q 0 10) (Q 10) (F 10) (A 10) (B 10) (D 10)) ++ ((uX7 cs (Q 0 20) (Q 12) (F 12) (A 12) (B 12) (D 12)) ++ ((uX7 cs (Q 0 21) (Q 13) (F 13) (A 13) (B 13) (D 13)) ++ ((uX7 cs (Q 0 23) (Q 15) (F 15) (A 15) (B 15) (D 15)) ++ ((uX8 cs (Q 0 30) (Q 16) (F 16) (A 16) (B 16) (D 16)) ++ ((uX3 cs (Q 16 0) (Q 17) (F 17) (A 17) (B 17) (D 17)) ++ ((uX8 cs (Q 0 31) (Q 18) (F 18) (A 18) (B 18) (D 18)) ++ ((uX3 cs (Q 18 0) (Q 19) (F 19) (A 19) (B 19) (D 19)) ++ ((uX8 cs (Q 0 32) (Q 20) (F 20) (A 20) (B 20) (D 20)) ++ ((uX3 cs (Q 20 0) (Q 21) (F 21) (A 21) (B 21) (D 21)) ++ ((uX5 cs (Q 8 10) (Q 22) (F 22) (A 22) (B 22) (D 22)) ++ ((uX5 cs (Q 8 11) (Q 23) (F 23) (A 23) (B 23) (D 23)) ++ ((uX5 cs (Q 8 12) (Q 24) (F 24) (A 24) (B 24) (D 24)) ++ ((uX5 cs (Q 8 13) (Q 25) (F 25) (A 25) (B 25) (D 25)) ++ ((uX5 cs (Q 8 14) (Q 26) (F 26) (A 26) (B 26) (D 26)) ++ (mS cs h2 q2 MF MA MD MB)))))))))))))))))))))))) (runVD (As := [.int a1, .int 2, .int a3]) (rest := []) ⟨hx, hb, hml, hown, ht⟩ (sX10_lot_2 l G cs h1 (Q 0) (F 0) (A 0) (B 0) (D 0) hX.1 (Q 4) (F 4) (A 4) (B 4) (D 4) hX.2.2.2.2.1 (Q 5) (F 5) (A 5) (B 5) (D 5) hX.2.2.2.2.2.1 (Q 11) (F 11) (A 11) (B 11) (D 11) hX.2.2.2.2.2.2.2.2.2.2.2.1 (Q 14) (F 14) (A 14) (B 14) (D 14) hX.2.2.2.2.2.2.2.2.2.2.2.2.2.2.1 a1 a3) okV_RL_241 ⟨(Nat.le_of_ble_eq_true rfl), (Nat.le_of_ble_eq_true rfl)⟩ hK hP hD [0, 1, 2, 14, 15, 16, 17, 18, 19, 20, 21, 22, 23, 47, 52, 53] rfl (by decide +kernel) rfl 0 rfl rfl hl.1 rfl (Nat.le_of_ble_eq_true rfl) dL_law_1795 ⟨(Nat.le_of_ble_eq_true rfl), (Nat.le_of_ble_eq_true rfl)⟩) hP hD hS (fun _ h => h) [0, 1, 2, 14, 15, 16, 17, 18, 19, 20, 21, 22, 23, 47, 52, 53] [3, 4, 5, 6, 7, 8, 9, 10, 11, 12, 13, 24, 25, 26, 27, 28, 29, 30, 31, 32, 33, 34, 35, 36, 37, 38, 39, 40, 41, 42, 43, 44, 45, 46, 48, 49, 50, 51, 54, 55, 56, 57, 58, 59, 60, 61, 62, 63, 64, 65, 66, 67, 68, 69, 70, 71, 72, 73, 74, 75, 76, 77, 78, 79, 80, 81, 82, 83, 84, 85, 86, 87, 88, 89, 90, 91, 92, 93, 94, 95, 96, 97, 98, 99, 100, 101, 102, 103, 104, 105, 106, 107, 108, 109, 110, 111, 112, 113, 114, 115, 116, 117, 118, 119, 120] rfl rfl (by decide +kernel) (by decide +kernel) (fun r9 u H locs hu hP hD hS => ?_)
    obtain ⟨x30, x31, d32⟩ := u
    obtain ⟨r29, rfl⟩ : ∃ z, z = r9 := ⟨_, rfl⟩
    obtain ⟨hbx31, hr29⟩ := hu
    have hbx31 : (-1 : Int) ≤ x31.toInt ∧ x31.toInt ≤ 6 := hbx31
    have hP : va_P G vwCl (LW cs h1 Q h2 q2 (vA F 11 (upd (upd (F 11) 1 x30) 2 x31)) A B (va_up D 11 d32) MF MA MD MB) H := hP.sub [105, 106, 107, 0, 1, 2, 3, 4, 5, 6, 7, 8, 9, 10, 108, 109, 110, 111, 112, 113, 114, 115, 116, 117, 11, 12, 13, 14, 15, 16, 17, 18, 19, 20, 21, 22, 23, 24, 25, 26, 27, 28, 29, 30, 31, 32, 33, 118, 34, 35, 36, 37, 119, 120, 38, 39, 40, 41, 42, 43, 44, 45, 46, 47, 48, 49, 50, 51, 52, 53, 54, 55, 56, 57, 58, 59, 60, 61, 62, 63, 64, 65, 66, 67, 68, 69, 70, 71, 72, 73, 74, 75, 76, 77, 78, 79, 80, 81, 82, 83, 84, 85, 86, 87, 88, 89, 90, 91, 92, 93, 94, 95, 96, 97, 98, 99, 100, 101, 102, 103, 104] rfl
    have hD : va_D (fun q : Nat => s.heap.size ≤ q) (LW cs h1 Q h2 q2 (vA F 11 (upd (upd (F 11) 1 x30) 2 x31)) A B (va_up D 11 d32) MF MA MD MB) := hD.sub [105, 106, 107, 0, 1, 2, 3, 4, 5, 6, 7, 8, 9, 10, 108, 109, 110, 111, 112, 113, 114, 115, 116, 117, 11, 12, 13, 14, 15, 16, 17, 18, 19, 20, 21, 22, 23, 24, 25, 26, 27, 28, 29, 30, 31, 32, 33, 118, 34, 35, 36, 37, 119, 120, 38, 39, 40, 41, 42, 43, 44, 45, 46, 47, 48, 49, 50, 51, 52, 53, 54, 55, 56, 57, 58, 59, 60, 61, 62, 63, 64, 65, 66, 67, 68, 69, 70, 71, 72, 73, 74, 75, 76, 77, 78, 79, 80, 81, 82, 83, 84, 85, 86, 87, 88, 89, 90, 91, 92, 93, 94, 95, 96, 97, 98, 99, 100, 101, 102, 103, 104] (by decide +kernel) rfl
    refine lv_pop hx hb dL_law_1798 rfl ?_
    refine lv_aload_n hx hb dL_law_1799 rfl (lv_at hl 1 rfl) ?_
    refine lv_aload_n hx hb dL_law_1800 rfl (lv_at hl 3 rfl) ?_
    refine lv_iload_n hx hb dL_law_1801 rfl (lv_at hl 0 rfl) ?_
    refine lv_iconst (v := 1) hx hb dL_law_1802 (by decide) ?_
    refine lv_iadd hx hb dL_law_1803 ?_
    refine va_sld hx hb hXs hbl hbA hS (inK t1 (by omega) (by omega)) dL_law_1804 ?_
    refine W.eq (g2 := F0 m 1805 ls [.int a1, .ref h2]) (by rw [← ea1]) ?_
    refine lv_aload_n hx hb dL_law_1805 rfl (lv_at hl 3 rfl) ?_
    refine lv_iload_n hx hb dL_law_1806 rfl (lv_at hl 0 rfl) ?_
    refine lv_iconst (v := 2) hx hb dL_law_1807 (by decide) ?_
    refine lv_iadd hx hb dL_law_1808 ?_
    refine va_sld hx hb hXs hbl hbA hS (inK t2 (by omega) (by omega)) dL_law_1809 ?_
    refine W.eq (g2 := F0 m 1810 ls [.int 2, .int a1, .ref h2]) (by rw [← ea2]) ?_
    refine lv_aload_n hx hb dL_law_1810 rfl (lv_at hl 3 rfl) ?_
    refine lv_iload_n hx hb dL_law_1811 rfl (lv_at hl 0 rfl) ?_
    refine lv_iconst (v := 3) hx hb dL_law_1812 (by decide) ?_
    refine lv_iadd hx hb dL_law_1813 ?_
    refine va_sld hx hb hXs hbl hbA hS (inK t3 (by omega) (by omega)) dL_law_1814 ?_
    refine W.eq (g2 := F0 m 1815 ls [.int a3, .int 2, .int a1, .ref h2]) (by rw [← ea3]) ?_
    refine behDi (wr := (XLW cs h1 Q (vA F 11 (upd (upd (F 11) 1 x30) 2 x31)) A B (va_up D 11 d32))) (runVD (As := [.int a1, .int 2, .int a3]) (rest := []) ⟨hx, hb, hml, hown, ht⟩ (sX11_lot l G cs h2 q2 MF MA MD MB hM.1 a1 2 a3) okV_RL_244 ⟨(Nat.le_of_ble_eq_true rfl), (Nat.le_of_ble_eq_true rfl)⟩ hK hP hD [101, 102, 103, 104, 105, 106, 107, 108, 109, 110, 111, 112, 113, 114, 115, 116, 117, 118, 119, 120] rfl (by decide +kernel) rfl 101 rfl rfl hl.1 rfl (Nat.le_of_ble_eq_true rfl) dL_law_1815 ⟨(Nat.le_of_ble_eq_true rfl), (Nat.le_of_ble_eq_true rfl)⟩) hP hD hS (fun _ h => h) [101, 102, 103, 104, 105, 106, 107, 108, 109, 110, 111, 112, 113, 114, 115, 116, 117, 118, 119, 120] [0, 1, 2, 3, 4, 5, 6, 7, 8, 9, 10, 11, 12, 13, 14, 15, 16, 17, 18, 19, 20, 21, 22, 23, 24, 25, 26, 27, 28, 29, 30, 31, 32, 33, 34, 35, 36, 37, 38, 39, 40, 41, 42, 43, 44, 45, 46, 47, 48, 49, 50, 51, 52, 53, 54, 55, 56, 57, 58, 59, 60, 61, 62, 63, 64, 65, 66, 67, 68, 69, 70, 71, 72, 73, 74, 75, 76, 77, 78, 79, 80, 81, 82, 83, 84, 85, 86, 87, 88, 89, 90, 91, 92, 93, 94, 95, 96, 97, 98, 99, 100] rfl rfl (by decide +kernel) (by decide +kernel) (fun r9 u H locs hu hP hD hS => ?_)
    obtain ⟨x34, x35, d36⟩ := u
    obtain ⟨r33, rfl⟩ : ∃ z, z = r9 := ⟨_, rfl⟩
    obtain ⟨hbx34, hbx35, hr33⟩ := hu
    have hbx34 : (-1 : Int) ≤ x34.toInt ∧ x34.toInt ≤ 59 := hbx34
    have hbx35 : (-1 : Int) ≤ x35.toInt ∧ x35.toInt ≤ 6 := hbx35
    have hP : va_P G vwCl (LW cs h1 Q h2 q2 (vA F 11 (upd (upd (F 11) 1 x30) 2 x31)) A B (va_up D 11 d32) (upd (upd MF 29 x34) 30 x35) MA d36 MB) H := hP
    have hD : va_D (fun q : Nat => s.heap.size ≤ q) (LW cs h1 Q h2 q2 (vA F 11 (upd (upd (F 11) 1 x30) 2 x31)) A B (va_up D 11 d32) (upd (upd MF 29 x34) 30 x35) MA d36 MB) := hD
    refine lv_pop hx hb dL_law_1818 rfl ?_
    refine lv_goto (tgt := 2156) hx hb dL_law_1819 (by decide) ?_
    exact kk (vA F 11 (upd (upd (F 11) 1 x30) 2 x31)) A B (va_up D 11 d32) (upd (upd MF 29 x34) 30 x35) MA d36 MB H locs ls ⟨hX.1, hX.2.1, hX.2.2.1, hX.2.2.2.1, hX.2.2.2.2.1, hX.2.2.2.2.2.1, hX.2.2.2.2.2.2.1, hX.2.2.2.2.2.2.2.1, hX.2.2.2.2.2.2.2.2.1, hX.2.2.2.2.2.2.2.2.2.1, hX.2.2.2.2.2.2.2.2.2.2.1, (IB_put (k := 2) (IB_put (k := 1) hX.2.2.2.2.2.2.2.2.2.2.2.1 (i32b _)) (hbx31)), hX.2.2.2.2.2.2.2.2.2.2.2.2.1, hX.2.2.2.2.2.2.2.2.2.2.2.2.2.1, hX.2.2.2.2.2.2.2.2.2.2.2.2.2.2.1, hX.2.2.2.2.2.2.2.2.2.2.2.2.2.2.2.1, hX.2.2.2.2.2.2.2.2.2.2.2.2.2.2.2.2.1, hX.2.2.2.2.2.2.2.2.2.2.2.2.2.2.2.2.2.1, hX.2.2.2.2.2.2.2.2.2.2.2.2.2.2.2.2.2.2.1, hX.2.2.2.2.2.2.2.2.2.2.2.2.2.2.2.2.2.2.2.1, hX.2.2.2.2.2.2.2.2.2.2.2.2.2.2.2.2.2.2.2.2.1, hX.2.2.2.2.2.2.2.2.2.2.2.2.2.2.2.2.2.2.2.2.2.1, hX.2.2.2.2.2.2.2.2.2.2.2.2.2.2.2.2.2.2.2.2.2.2.1, hX.2.2.2.2.2.2.2.2.2.2.2.2.2.2.2.2.2.2.2.2.2.2.2.1, hX.2.2.2.2.2.2.2.2.2.2.2.2.2.2.2.2.2.2.2.2.2.2.2.2.1, hX.2.2.2.2.2.2.2.2.2.2.2.2.2.2.2.2.2.2.2.2.2.2.2.2.2.1, hX.2.2.2.2.2.2.2.2.2.2.2.2.2.2.2.2.2.2.2.2.2.2.2.2.2.2⟩ ⟨(IM_put (k := 30) (IM_put (k := 29) hM.1 (hbx34)) (hbx35)), hM.2.1, hM.2.2⟩ hR hP hD hS hl
  · refine behDi (wr := ((uX6 cs (Q 0 0) (fun _ => Q 0 1) (F 1) (A 1) (B 1) (D 1)) ++ ((uX9 cs (Q 0 1) (Q 2) (F 2) (A 2) (B 2) (D 2)) ++ ((uX3 cs (Q 0 2) (Q 3) (F 3) (A 3) (B 3) (D 3)) ++ ((uX5 cs (Q 0 6) (Q 6) (F 6) (A 6) (B 6) (D 6)) ++ ((uX5 cs (Q 0 7) (Q 7) (F 7) (A 7) (B 7) (D 7)) ++ ((uX0 cs (Q 0 8) (Q 8) (F 8) (A 8) (B 8) (D 8)) ++ ((uX1 cs (Q 0 9) (Q 9) (F 9) (A 9) (B 9) (D 9)) ++ ((uX4 cs (Q 0 10) (Q 10) (F 10) (A 10) (B 10) (D 10)) ++ ((uX7 cs (Q 0 20) (Q 12) (F 12) (A 12) (B 12) (D 12)) ++ ((uX7 cs (Q 0 21) (Q 13) (F 13) (A 13) (B 13) (D 13)) ++ ((uX7 cs (Q 0 22) (Q 14) (F 14) (A 14) (B 14) (D 14)) ++ ((uX8 cs (Q 0 30) (Q 16) (F 16) (A 16) (B 16) (D 16)) ++ ((uX3 cs (Q 16 0) (Q 17) (F 17) (A 17) (B 17) (D 17)) ++ ((uX8 cs (Q 0 31) (Q 18) (F 18) (A 18) (B 18) (D 18)) ++ ((uX3 cs (Q 18 0) (Q 19) (F 19) (A 19) (B 19) (D 19)) ++ ((uX8 cs (Q 0 32) (Q 20) (F 20) (A 20) (B 20) (D 20)) ++ ((uX3 cs (Q 20 0) (Q 21) (F 21) (A 21) (B 21) (D 21)) ++ ((uX5 cs (Q 8 10) (Q 22) (F 22) (A 22) (B 22) (D 22)) ++ ((uX5 cs (Q 8 11) (Q 23) (F 23) (A 23) (B 23) (D 23)) ++ ((uX5 cs (Q 8 12) (Q 24) (F 24) (A 24) (B 24) (D 24)) ++ ((uX5 cs (Q 8 13) (Q 25) (F 25) (A 25) (B 25) (D 25)) ++ ((uX5 cs (Q 8 14) (Q 26) (F 26) (A 26) (B 26) (D 26)) ++ (mS cs h2 q2 MF MA MD MB)))))))))))))))))))))))) (runVD (As := [.int a1, .int 3, .int a3]) (rest := []) ⟨hx, hb, hml, hown, ht⟩ (sX10_lot_3 l G cs h1 (Q 0) (F 0) (A 0) (B 0) (D 0) hX.1 (Q 4) (F 4) (A 4) (B 4) (D 4) hX.2.2.2.2.1 (Q 5) (F 5) (A 5) (B 5) (D 5) hX.2.2.2.2.2.1 (Q 11) (F 11) (A 11) (B 11) (D 11) hX.2.2.2.2.2.2.2.2.2.2.2.1 (Q 15) (F 15) (A 15) (B 15) (D 15) hX.2.2.2.2.2.2.2.2.2.2.2.2.2.2.2.1 a1 a3) okV_RL_241 ⟨(Nat.le_of_ble_eq_true rfl), (Nat.le_of_ble_eq_true rfl)⟩ hK hP hD [0, 1, 2, 14, 15, 16, 17, 18, 19, 20, 21, 22, 23, 47, 54, 55] rfl (by decide +kernel) rfl 0 rfl rfl hl.1 rfl (Nat.le_of_ble_eq_true rfl) dL_law_1795 ⟨(Nat.le_of_ble_eq_true rfl), (Nat.le_of_ble_eq_true rfl)⟩) hP hD hS (fun _ h => h) [0, 1, 2, 14, 15, 16, 17, 18, 19, 20, 21, 22, 23, 47, 54, 55] [3, 4, 5, 6, 7, 8, 9, 10, 11, 12, 13, 24, 25, 26, 27, 28, 29, 30, 31, 32, 33, 34, 35, 36, 37, 38, 39, 40, 41, 42, 43, 44, 45, 46, 48, 49, 50, 51, 52, 53, 56, 57, 58, 59, 60, 61, 62, 63, 64, 65, 66, 67, 68, 69, 70, 71, 72, 73, 74, 75, 76, 77, 78, 79, 80, 81, 82, 83, 84, 85, 86, 87, 88, 89, 90, 91, 92, 93, 94, 95, 96, 97, 98, 99, 100, 101, 102, 103, 104, 105, 106, 107, 108, 109, 110, 111, 112, 113, 114, 115, 116, 117, 118, 119, 120] rfl rfl (by decide +kernel) (by decide +kernel) (fun r9 u H locs hu hP hD hS => ?_)
    obtain ⟨x38, x39, d40⟩ := u
    obtain ⟨r37, rfl⟩ : ∃ z, z = r9 := ⟨_, rfl⟩
    obtain ⟨hbx39, hr37⟩ := hu
    have hbx39 : (-1 : Int) ≤ x39.toInt ∧ x39.toInt ≤ 6 := hbx39
    have hP : va_P G vwCl (LW cs h1 Q h2 q2 (vA F 11 (upd (upd (F 11) 1 x38) 2 x39)) A B (va_up D 11 d40) MF MA MD MB) H := hP.sub [105, 106, 107, 0, 1, 2, 3, 4, 5, 6, 7, 8, 9, 10, 108, 109, 110, 111, 112, 113, 114, 115, 116, 117, 11, 12, 13, 14, 15, 16, 17, 18, 19, 20, 21, 22, 23, 24, 25, 26, 27, 28, 29, 30, 31, 32, 33, 118, 34, 35, 36, 37, 38, 39, 119, 120, 40, 41, 42, 43, 44, 45, 46, 47, 48, 49, 50, 51, 52, 53, 54, 55, 56, 57, 58, 59, 60, 61, 62, 63, 64, 65, 66, 67, 68, 69, 70, 71, 72, 73, 74, 75, 76, 77, 78, 79, 80, 81, 82, 83, 84, 85, 86, 87, 88, 89, 90, 91, 92, 93, 94, 95, 96, 97, 98, 99, 100, 101, 102, 103, 104] rfl
    have hD : va_D (fun q : Nat => s.heap.size ≤ q) (LW cs h1 Q h2 q2 (vA F 11 (upd (upd (F 11) 1 x38) 2 x39)) A B (va_up D 11 d40) MF MA MD MB) := hD.sub [105, 106, 107, 0, 1, 2, 3, 4, 5, 6, 7, 8, 9, 10, 108, 109, 110, 111, 112, 113, 114, 115, 116, 117, 11, 12, 13, 14, 15, 16, 17, 18, 19, 20, 21, 22, 23, 24, 25, 26, 27, 28, 29, 30, 31, 32, 33, 118, 34, 35, 36, 37, 38, 39, 119, 120, 40, 41, 42, 43, 44, 45, 46, 47, 48, 49, 50, 51, 52, 53, 54, 55, 56, 57, 58, 59, 60, 61, 62, 63, 64, 65, 66, 67, 68, 69, 70, 71, 72, 73, 74, 75, 76, 77, 78, 79, 80, 81, 82, 83, 84, 85, 86, 87, 88, 89, 90, 91, 92, 93, 94, 95, 96, 97, 98, 99, 100, 101, 102, 103, 104] (by decide +kernel) rfl
    refine lv_pop hx hb dL_law_1798 rfl ?_
    refine lv_aload_n hx hb dL_law_1799 rfl (lv_at hl 1 rfl) ?_
    refine lv_aload_n hx hb dL_law_1800 rfl (lv_at hl 3 rfl) ?_
    refine lv_iload_n hx hb dL_law_1801 rfl (lv_at hl 0 rfl) ?_
    refine lv_iconst (v := 1) hx hb dL_law_1802 (by decide) ?_
    refine lv_iadd hx hb dL_law_1803 ?_
    refine va_sld hx hb hXs hbl hbA hS (inK t1 (by omega) (by omega)) dL_law_1804 ?_
    refine W.eq (g2 := F0 m 1805 ls [.int a1, .ref h2]) (by rw [← ea1]) ?_
    refine lv_aload_n hx hb dL_law_1805 rfl (lv_at hl 3 rfl) ?_
    refine lv_iload_n hx hb dL_law_1806 rfl (lv_at hl 0 rfl) ?_
    refine lv_iconst (v := 2) hx hb dL_law_1807 (by decide) ?_
    refine lv_iadd hx hb dL_law_1808 ?_
    refine va_sld hx hb hXs hbl hbA hS (inK t2 (by omega) (by omega)) dL_law_1809 ?_
    refine W.eq (g2 := F0 m 1810 ls [.int 3, .int a1, .ref h2]) (by rw [← ea2]) ?_
    refine lv_aload_n hx hb dL_law_1810 rfl (lv_at hl 3 rfl) ?_
    refine lv_iload_n hx hb dL_law_1811 rfl (lv_at hl 0 rfl) ?_
    refine lv_iconst (v := 3) hx hb dL_law_1812 (by decide) ?_
    refine lv_iadd hx hb dL_law_1813 ?_
    refine va_sld hx hb hXs hbl hbA hS (inK t3 (by omega) (by omega)) dL_law_1814 ?_
    refine W.eq (g2 := F0 m 1815 ls [.int a3, .int 3, .int a1, .ref h2]) (by rw [← ea3]) ?_
    refine behDi (wr := (XLW cs h1 Q (vA F 11 (upd (upd (F 11) 1 x38) 2 x39)) A B (va_up D 11 d40))) (runVD (As := [.int a1, .int 3, .int a3]) (rest := []) ⟨hx, hb, hml, hown, ht⟩ (sX11_lot l G cs h2 q2 MF MA MD MB hM.1 a1 3 a3) okV_RL_244 ⟨(Nat.le_of_ble_eq_true rfl), (Nat.le_of_ble_eq_true rfl)⟩ hK hP hD [101, 102, 103, 104, 105, 106, 107, 108, 109, 110, 111, 112, 113, 114, 115, 116, 117, 118, 119, 120] rfl (by decide +kernel) rfl 101 rfl rfl hl.1 rfl (Nat.le_of_ble_eq_true rfl) dL_law_1815 ⟨(Nat.le_of_ble_eq_true rfl), (Nat.le_of_ble_eq_true rfl)⟩) hP hD hS (fun _ h => h) [101, 102, 103, 104, 105, 106, 107, 108, 109, 110, 111, 112, 113, 114, 115, 116, 117, 118, 119, 120] [0, 1, 2, 3, 4, 5, 6, 7, 8, 9, 10, 11, 12, 13, 14, 15, 16, 17, 18, 19, 20, 21, 22, 23, 24, 25, 26, 27, 28, 29, 30, 31, 32, 33, 34, 35, 36, 37, 38, 39, 40, 41, 42, 43, 44, 45, 46, 47, 48, 49, 50, 51, 52, 53, 54, 55, 56, 57, 58, 59, 60, 61, 62, 63, 64, 65, 66, 67, 68, 69, 70, 71, 72, 73, 74, 75, 76, 77, 78, 79, 80, 81, 82, 83, 84, 85, 86, 87, 88, 89, 90, 91, 92, 93, 94, 95, 96, 97, 98, 99, 100] rfl rfl (by decide +kernel) (by decide +kernel) (fun r9 u H locs hu hP hD hS => ?_)
    obtain ⟨x42, x43, d44⟩ := u
    obtain ⟨r41, rfl⟩ : ∃ z, z = r9 := ⟨_, rfl⟩
    obtain ⟨hbx42, hbx43, hr41⟩ := hu
    have hbx42 : (-1 : Int) ≤ x42.toInt ∧ x42.toInt ≤ 59 := hbx42
    have hbx43 : (-1 : Int) ≤ x43.toInt ∧ x43.toInt ≤ 6 := hbx43
    have hP : va_P G vwCl (LW cs h1 Q h2 q2 (vA F 11 (upd (upd (F 11) 1 x38) 2 x39)) A B (va_up D 11 d40) (upd (upd MF 29 x42) 30 x43) MA d44 MB) H := hP
    have hD : va_D (fun q : Nat => s.heap.size ≤ q) (LW cs h1 Q h2 q2 (vA F 11 (upd (upd (F 11) 1 x38) 2 x39)) A B (va_up D 11 d40) (upd (upd MF 29 x42) 30 x43) MA d44 MB) := hD
    refine lv_pop hx hb dL_law_1818 rfl ?_
    refine lv_goto (tgt := 2156) hx hb dL_law_1819 (by decide) ?_
    exact kk (vA F 11 (upd (upd (F 11) 1 x38) 2 x39)) A B (va_up D 11 d40) (upd (upd MF 29 x42) 30 x43) MA d44 MB H locs ls ⟨hX.1, hX.2.1, hX.2.2.1, hX.2.2.2.1, hX.2.2.2.2.1, hX.2.2.2.2.2.1, hX.2.2.2.2.2.2.1, hX.2.2.2.2.2.2.2.1, hX.2.2.2.2.2.2.2.2.1, hX.2.2.2.2.2.2.2.2.2.1, hX.2.2.2.2.2.2.2.2.2.2.1, (IB_put (k := 2) (IB_put (k := 1) hX.2.2.2.2.2.2.2.2.2.2.2.1 (i32b _)) (hbx39)), hX.2.2.2.2.2.2.2.2.2.2.2.2.1, hX.2.2.2.2.2.2.2.2.2.2.2.2.2.1, hX.2.2.2.2.2.2.2.2.2.2.2.2.2.2.1, hX.2.2.2.2.2.2.2.2.2.2.2.2.2.2.2.1, hX.2.2.2.2.2.2.2.2.2.2.2.2.2.2.2.2.1, hX.2.2.2.2.2.2.2.2.2.2.2.2.2.2.2.2.2.1, hX.2.2.2.2.2.2.2.2.2.2.2.2.2.2.2.2.2.2.1, hX.2.2.2.2.2.2.2.2.2.2.2.2.2.2.2.2.2.2.2.1, hX.2.2.2.2.2.2.2.2.2.2.2.2.2.2.2.2.2.2.2.2.1, hX.2.2.2.2.2.2.2.2.2.2.2.2.2.2.2.2.2.2.2.2.2.1, hX.2.2.2.2.2.2.2.2.2.2.2.2.2.2.2.2.2.2.2.2.2.2.1, hX.2.2.2.2.2.2.2.2.2.2.2.2.2.2.2.2.2.2.2.2.2.2.2.1, hX.2.2.2.2.2.2.2.2.2.2.2.2.2.2.2.2.2.2.2.2.2.2.2.2.1, hX.2.2.2.2.2.2.2.2.2.2.2.2.2.2.2.2.2.2.2.2.2.2.2.2.2.1, hX.2.2.2.2.2.2.2.2.2.2.2.2.2.2.2.2.2.2.2.2.2.2.2.2.2.2⟩ ⟨(IM_put (k := 30) (IM_put (k := 29) hM.1 (hbx42)) (hbx43)), hM.2.1, hM.2.2⟩ hR hP hD hS hl

