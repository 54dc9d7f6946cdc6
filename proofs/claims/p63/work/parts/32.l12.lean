set_option maxRecDepth 100000 in
set_option maxHeartbeats 16000000 in
theorem law_48 {p : Program} {l : Launch} {e : Env} {s : State} {m : MethodId} {below : List Frame} {meth : Method} {c : Code} {b L : Nat} {xs : Nat → Int32} {G : va_G} {cs : Nat → ClassId} {h1 : Nat} {Q : Nat → Nat → Nat} {h2 : Nat} {q2 : Nat → Nat} {sd : Nat → Nat × Nat} {i : Int32} : LCase p l e s m below meth c b G cs h1 Q h2 q2 i L xs sd 48 := by
  intro C0 hL hK hQ hQM hi0 hi6 kk F A B D MF MA MD MB H locs ls hX hM hR hP hD hS hl
  obtain ⟨hx, hb, hr, hml, hown, hts, hXs, hbl, hlocks, hgv⟩ := id C0
  have hown : s.vm.findClass RL = some m.cls := hown
  have ht : ∀ w ∈ tb, w.before #[Value.ref b] s = true := fun w h => hts w (List.mem_filter.mp h).1
  have hbA : ¬ (fun q : Nat => s.heap.size ≤ q) b := Nat.not_le.mpr hbl
  have t1 : (i + 1).toInt = i.toInt + 1 := addT rfl (by decide) (by omega)
  obtain ⟨a1, ea1⟩ : ∃ z : Int32, z = xs (i + 1).toNatClampNeg := ⟨_, rfl⟩
  have t2 : (i + 2).toInt = i.toInt + 2 := addT rfl (by decide) (by omega)
  obtain ⟨a2, ea2⟩ : ∃ z : Int32, z = xs (i + 2).toNatClampNeg := ⟨_, rfl⟩
  have t3 : (i + 3).toInt = i.toInt + 3 := addT rfl (by decide) (by omega)
  obtain ⟨a3, ea3⟩ : ∃ z : Int32, z = xs (i + 3).toNatClampNeg := ⟨_, rfl⟩
  refine lv_tableIn (off := 1535) (tgt := 1568) hx hb dL_law_33 (by decide) (by decide) (by decide) (by decide) ?_
  refine lv_aload_n hx hb dL_law_1568 rfl (lv_at hl 2 rfl) ?_
  refine lv_aload_n hx hb dL_law_1569 rfl (lv_at hl 3 rfl) ?_
  refine lv_iload_n hx hb dL_law_1570 rfl (lv_at hl 0 rfl) ?_
  refine lv_iconst (v := 1) hx hb dL_law_1571 (by decide) ?_
  refine lv_iadd hx hb dL_law_1572 ?_
  refine va_sld hx hb hXs hbl hbA hS (inK t1 (by omega) (by omega)) dL_law_1573 ?_
  refine W.eq (g2 := F0 m 1574 ls [.int a1, .ref h1]) (by rw [← ea1]) ?_
  refine lv_aload_n hx hb dL_law_1574 rfl (lv_at hl 3 rfl) ?_
  refine lv_iload_n hx hb dL_law_1575 rfl (lv_at hl 0 rfl) ?_
  refine lv_iconst (v := 2) hx hb dL_law_1576 (by decide) ?_
  refine lv_iadd hx hb dL_law_1577 ?_
  refine va_sld hx hb hXs hbl hbA hS (inK t2 (by omega) (by omega)) dL_law_1578 ?_
  refine W.eq (g2 := F0 m 1579 ls [.int a2, .int a1, .ref h1]) (by rw [← ea2]) ?_
  refine lv_aload_n hx hb dL_law_1579 rfl (lv_at hl 3 rfl) ?_
  refine lv_iload_n hx hb dL_law_1580 rfl (lv_at hl 0 rfl) ?_
  refine lv_iconst (v := 3) hx hb dL_law_1581 (by decide) ?_
  refine lv_iadd hx hb dL_law_1582 ?_
  refine va_sld hx hb hXs hbl hbA hS (inK t3 (by omega) (by omega)) dL_law_1583 ?_
  refine W.eq (g2 := F0 m 1584 ls [.int a3, .int a2, .int a1, .ref h1]) (by rw [← ea3]) ?_
  refine behRL (runVP (As := [.int a1, .int a2, .int a3]) (rest := []) ⟨hx, hb, hml, hown, ht⟩ (sX10_read l G cs h1 (Q 0) (F 0) (A 0) (B 0) (D 0) hX.1 (Q 4) (F 4) (A 4) (B 4) (D 4) hX.2.2.2.2.1 (Q 5) (F 5) (A 5) (B 5) (D 5) hX.2.2.2.2.2.1 (Q 10) (F 10) (A 10) (B 10) (D 10) hX.2.2.2.2.2.2.2.2.2.2.1 a1 a2 a3) okV_RL_211 ⟨(Nat.le_of_ble_eq_true rfl), (Nat.le_of_ble_eq_true rfl)⟩ hK hP [0, 1, 2, 14, 15, 16, 17, 18, 19, 20, 21, 22, 23, 45, 46] rfl 0 rfl rfl hl.1 rfl (Nat.le_of_ble_eq_true rfl) dL_law_1584 ⟨(Nat.le_of_ble_eq_true rfl), (Nat.le_of_ble_eq_true rfl)⟩) hP hS (fun _ h => h) (fun r1 H locs hr1 hP hS => ?_)
  refine lv_pop2_2 hx hb dL_law_1587 rfl ?_
  refine lv_aload_n hx hb dL_law_1588 rfl (lv_at hl 1 rfl) ?_
  refine lv_aload_n hx hb dL_law_1589 rfl (lv_at hl 3 rfl) ?_
  refine lv_iload_n hx hb dL_law_1590 rfl (lv_at hl 0 rfl) ?_
  refine lv_iconst (v := 1) hx hb dL_law_1591 (by decide) ?_
  refine lv_iadd hx hb dL_law_1592 ?_
  refine va_sld hx hb hXs hbl hbA hS (inK t1 (by omega) (by omega)) dL_law_1593 ?_
  refine W.eq (g2 := F0 m 1594 ls [.int a1, .ref h2]) (by rw [← ea1]) ?_
  refine lv_aload_n hx hb dL_law_1594 rfl (lv_at hl 3 rfl) ?_
  refine lv_iload_n hx hb dL_law_1595 rfl (lv_at hl 0 rfl) ?_
  refine lv_iconst (v := 2) hx hb dL_law_1596 (by decide) ?_
  refine lv_iadd hx hb dL_law_1597 ?_
  refine va_sld hx hb hXs hbl hbA hS (inK t2 (by omega) (by omega)) dL_law_1598 ?_
  refine W.eq (g2 := F0 m 1599 ls [.int a2, .int a1, .ref h2]) (by rw [← ea2]) ?_
  refine lv_aload_n hx hb dL_law_1599 rfl (lv_at hl 3 rfl) ?_
  refine lv_iload_n hx hb dL_law_1600 rfl (lv_at hl 0 rfl) ?_
  refine lv_iconst (v := 3) hx hb dL_law_1601 (by decide) ?_
  refine lv_iadd hx hb dL_law_1602 ?_
  refine va_sld hx hb hXs hbl hbA hS (inK t3 (by omega) (by omega)) dL_law_1603 ?_
  refine W.eq (g2 := F0 m 1604 ls [.int a3, .int a2, .int a1, .ref h2]) (by rw [← ea3]) ?_
  refine behRL (runVP (As := [.int a1, .int a2, .int a3]) (rest := []) ⟨hx, hb, hml, hown, ht⟩ (sX11_read l G cs h2 q2 MF MA MD MB hM.1 a1 a2 a3) okV_RL_215 ⟨(Nat.le_of_ble_eq_true rfl), (Nat.le_of_ble_eq_true rfl)⟩ hK hP [101, 102, 103, 104, 105, 106, 107, 108, 109, 110, 111, 112, 113, 114, 115, 116, 117, 118, 119, 120] rfl 101 rfl rfl hl.1 rfl (Nat.le_of_ble_eq_true rfl) dL_law_1604 ⟨(Nat.le_of_ble_eq_true rfl), (Nat.le_of_ble_eq_true rfl)⟩) hP hS (fun _ h => h) (fun r2 H locs hr2 hP hS => ?_)
  refine lv_pop2_2 hx hb dL_law_1607 rfl ?_
  refine lv_goto (tgt := 2156) hx hb dL_law_1608 (by decide) ?_
  exact kk F A B D MF MA MD MB H locs ls ⟨hX.1, hX.2.1, hX.2.2.1, hX.2.2.2.1, hX.2.2.2.2.1, hX.2.2.2.2.2.1, hX.2.2.2.2.2.2.1, hX.2.2.2.2.2.2.2.1, hX.2.2.2.2.2.2.2.2.1, hX.2.2.2.2.2.2.2.2.2.1, hX.2.2.2.2.2.2.2.2.2.2.1, hX.2.2.2.2.2.2.2.2.2.2.2.1, hX.2.2.2.2.2.2.2.2.2.2.2.2.1, hX.2.2.2.2.2.2.2.2.2.2.2.2.2.1, hX.2.2.2.2.2.2.2.2.2.2.2.2.2.2.1, hX.2.2.2.2.2.2.2.2.2.2.2.2.2.2.2.1, hX.2.2.2.2.2.2.2.2.2.2.2.2.2.2.2.2.1, hX.2.2.2.2.2.2.2.2.2.2.2.2.2.2.2.2.2.1, hX.2.2.2.2.2.2.2.2.2.2.2.2.2.2.2.2.2.2.1, hX.2.2.2.2.2.2.2.2.2.2.2.2.2.2.2.2.2.2.2.1, hX.2.2.2.2.2.2.2.2.2.2.2.2.2.2.2.2.2.2.2.2.1, hX.2.2.2.2.2.2.2.2.2.2.2.2.2.2.2.2.2.2.2.2.2.1, hX.2.2.2.2.2.2.2.2.2.2.2.2.2.2.2.2.2.2.2.2.2.2.1, hX.2.2.2.2.2.2.2.2.2.2.2.2.2.2.2.2.2.2.2.2.2.2.2.1, hX.2.2.2.2.2.2.2.2.2.2.2.2.2.2.2.2.2.2.2.2.2.2.2.2.1, hX.2.2.2.2.2.2.2.2.2.2.2.2.2.2.2.2.2.2.2.2.2.2.2.2.2.1, hX.2.2.2.2.2.2.2.2.2.2.2.2.2.2.2.2.2.2.2.2.2.2.2.2.2.2⟩ ⟨hM.1, hM.2.1, hM.2.2⟩ hR hP hD hS hl

set_option maxRecDepth 100000 in
set_option maxHeartbeats 16000000 in
theorem law_49 {p : Program} {l : Launch} {e : Env} {s : State} {m : MethodId} {below : List Frame} {meth : Method} {c : Code} {b L : Nat} {xs : Nat → Int32} {G : va_G} {cs : Nat → ClassId} {h1 : Nat} {Q : Nat → Nat → Nat} {h2 : Nat} {q2 : Nat → Nat} {sd : Nat → Nat × Nat} {i : Int32} : LCase p l e s m below meth c b G cs h1 Q h2 q2 i L xs sd 49 := by
  intro C0 hL hK hQ hQM hi0 hi6 kk F A B D MF MA MD MB H locs ls hX hM hR hP hD hS hl
  obtain ⟨hx, hb, hr, hml, hown, hts, hXs, hbl, hlocks, hgv⟩ := id C0
  have hown : s.vm.findClass RL = some m.cls := hown
  have ht : ∀ w ∈ tb, w.before #[Value.ref b] s = true := fun w h => hts w (List.mem_filter.mp h).1
  have hbA : ¬ (fun q : Nat => s.heap.size ≤ q) b := Nat.not_le.mpr hbl
  have t1 : (i + 1).toInt = i.toInt + 1 := addT rfl (by decide) (by omega)
  obtain ⟨a1, ea1⟩ : ∃ z : Int32, z = xs (i + 1).toNatClampNeg := ⟨_, rfl⟩
  refine lv_tableIn (off := 1578) (tgt := 1611) hx hb dL_law_33 (by decide) (by decide) (by decide) (by decide) ?_
  refine lv_aload_n hx hb dL_law_1611 rfl (lv_at hl 2 rfl) ?_
  refine lv_aload_n hx hb dL_law_1612 rfl (lv_at hl 3 rfl) ?_
  refine lv_iload_n hx hb dL_law_1613 rfl (lv_at hl 0 rfl) ?_
  refine lv_iconst (v := 1) hx hb dL_law_1614 (by decide) ?_
  refine lv_iadd hx hb dL_law_1615 ?_
  refine va_sld hx hb hXs hbl hbA hS (inK t1 (by omega) (by omega)) dL_law_1616 ?_
  refine W.eq (g2 := F0 m 1617 ls [.int a1, .ref h1]) (by rw [← ea1]) ?_
  refine behR (runVP (As := [.int a1]) (rest := []) ⟨hx, hb, hml, hown, ht⟩ (sX10_guess l G cs h1 (Q 0) (F 0) (A 0) (B 0) (D 0) hX.1 (Q 4) (F 4) (A 4) (B 4) (D 4) hX.2.2.2.2.1 (Q 5) (F 5) (A 5) (B 5) (D 5) hX.2.2.2.2.2.1 (Q 10) (F 10) (A 10) (B 10) (D 10) hX.2.2.2.2.2.2.2.2.2.2.1 a1) okV_RL_216 ⟨(Nat.le_of_ble_eq_true rfl), (Nat.le_of_ble_eq_true rfl)⟩ hK hP [0, 1, 2, 14, 15, 16, 17, 18, 19, 20, 21, 22, 23, 45, 46] rfl 0 rfl rfl hl.1 rfl (Nat.le_of_ble_eq_true rfl) dL_law_1617 ⟨(Nat.le_of_ble_eq_true rfl), (Nat.le_of_ble_eq_true rfl)⟩) hP hS (fun _ h => h) (fun r1 H locs hr1 hP hS => ?_)
  refine lv_pop hx hb dL_law_1620 rfl ?_
  refine lv_aload_n hx hb dL_law_1621 rfl (lv_at hl 1 rfl) ?_
  refine lv_aload_n hx hb dL_law_1622 rfl (lv_at hl 3 rfl) ?_
  refine lv_iload_n hx hb dL_law_1623 rfl (lv_at hl 0 rfl) ?_
  refine lv_iconst (v := 1) hx hb dL_law_1624 (by decide) ?_
  refine lv_iadd hx hb dL_law_1625 ?_
  refine va_sld hx hb hXs hbl hbA hS (inK t1 (by omega) (by omega)) dL_law_1626 ?_
  refine W.eq (g2 := F0 m 1627 ls [.int a1, .ref h2]) (by rw [← ea1]) ?_
  refine behR (runVP (As := [.int a1]) (rest := []) ⟨hx, hb, hml, hown, ht⟩ (sX11_guess l G cs h2 q2 MF MA MD MB hM.1 a1) okV_RL_219 ⟨(Nat.le_of_ble_eq_true rfl), (Nat.le_of_ble_eq_true rfl)⟩ hK hP [101, 102, 103, 104, 105, 106, 107, 108, 109, 110, 111, 112, 113, 114, 115, 116, 117, 118, 119, 120] rfl 101 rfl rfl hl.1 rfl (Nat.le_of_ble_eq_true rfl) dL_law_1627 ⟨(Nat.le_of_ble_eq_true rfl), (Nat.le_of_ble_eq_true rfl)⟩) hP hS (fun _ h => h) (fun r2 H locs hr2 hP hS => ?_)
  refine lv_pop hx hb dL_law_1630 rfl ?_
  refine lv_goto (tgt := 2156) hx hb dL_law_1631 (by decide) ?_
  exact kk F A B D MF MA MD MB H locs ls ⟨hX.1, hX.2.1, hX.2.2.1, hX.2.2.2.1, hX.2.2.2.2.1, hX.2.2.2.2.2.1, hX.2.2.2.2.2.2.1, hX.2.2.2.2.2.2.2.1, hX.2.2.2.2.2.2.2.2.1, hX.2.2.2.2.2.2.2.2.2.1, hX.2.2.2.2.2.2.2.2.2.2.1, hX.2.2.2.2.2.2.2.2.2.2.2.1, hX.2.2.2.2.2.2.2.2.2.2.2.2.1, hX.2.2.2.2.2.2.2.2.2.2.2.2.2.1, hX.2.2.2.2.2.2.2.2.2.2.2.2.2.2.1, hX.2.2.2.2.2.2.2.2.2.2.2.2.2.2.2.1, hX.2.2.2.2.2.2.2.2.2.2.2.2.2.2.2.2.1, hX.2.2.2.2.2.2.2.2.2.2.2.2.2.2.2.2.2.1, hX.2.2.2.2.2.2.2.2.2.2.2.2.2.2.2.2.2.2.1, hX.2.2.2.2.2.2.2.2.2.2.2.2.2.2.2.2.2.2.2.1, hX.2.2.2.2.2.2.2.2.2.2.2.2.2.2.2.2.2.2.2.2.1, hX.2.2.2.2.2.2.2.2.2.2.2.2.2.2.2.2.2.2.2.2.2.1, hX.2.2.2.2.2.2.2.2.2.2.2.2.2.2.2.2.2.2.2.2.2.2.1, hX.2.2.2.2.2.2.2.2.2.2.2.2.2.2.2.2.2.2.2.2.2.2.2.1, hX.2.2.2.2.2.2.2.2.2.2.2.2.2.2.2.2.2.2.2.2.2.2.2.2.1, hX.2.2.2.2.2.2.2.2.2.2.2.2.2.2.2.2.2.2.2.2.2.2.2.2.2.1, hX.2.2.2.2.2.2.2.2.2.2.2.2.2.2.2.2.2.2.2.2.2.2.2.2.2.2⟩ ⟨hM.1, hM.2.1, hM.2.2⟩ hR hP hD hS hl

set_option maxRecDepth 100000 in
set_option maxHeartbeats 16000000 in
theorem law_50 {p : Program} {l : Launch} {e : Env} {s : State} {m : MethodId} {below : List Frame} {meth : Method} {c : Code} {b L : Nat} {xs : Nat → Int32} {G : va_G} {cs : Nat → ClassId} {h1 : Nat} {Q : Nat → Nat → Nat} {h2 : Nat} {q2 : Nat → Nat} {sd : Nat → Nat × Nat} {i : Int32} : LCase p l e s m below meth c b G cs h1 Q h2 q2 i L xs sd 50 := by
  intro C0 hL hK hQ hQM hi0 hi6 kk F A B D MF MA MD MB H locs ls hX hM hR hP hD hS hl
  obtain ⟨hx, hb, hr, hml, hown, hts, hXs, hbl, hlocks, hgv⟩ := id C0
  have hown : s.vm.findClass RL = some m.cls := hown
  have ht : ∀ w ∈ tb, w.before #[Value.ref b] s = true := fun w h => hts w (List.mem_filter.mp h).1
  have hbA : ¬ (fun q : Nat => s.heap.size ≤ q) b := Nat.not_le.mpr hbl
  have t1 : (i + 1).toInt = i.toInt + 1 := addT rfl (by decide) (by omega)
  obtain ⟨a1, ea1⟩ : ∃ z : Int32, z = xs (i + 1).toNatClampNeg := ⟨_, rfl⟩
  refine lv_tableIn (off := 1601) (tgt := 1634) hx hb dL_law_33 (by decide) (by decide) (by decide) (by decide) ?_
  refine lv_aload_n hx hb dL_law_1634 rfl (lv_at hl 2 rfl) ?_
  refine lv_aload_n hx hb dL_law_1635 rfl (lv_at hl 3 rfl) ?_
  refine lv_iload_n hx hb dL_law_1636 rfl (lv_at hl 0 rfl) ?_
  refine lv_iconst (v := 1) hx hb dL_law_1637 (by decide) ?_
  refine lv_iadd hx hb dL_law_1638 ?_
  refine va_sld hx hb hXs hbl hbA hS (inK t1 (by omega) (by omega)) dL_law_1639 ?_
  refine W.eq (g2 := F0 m 1640 ls [.int a1, .ref h1]) (by rw [← ea1]) ?_
  refine behRL (runVP (As := [.int a1]) (rest := []) ⟨hx, hb, hml, hown, ht⟩ (sX10_right l G cs h1 (Q 0) (F 0) (A 0) (B 0) (D 0) hX.1 (Q 4) (F 4) (A 4) (B 4) (D 4) hX.2.2.2.2.1 (Q 5) (F 5) (A 5) (B 5) (D 5) hX.2.2.2.2.2.1 (Q 10) (F 10) (A 10) (B 10) (D 10) hX.2.2.2.2.2.2.2.2.2.2.1 a1) okV_RL_220 ⟨(Nat.le_of_ble_eq_true rfl), (Nat.le_of_ble_eq_true rfl)⟩ hK hP [0, 1, 2, 14, 15, 16, 17, 18, 19, 20, 21, 22, 23, 45, 46] rfl 0 rfl rfl hl.1 rfl (Nat.le_of_ble_eq_true rfl) dL_law_1640 ⟨(Nat.le_of_ble_eq_true rfl), (Nat.le_of_ble_eq_true rfl)⟩) hP hS (fun _ h => h) (fun r1 H locs hr1 hP hS => ?_)
  refine lv_pop2_2 hx hb dL_law_1643 rfl ?_
  refine lv_aload_n hx hb dL_law_1644 rfl (lv_at hl 1 rfl) ?_
  refine lv_aload_n hx hb dL_law_1645 rfl (lv_at hl 3 rfl) ?_
  refine lv_iload_n hx hb dL_law_1646 rfl (lv_at hl 0 rfl) ?_
  refine lv_iconst (v := 1) hx hb dL_law_1647 (by decide) ?_
  refine lv_iadd hx hb dL_law_1648 ?_
  refine va_sld hx hb hXs hbl hbA hS (inK t1 (by omega) (by omega)) dL_law_1649 ?_
  refine W.eq (g2 := F0 m 1650 ls [.int a1, .ref h2]) (by rw [← ea1]) ?_
  refine behRL (runVP (As := [.int a1]) (rest := []) ⟨hx, hb, hml, hown, ht⟩ (sX11_right l G cs h2 q2 MF MA MD MB hM.1 a1 hM.2.1) okV_RL_224 ⟨(Nat.le_of_ble_eq_true rfl), (Nat.le_of_ble_eq_true rfl)⟩ hK hP [101, 102, 103, 104, 105, 106, 107, 108, 109, 110, 111, 112, 113, 114, 115, 116, 117, 118, 119, 120] rfl 101 rfl rfl hl.1 rfl (Nat.le_of_ble_eq_true rfl) dL_law_1650 ⟨(Nat.le_of_ble_eq_true rfl), (Nat.le_of_ble_eq_true rfl)⟩) hP hS (fun _ h => h) (fun r2 H locs hr2 hP hS => ?_)
  refine lv_pop2_2 hx hb dL_law_1653 rfl ?_
  refine lv_goto (tgt := 2156) hx hb dL_law_1654 (by decide) ?_
  exact kk F A B D MF MA MD MB H locs ls ⟨hX.1, hX.2.1, hX.2.2.1, hX.2.2.2.1, hX.2.2.2.2.1, hX.2.2.2.2.2.1, hX.2.2.2.2.2.2.1, hX.2.2.2.2.2.2.2.1, hX.2.2.2.2.2.2.2.2.1, hX.2.2.2.2.2.2.2.2.2.1, hX.2.2.2.2.2.2.2.2.2.2.1, hX.2.2.2.2.2.2.2.2.2.2.2.1, hX.2.2.2.2.2.2.2.2.2.2.2.2.1, hX.2.2.2.2.2.2.2.2.2.2.2.2.2.1, hX.2.2.2.2.2.2.2.2.2.2.2.2.2.2.1, hX.2.2.2.2.2.2.2.2.2.2.2.2.2.2.2.1, hX.2.2.2.2.2.2.2.2.2.2.2.2.2.2.2.2.1, hX.2.2.2.2.2.2.2.2.2.2.2.2.2.2.2.2.2.1, hX.2.2.2.2.2.2.2.2.2.2.2.2.2.2.2.2.2.2.1, hX.2.2.2.2.2.2.2.2.2.2.2.2.2.2.2.2.2.2.2.1, hX.2.2.2.2.2.2.2.2.2.2.2.2.2.2.2.2.2.2.2.2.1, hX.2.2.2.2.2.2.2.2.2.2.2.2.2.2.2.2.2.2.2.2.2.1, hX.2.2.2.2.2.2.2.2.2.2.2.2.2.2.2.2.2.2.2.2.2.2.1, hX.2.2.2.2.2.2.2.2.2.2.2.2.2.2.2.2.2.2.2.2.2.2.2.1, hX.2.2.2.2.2.2.2.2.2.2.2.2.2.2.2.2.2.2.2.2.2.2.2.2.1, hX.2.2.2.2.2.2.2.2.2.2.2.2.2.2.2.2.2.2.2.2.2.2.2.2.2.1, hX.2.2.2.2.2.2.2.2.2.2.2.2.2.2.2.2.2.2.2.2.2.2.2.2.2.2⟩ ⟨hM.1, hM.2.1, hM.2.2⟩ hR hP hD hS hl

set_option maxRecDepth 100000 in
set_option maxHeartbeats 16000000 in
theorem law_51 {p : Program} {l : Launch} {e : Env} {s : State} {m : MethodId} {below : List Frame} {meth : Method} {c : Code} {b L : Nat} {xs : Nat → Int32} {G : va_G} {cs : Nat → ClassId} {h1 : Nat} {Q : Nat → Nat → Nat} {h2 : Nat} {q2 : Nat → Nat} {sd : Nat → Nat × Nat} {i : Int32} : LCase p l e s m below meth c b G cs h1 Q h2 q2 i L xs sd 51 := by
  intro C0 hL hK hQ hQM hi0 hi6 kk F A B D MF MA MD MB H locs ls hX hM hR hP hD hS hl
  obtain ⟨hx, hb, hr, hml, hown, hts, hXs, hbl, hlocks, hgv⟩ := id C0
  have hown : s.vm.findClass RL = some m.cls := hown
  have ht : ∀ w ∈ tb, w.before #[Value.ref b] s = true := fun w h => hts w (List.mem_filter.mp h).1
  have hbA : ¬ (fun q : Nat => s.heap.size ≤ q) b := Nat.not_le.mpr hbl
  have t1 : (i + 1).toInt = i.toInt + 1 := addT rfl (by decide) (by omega)
  obtain ⟨a1, ea1⟩ : ∃ z : Int32, z = xs (i + 1).toNatClampNeg := ⟨_, rfl⟩
  refine lv_tableIn (off := 1624) (tgt := 1657) hx hb dL_law_33 (by decide) (by decide) (by decide) (by decide) ?_
  refine lv_aload_n hx hb dL_law_1657 rfl (lv_at hl 2 rfl) ?_
  refine lv_aload_n hx hb dL_law_1658 rfl (lv_at hl 3 rfl) ?_
  refine lv_iload_n hx hb dL_law_1659 rfl (lv_at hl 0 rfl) ?_
  refine lv_iconst (v := 1) hx hb dL_law_1660 (by decide) ?_
  refine lv_iadd hx hb dL_law_1661 ?_
  refine va_sld hx hb hXs hbl hbA hS (inK t1 (by omega) (by omega)) dL_law_1662 ?_
  refine W.eq (g2 := F0 m 1663 ls [.int a1, .ref h1]) (by rw [← ea1]) ?_
  rcases csN4 a1 with hN | hN | rfl | rfl | rfl | rfl
  · have bb1 := i32b a1
    refine behR (runVP (As := [.int a1]) (rest := []) ⟨hx, hb, hml, hown, ht⟩ (sX10_habit_lo l G cs h1 (Q 0) (F 0) (A 0) (B 0) (D 0) hX.1 (Q 4) (F 4) (A 4) (B 4) (D 4) hX.2.2.2.2.1 (Q 5) (F 5) (A 5) (B 5) (D 5) hX.2.2.2.2.2.1 a1 (by omega)) okV_RL_225 ⟨(Nat.le_of_ble_eq_true rfl), (Nat.le_of_ble_eq_true rfl)⟩ hK hP [0, 1, 2, 14, 15, 16, 17, 18, 19, 20, 21, 22, 23] rfl 0 rfl rfl hl.1 rfl (Nat.le_of_ble_eq_true rfl) dL_law_1663 ⟨(Nat.le_of_ble_eq_true rfl), (Nat.le_of_ble_eq_true rfl)⟩) hP hS (fun _ h => h) (fun r2 H locs hr2 hP hS => ?_)
    refine lv_pop hx hb dL_law_1666 rfl ?_
    refine lv_aload_n hx hb dL_law_1667 rfl (lv_at hl 1 rfl) ?_
    refine lv_aload_n hx hb dL_law_1668 rfl (lv_at hl 3 rfl) ?_
    refine lv_iload_n hx hb dL_law_1669 rfl (lv_at hl 0 rfl) ?_
    refine lv_iconst (v := 1) hx hb dL_law_1670 (by decide) ?_
    refine lv_iadd hx hb dL_law_1671 ?_
    refine va_sld hx hb hXs hbl hbA hS (inK t1 (by omega) (by omega)) dL_law_1672 ?_
    refine W.eq (g2 := F0 m 1673 ls [.int a1, .ref h2]) (by rw [← ea1]) ?_
    refine behR (runVP (As := [.int a1]) (rest := []) ⟨hx, hb, hml, hown, ht⟩ (sX11_habit l G cs h2 q2 MF MA MD MB hM.1 a1) okV_RL_228 ⟨(Nat.le_of_ble_eq_true rfl), (Nat.le_of_ble_eq_true rfl)⟩ hK hP [101, 102, 103, 104, 105, 106, 107, 108, 109, 110, 111, 112, 113, 114, 115, 116, 117, 118, 119, 120] rfl 101 rfl rfl hl.1 rfl (Nat.le_of_ble_eq_true rfl) dL_law_1673 ⟨(Nat.le_of_ble_eq_true rfl), (Nat.le_of_ble_eq_true rfl)⟩) hP hS (fun _ h => h) (fun r3 H locs hr3 hP hS => ?_)
    refine lv_pop hx hb dL_law_1676 rfl ?_
    refine lv_goto (tgt := 2156) hx hb dL_law_1677 (by decide) ?_
    exact kk F A B D MF MA MD MB H locs ls ⟨hX.1, hX.2.1, hX.2.2.1, hX.2.2.2.1, hX.2.2.2.2.1, hX.2.2.2.2.2.1, hX.2.2.2.2.2.2.1, hX.2.2.2.2.2.2.2.1, hX.2.2.2.2.2.2.2.2.1, hX.2.2.2.2.2.2.2.2.2.1, hX.2.2.2.2.2.2.2.2.2.2.1, hX.2.2.2.2.2.2.2.2.2.2.2.1, hX.2.2.2.2.2.2.2.2.2.2.2.2.1, hX.2.2.2.2.2.2.2.2.2.2.2.2.2.1, hX.2.2.2.2.2.2.2.2.2.2.2.2.2.2.1, hX.2.2.2.2.2.2.2.2.2.2.2.2.2.2.2.1, hX.2.2.2.2.2.2.2.2.2.2.2.2.2.2.2.2.1, hX.2.2.2.2.2.2.2.2.2.2.2.2.2.2.2.2.2.1, hX.2.2.2.2.2.2.2.2.2.2.2.2.2.2.2.2.2.2.1, hX.2.2.2.2.2.2.2.2.2.2.2.2.2.2.2.2.2.2.2.1, hX.2.2.2.2.2.2.2.2.2.2.2.2.2.2.2.2.2.2.2.2.1, hX.2.2.2.2.2.2.2.2.2.2.2.2.2.2.2.2.2.2.2.2.2.1, hX.2.2.2.2.2.2.2.2.2.2.2.2.2.2.2.2.2.2.2.2.2.2.1, hX.2.2.2.2.2.2.2.2.2.2.2.2.2.2.2.2.2.2.2.2.2.2.2.1, hX.2.2.2.2.2.2.2.2.2.2.2.2.2.2.2.2.2.2.2.2.2.2.2.2.1, hX.2.2.2.2.2.2.2.2.2.2.2.2.2.2.2.2.2.2.2.2.2.2.2.2.2.1, hX.2.2.2.2.2.2.2.2.2.2.2.2.2.2.2.2.2.2.2.2.2.2.2.2.2.2⟩ ⟨hM.1, hM.2.1, hM.2.2⟩ hR hP hD hS hl
  · have bb4 := i32b a1
    refine behR (runVP (As := [.int a1]) (rest := []) ⟨hx, hb, hml, hown, ht⟩ (sX10_habit_hi l G cs h1 (Q 0) (F 0) (A 0) (B 0) (D 0) hX.1 (Q 4) (F 4) (A 4) (B 4) (D 4) hX.2.2.2.2.1 (Q 5) (F 5) (A 5) (B 5) (D 5) hX.2.2.2.2.2.1 a1 (by omega)) okV_RL_225 ⟨(Nat.le_of_ble_eq_true rfl), (Nat.le_of_ble_eq_true rfl)⟩ hK hP [0, 1, 2, 14, 15, 16, 17, 18, 19, 20, 21, 22, 23] rfl 0 rfl rfl hl.1 rfl (Nat.le_of_ble_eq_true rfl) dL_law_1663 ⟨(Nat.le_of_ble_eq_true rfl), (Nat.le_of_ble_eq_true rfl)⟩) hP hS (fun _ h => h) (fun r5 H locs hr5 hP hS => ?_)
    refine lv_pop hx hb dL_law_1666 rfl ?_
    refine lv_aload_n hx hb dL_law_1667 rfl (lv_at hl 1 rfl) ?_
    refine lv_aload_n hx hb dL_law_1668 rfl (lv_at hl 3 rfl) ?_
    refine lv_iload_n hx hb dL_law_1669 rfl (lv_at hl 0 rfl) ?_
    refine lv_iconst (v := 1) hx hb dL_law_1670 (by decide) ?_
    refine lv_iadd hx hb dL_law_1671 ?_
    refine va_sld hx hb hXs hbl hbA hS (inK t1 (by omega) (by omega)) dL_law_1672 ?_
    refine W.eq (g2 := F0 m 1673 ls [.int a1, .ref h2]) (by rw [← ea1]) ?_
    refine behR (runVP (As := [.int a1]) (rest := []) ⟨hx, hb, hml, hown, ht⟩ (sX11_habit l G cs h2 q2 MF MA MD MB hM.1 a1) okV_RL_228 ⟨(Nat.le_of_ble_eq_true rfl), (Nat.le_of_ble_eq_true rfl)⟩ hK hP [101, 102, 103, 104, 105, 106, 107, 108, 109, 110, 111, 112, 113, 114, 115, 116, 117, 118, 119, 120] rfl 101 rfl rfl hl.1 rfl (Nat.le_of_ble_eq_true rfl) dL_law_1673 ⟨(Nat.le_of_ble_eq_true rfl), (Nat.le_of_ble_eq_true rfl)⟩) hP hS (fun _ h => h) (fun r6 H locs hr6 hP hS => ?_)
    refine lv_pop hx hb dL_law_1676 rfl ?_
    refine lv_goto (tgt := 2156) hx hb dL_law_1677 (by decide) ?_
    exact kk F A B D MF MA MD MB H locs ls ⟨hX.1, hX.2.1, hX.2.2.1, hX.2.2.2.1, hX.2.2.2.2.1, hX.2.2.2.2.2.1, hX.2.2.2.2.2.2.1, hX.2.2.2.2.2.2.2.1, hX.2.2.2.2.2.2.2.2.1, hX.2.2.2.2.2.2.2.2.2.1, hX.2.2.2.2.2.2.2.2.2.2.1, hX.2.2.2.2.2.2.2.2.2.2.2.1, hX.2.2.2.2.2.2.2.2.2.2.2.2.1, hX.2.2.2.2.2.2.2.2.2.2.2.2.2.1, hX.2.2.2.2.2.2.2.2.2.2.2.2.2.2.1, hX.2.2.2.2.2.2.2.2.2.2.2.2.2.2.2.1, hX.2.2.2.2.2.2.2.2.2.2.2.2.2.2.2.2.1, hX.2.2.2.2.2.2.2.2.2.2.2.2.2.2.2.2.2.1, hX.2.2.2.2.2.2.2.2.2.2.2.2.2.2.2.2.2.2.1, hX.2.2.2.2.2.2.2.2.2.2.2.2.2.2.2.2.2.2.2.1, hX.2.2.2.2.2.2.2.2.2.2.2.2.2.2.2.2.2.2.2.2.1, hX.2.2.2.2.2.2.2.2.2.2.2.2.2.2.2.2.2.2.2.2.2.1, hX.2.2.2.2.2.2.2.2.2.2.2.2.2.2.2.2.2.2.2.2.2.2.1, hX.2.2.2.2.2.2.2.2.2.2.2.2.2.2.2.2.2.2.2.2.2.2.2.1, hX.2.2.2.2.2.2.2.2.2.2.2.2.2.2.2.2.2.2.2.2.2.2.2.2.1, hX.2.2.2.2.2.2.2.2.2.2.2.2.2.2.2.2.2.2.2.2.2.2.2.2.2.1, hX.2.2.2.2.2.2.2.2.2.2.2.2.2.2.2.2.2.2.2.2.2.2.2.2.2.2⟩ ⟨hM.1, hM.2.1, hM.2.2⟩ hR hP hD hS hl
  · refine behR (runVP (As := [.int 0]) (rest := []) ⟨hx, hb, hml, hown, ht⟩ (sX10_habit_0 l G cs h1 (Q 0) (F 0) (A 0) (B 0) (D 0) hX.1 (Q 4) (F 4) (A 4) (B 4) (D 4) hX.2.2.2.2.1 (Q 5) (F 5) (A 5) (B 5) (D 5) hX.2.2.2.2.2.1 (Q 12) (F 12) (A 12) (B 12) (D 12) hX.2.2.2.2.2.2.2.2.2.2.2.2.1) okV_RL_225 ⟨(Nat.le_of_ble_eq_true rfl), (Nat.le_of_ble_eq_true rfl)⟩ hK hP [0, 1, 2, 14, 15, 16, 17, 18, 19, 20, 21, 22, 23, 48, 49] rfl 0 rfl rfl hl.1 rfl (Nat.le_of_ble_eq_true rfl) dL_law_1663 ⟨(Nat.le_of_ble_eq_true rfl), (Nat.le_of_ble_eq_true rfl)⟩) hP hS (fun _ h => h) (fun r7 H locs hr7 hP hS => ?_)
    refine lv_pop hx hb dL_law_1666 rfl ?_
    refine lv_aload_n hx hb dL_law_1667 rfl (lv_at hl 1 rfl) ?_
    refine lv_aload_n hx hb dL_law_1668 rfl (lv_at hl 3 rfl) ?_
    refine lv_iload_n hx hb dL_law_1669 rfl (lv_at hl 0 rfl) ?_
    refine lv_iconst (v := 1) hx hb dL_law_1670 (by decide) ?_
    refine lv_iadd hx hb dL_law_1671 ?_
    refine va_sld hx hb hXs hbl hbA hS (inK t1 (by omega) (by omega)) dL_law_1672 ?_
    refine W.eq (g2 := F0 m 1673 ls [.int 0, .ref h2]) (by rw [← ea1]) ?_
    refine behR (runVP (As := [.int 0]) (rest := []) ⟨hx, hb, hml, hown, ht⟩ (sX11_habit l G cs h2 q2 MF MA MD MB hM.1 0) okV_RL_228 ⟨(Nat.le_of_ble_eq_true rfl), (Nat.le_of_ble_eq_true rfl)⟩ hK hP [101, 102, 103, 104, 105, 106, 107, 108, 109, 110, 111, 112, 113, 114, 115, 116, 117, 118, 119, 120] rfl 101 rfl rfl hl.1 rfl (Nat.le_of_ble_eq_true rfl) dL_law_1673 ⟨(Nat.le_of_ble_eq_true rfl), (Nat.le_of_ble_eq_true rfl)⟩) hP hS (fun _ h => h) (fun r8 H locs hr8 hP hS => ?_)
    refine lv_pop hx hb dL_law_1676 rfl ?_
    refine lv_goto (tgt := 2156) hx hb dL_law_1677 (by decide) ?_
    exact kk F A B D MF MA MD MB H locs ls ⟨hX.1, hX.2.1, hX.2.2.1, hX.2.2.2.1, hX.2.2.2.2.1, hX.2.2.2.2.2.1, hX.2.2.2.2.2.2.1, hX.2.2.2.2.2.2.2.1, hX.2.2.2.2.2.2.2.2.1, hX.2.2.2.2.2.2.2.2.2.1, hX.2.2.2.2.2.2.2.2.2.2.1, hX.2.2.2.2.2.2.2.2.2.2.2.1, hX.2.2.2.2.2.2.2.2.2.2.2.2.1, hX.2.2.2.2.2.2.2.2.2.2.2.2.2.1, hX.2.2.2.2.2.2.2.2.2.2.2.2.2.2.1, hX.2.2.2.2.2.2.2.2.2.2.2.2.2.2.2.1, hX.2.2.2.2.2.2.2.2.2.2.2.2.2.2.2.2.1, hX.2.2.2.2.2.2.2.2.2.2.2.2.2.2.2.2.2.1, hX.2.2.2.2.2.2.2.2.2.2.2.2.2.2.2.2.2.2.1, hX.2.2.2.2.2.2.2.2.2.2.2.2.2.2.2.2.2.2.2.1, hX.2.2.2.2.2.2.2.2.2.2.2.2.2.2.2.2.2.2.2.2.1, hX.2.2.2.2.2.2.2.2.2.2.2.2.2.2.2.2.2.2.2.2.2.1, hX.2.2.2.2.2.2.2.2.2.2.2.2.2.2.2.2.2.2.2.2.2.2.1, hX.2.2.2.2.2.2.2.2.2.2.2.2.2.2.2.2.2.2.2.2.2.2.2.1, hX.2.2.2.2.2.2.2.2.2.2.2.2.2.2.2.2.2.2.2.2.2.2.2.2.1, hX.2.2.2.2.2.2.2.2.2.2.2.2.2.2.2.2.2.2.2.2.2.2.2.2.2.1, hX.2.2.2.2.2.2.2.2.2.2.2.2.2.2.2.2.2.2.2.2.2.2.2.2.2.2⟩ ⟨hM.1, hM.2.1, hM.2.2⟩ hR hP hD hS hl
  · refine behR (runVP (As := [.int 1]) (rest := []) ⟨hx, hb, hml, hown, ht⟩ (sX10_habit_1 l G cs h1 (Q 0) (F 0) (A 0) (B 0) (D 0) hX.1 (Q 4) (F 4) (A 4) (B 4) (D 4) hX.2.2.2.2.1 (Q 5) (F 5) (A 5) (B 5) (D 5) hX.2.2.2.2.2.1 (Q 13) (F 13) (A 13) (B 13) (D 13) hX.2.2.2.2.2.2.2.2.2.2.2.2.2.1) okV_RL_225 ⟨(Nat.le_of_ble_eq_true rfl), (Nat.le_of_ble_eq_true rfl)⟩ hK hP [0, 1, 2, 14, 15, 16, 17, 18, 19, 20, 21, 22, 23, 50, 51] rfl 0 rfl rfl hl.1 rfl (Nat.le_of_ble_eq_true rfl) dL_law_1663 ⟨(Nat.le_of_ble_eq_true rfl), (Nat.le_of_ble_eq_true rfl)⟩) hP hS (fun _ h => h) (fun r9 H locs hr9 hP hS => ?_)
    refine lv_pop hx hb dL_law_1666 rfl ?_
    refine lv_aload_n hx hb dL_law_1667 rfl (lv_at hl 1 rfl) ?_
    refine lv_aload_n hx hb dL_law_1668 rfl (lv_at hl 3 rfl) ?_
    refine lv_iload_n hx hb dL_law_1669 rfl (lv_at hl 0 rfl) ?_
    refine lv_iconst (v := 1) hx hb dL_law_1670 (by decide) ?_
    refine lv_iadd hx hb dL_law_1671 ?_
    refine va_sld hx hb hXs hbl hbA hS (inK t1 (by omega) (by omega)) dL_law_1672 ?_
    refine W.eq (g2 := F0 m 1673 ls [.int 1, .ref h2]) (by rw [← ea1]) ?_
    refine behR (runVP (As := [.int 1]) (rest := []) ⟨hx, hb, hml, hown, ht⟩ (sX11_habit l G cs h2 q2 MF MA MD MB hM.1 1) okV_RL_228 ⟨(Nat.le_of_ble_eq_true rfl), (Nat.le_of_ble_eq_true rfl)⟩ hK hP [101, 102, 103, 104, 105, 106, 107, 108, 109, 110, 111, 112, 113, 114, 115, 116, 117, 118, 119, 120] rfl 101 rfl rfl hl.1 rfl (Nat.le_of_ble_eq_true rfl) dL_law_1673 ⟨(Nat.le_of_ble_eq_true rfl), (Nat.le_of_ble_eq_true rfl)⟩) hP hS (fun _ h => h) (fun r10 H locs hr10 hP hS => ?_)
    refine lv_pop hx hb dL_law_1676 rfl ?_
    refine lv_goto (tgt := 2156) hx hb dL_law_1677 (by decide) ?_
    exact kk F A B D MF MA MD MB H locs ls ⟨hX.1, hX.2.1, hX.2.2.1, hX.2.2.2.1, hX.2.2.2.2.1, hX.2.2.2.2.2.1, hX.2.2.2.2.2.2.1, hX.2.2.2.2.2.2.2.1, hX.2.2.2.2.2.2.2.2.1, hX.2.2.2.2.2.2.2.2.2.1, hX.2.2.2.2.2.2.2.2.2.2.1, hX.2.2.2.2.2.2.2.2.2.2.2.1, hX.2.2.2.2.2.2.2.2.2.2.2.2.1, hX.2.2.2.2.2.2.2.2.2.2.2.2.2.1, hX.2.2.2.2.2.2.2.2.2.2.2.2.2.2.1, hX.2.2.2.2.2.2.2.2.2.2.2.2.2.2.2.1, hX.2.2.2.2.2.2.2.2.2.2.2.2.2.2.2.2.1, hX.2.2.2.2.2.2.2.2.2.2.2.2.2.2.2.2.2.1, hX.2.2.2.2.2.2.2.2.2.2.2.2.2.2.2.2.2.2.1, hX.2.2.2.2.2.2.2.2.2.2.2.2.2.2.2.2.2.2.2.1, hX.2.2.2.2.2.2.2.2.2.2.2.2.2.2.2.2.2.2.2.2.1, hX.2.2.2.2.2.2.2.2.2.2.2.2.2.2.2.2.2.2.2.2.2.1, hX.2.2.2.2.2.2.2.2.2.2.2.2.2.2.2.2.2.2.2.2.2.2.1, hX.2.2.2.2.2.2.2.2.2.2.2.2.2.2.2.2.2.2.2.2.2.2.2.1, hX.2.2.2.2.2.2.2.2.2.2.2.2.2.2.2.2.2.2.2.2.2.2.2.2.1, hX.2.2.2.2.2.2.2.2.2.2.2.2.2.2.2.2.2.2.2.2.2.2.2.2.2.1, hX.2.2.2.2.2.2.2.2.2.2.2.2.2.2.2.2.2.2.2.2.2.2.2.2.2.2⟩ ⟨hM.1, hM.2.1, hM.2.2⟩ hR hP hD hS hl
  · refine behR (runVP (As := [.int 2]) (rest := []) ⟨hx, hb, hml, hown, ht⟩ (sX10_habit_2 l G cs h1 (Q 0) (F 0) (A 0) (B 0) (D 0) hX.1 (Q 4) (F 4) (A 4) (B 4) (D 4) hX.2.2.2.2.1 (Q 5) (F 5) (A 5) (B 5) (D 5) hX.2.2.2.2.2.1 (Q 14) (F 14) (A 14) (B 14) (D 14) hX.2.2.2.2.2.2.2.2.2.2.2.2.2.2.1) okV_RL_225 ⟨(Nat.le_of_ble_eq_true rfl), (Nat.le_of_ble_eq_true rfl)⟩ hK hP [0, 1, 2, 14, 15, 16, 17, 18, 19, 20, 21, 22, 23, 52, 53] rfl 0 rfl rfl hl.1 rfl (Nat.le_of_ble_eq_true rfl) dL_law_1663 ⟨(Nat.le_of_ble_eq_true rfl), (Nat.le_of_ble_eq_true rfl)⟩) hP hS (fun _ h => h) (fun r11 H locs hr11 hP hS => ?_)
    refine lv_pop hx hb dL_law_1666 rfl ?_
    refine lv_aload_n hx hb dL_law_1667 rfl (lv_at hl 1 rfl) ?_
    refine lv_aload_n hx hb dL_law_1668 rfl (lv_at hl 3 rfl) ?_
    refine lv_iload_n hx hb dL_law_1669 rfl (lv_at hl 0 rfl) ?_
    refine lv_iconst (v := 1) hx hb dL_law_1670 (by decide) ?_
    refine lv_iadd hx hb dL_law_1671 ?_
    refine va_sld hx hb hXs hbl hbA hS (inK t1 (by omega) (by omega)) dL_law_1672 ?_
    refine W.eq (g2 := F0 m 1673 ls [.int 2, .ref h2]) (by rw [← ea1]) ?_
    refine behR (runVP (As := [.int 2]) (rest := []) ⟨hx, hb, hml, hown, ht⟩ (sX11_habit l G cs h2 q2 MF MA MD MB hM.1 2) okV_RL_228 ⟨(Nat.le_of_ble_eq_true rfl), (Nat.le_of_ble_eq_true rfl)⟩ hK hP [101, 102, 103, 104, 105, 106, 107, 108, 109, 110, 111, 112, 113, 114, 115, 116, 117, 118, 119, 120] rfl 101 rfl rfl hl.1 rfl (Nat.le_of_ble_eq_true rfl) dL_law_1673 ⟨(Nat.le_of_ble_eq_true rfl), (Nat.le_of_ble_eq_true rfl)⟩) hP hS (fun _ h => h) (fun r12 H locs hr12 hP hS => ?_)
    refine lv_pop hx hb dL_law_1676 rfl ?_
    refine lv_goto (tgt := 2156) hx hb dL_law_1677 (by decide) ?_
    exact kk F A B D MF MA MD MB H locs ls ⟨hX.1, hX.2.1, hX.2.2.1, hX.2.2.2.1, hX.2.2.2.2.1, hX.2.2.2.2.2.1, hX.2.2.2.2.2.2.1, hX.2.2.2.2.2.2.2.1, hX.2.2.2.2.2.2.2.2.1, hX.2.2.2.2.2.2.2.2.2.1, hX.2.2.2.2.2.2.2.2.2.2.1, hX.2.2.2.2.2.2.2.2.2.2.2.1, hX.2.2.2.2.2.2.2.2.2.2.2.2.1, hX.2.2.2.2.2.2.2.2.2.2.2.2.2.1, hX.2.2.2.2.2.2.2.2.2.2.2.2.2.2.1, hX.2.2.2.2.2.2.2.2.2.2.2.2.2.2.2.1, hX.2.2.2.2.2.2.2.2.2.2.2.2.2.2.2.2.1, hX.2.2.2.2.2.2.2.2.2.2.2.2.2.2.2.2.2.1, hX.2.2.2.2.2.2.2.2.2.2.2.2.2.2.2.2.2.2.1, hX.2.2.2.2.2.2.2.2.2.2.2.2.2.2.2.2.2.2.2.1, hX.2.2.2.2.2.2.2.2.2.2.2.2.2.2.2.2.2.2.2.2.1, hX.2.2.2.2.2.2.2.2.2.2.2.2.2.2.2.2.2.2.2.2.2.1, hX.2.2.2.2.2.2.2.2.2.2.2.2.2.2.2.2.2.2.2.2.2.2.1, hX.2.2.2.2.2.2.2.2.2.2.2.2.2.2.2.2.2.2.2.2.2.2.2.1, hX.2.2.2.2.2.2.2.2.2.2.2.2.2.2.2.2.2.2.2.2.2.2.2.2.1, hX.2.2.2.2.2.2.2.2.2.2.2.2.2.2.2.2.2.2.2.2.2.2.2.2.2.1, hX.2.2.2.2.2.2.2.2.2.2.2.2.2.2.2.2.2.2.2.2.2.2.2.2.2.2⟩ ⟨hM.1, hM.2.1, hM.2.2⟩ hR hP hD hS hl
  · refine behR (runVP (As := [.int 3]) (rest := []) ⟨hx, hb, hml, hown, ht⟩ (sX10_habit_3 l G cs h1 (Q 0) (F 0) (A 0) (B 0) (D 0) hX.1 (Q 4) (F 4) (A 4) (B 4) (D 4) hX.2.2.2.2.1 (Q 5) (F 5) (A 5) (B 5) (D 5) hX.2.2.2.2.2.1 (Q 15) (F 15) (A 15) (B 15) (D 15) hX.2.2.2.2.2.2.2.2.2.2.2.2.2.2.2.1) okV_RL_225 ⟨(Nat.le_of_ble_eq_true rfl), (Nat.le_of_ble_eq_true rfl)⟩ hK hP [0, 1, 2, 14, 15, 16, 17, 18, 19, 20, 21, 22, 23, 54, 55] rfl 0 rfl rfl hl.1 rfl (Nat.le_of_ble_eq_true rfl) dL_law_1663 ⟨(Nat.le_of_ble_eq_true rfl), (Nat.le_of_ble_eq_true rfl)⟩) hP hS (fun _ h => h) (fun r13 H locs hr13 hP hS => ?_)
    refine lv_pop hx hb dL_law_1666 rfl ?_
    refine lv_aload_n hx hb dL_law_1667 rfl (lv_at hl 1 rfl) ?_
    refine lv_aload_n hx hb dL_law_1668 rfl (lv_at hl 3 rfl) ?_
    refine lv_iload_n hx hb dL_law_1669 rfl (lv_at hl 0 rfl) ?_
    refine lv_iconst (v := 1) hx hb dL_law_1670 (by decide) ?_
    refine lv_iadd hx hb dL_law_1671 ?_
    refine va_sld hx hb hXs hbl hbA hS (inK t1 (by omega) (by omega)) dL_law_1672 ?_
    refine W.eq (g2 := F0 m 1673 ls [.int 3, .ref h2]) (by rw [← ea1]) ?_
    refine behR (runVP (As := [.int 3]) (rest := []) ⟨hx, hb, hml, hown, ht⟩ (sX11_habit l G cs h2 q2 MF MA MD MB hM.1 3) okV_RL_228 ⟨(Nat.le_of_ble_eq_true rfl), (Nat.le_of_ble_eq_true rfl)⟩ hK hP [101, 102, 103, 104, 105, 106, 107, 108, 109, 110, 111, 112, 113, 114, 115, 116, 117, 118, 119, 120] rfl 101 rfl rfl hl.1 rfl (Nat.le_of_ble_eq_true rfl) dL_law_1673 ⟨(Nat.le_of_ble_eq_true rfl), (Nat.le_of_ble_eq_true rfl)⟩) hP hS (fun _ h => h) (fun r14 H locs hr14 hP hS => ?_)
    refine lv_pop hx hb dL_law_1676 rfl ?_
    refine lv_goto (tgt := 2156) hx hb dL_law_1677 (by decide) ?_
    exact kk F A B D MF MA MD MB H locs ls ⟨hX.1, hX.2.1, hX.2.2.1, hX.2.2.2.1, hX.2.2.2.2.1, hX.2.2.2.2.2.1, hX.2.2.2.2.2.2.1, hX.2.2.2.2.2.2.2.1, hX.2.2.2.2.2.2.2.2.1, hX.2.2.2.2.2.2.2.2.2.1, hX.2.2.2.2.2.2.2.2.2.2.1, hX.2.2.2.2.2.2.2.2.2.2.2.1, hX.2.2.2.2.2.2.2.2.2.2.2.2.1, hX.2.2.2.2.2.2.2.2.2.2.2.2.2.1, hX.2.2.2.2.2.2.2.2.2.2.2.2.2.2.1, hX.2.2.2.2.2.2.2.2.2.2.2.2.2.2.2.1, hX.2.2.2.2.2.2.2.2.2.2.2.2.2.2.2.2.1, hX.2.2.2.2.2.2.2.2.2.2.2.2.2.2.2.2.2.1, hX.2.2.2.2.2.2.2.2.2.2.2.2.2.2.2.2.2.2.1, hX.2.2.2.2.2.2.2.2.2.2.2.2.2.2.2.2.2.2.2.1, hX.2.2.2.2.2.2.2.2.2.2.2.2.2.2.2.2.2.2.2.2.1, hX.2.2.2.2.2.2.2.2.2.2.2.2.2.2.2.2.2.2.2.2.2.1, hX.2.2.2.2.2.2.2.2.2.2.2.2.2.2.2.2.2.2.2.2.2.2.1, hX.2.2.2.2.2.2.2.2.2.2.2.2.2.2.2.2.2.2.2.2.2.2.2.1, hX.2.2.2.2.2.2.2.2.2.2.2.2.2.2.2.2.2.2.2.2.2.2.2.2.1, hX.2.2.2.2.2.2.2.2.2.2.2.2.2.2.2.2.2.2.2.2.2.2.2.2.2.1, hX.2.2.2.2.2.2.2.2.2.2.2.2.2.2.2.2.2.2.2.2.2.2.2.2.2.2⟩ ⟨hM.1, hM.2.1, hM.2.2⟩ hR hP hD hS hl

