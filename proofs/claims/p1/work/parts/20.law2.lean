set_option maxRecDepth 100000 in
set_option maxHeartbeats 8000000 in
theorem law_16 {p : Program} {e : Env} {s : State} {m : MethodId} {below : List Frame} {meth : Method} {c : Code} (l : Launch) {b : Nat} {xs : Nat → Int32} {G : va_G} {cs : Nat → ClassId} {h1 h2 : Nat} {q1 q2 : Nat → Nat} {H : Heap} {locs : List Loc} {ls : Array Slot} (C0 : lw_At p s m meth c b 6 xs) (hK : KK G (TY cs) s) (hP : va_P G vwCl (xW cs h1 q1 ++ mW cs h2 q2) H) (hD : va_D (fun q : Nat => s.heap.size ≤ q) (xW cs h1 q1 ++ mW cs h2 q2)) (hS : va_S (fun q : Nat => s.heap.size ≤ q) s.heap H locs) (hl : lv_has ls 4 [(3, .int 0), (2, .ref h2), (1, .ref h1), (0, .ref b)]) : W p l e room_1 s m #[Value.ref b] below meth c H locs 121 26756 (lw_Z below #[Value.ref b] s) (F0 m 33 ls [.int 16]) := by
  obtain ⟨hx, hb, hr, hml, hown, hts, hX, hbl, hlocks, hgv⟩ := id C0
  have hown : s.vm.findClass RL = some m.cls := hown
  have ht : ∀ w ∈ tb, w.before #[Value.ref b] s = true := fun w h => hts w (List.mem_filter.mp h).1
  have hbA : ¬ (fun q : Nat => s.heap.size ≤ q) b := Nat.not_le.mpr hbl
  have hP := hP.sub (ws' := [(xc0 cs h1 q1), (xc12 cs h1 q1), (xc13 cs h1 q1), (mc0 cs h2 q2), (mc1 cs h2 q2)]) [0, 12, 13, 64, 65] rfl
  have hD := hD.sub (ws' := [(xc0 cs h1 q1), (xc12 cs h1 q1), (xc13 cs h1 q1), (mc0 cs h2 q2), (mc1 cs h2 q2)]) [0, 12, 13, 64, 65] (by decide) rfl
  refine lv_tableIn (off := 659) (tgt := 692) hx hb dL_law_33 (by decide) (by decide) (by decide) (by decide) ?_
  refine lv_aload_n hx hb dL_law_692 rfl (lv_at hl 2 rfl) ?_
  refine lv_aload_n hx hb dL_law_693 rfl (lv_at hl 3 rfl) ?_
  refine lv_iload_n hx hb dL_law_694 rfl (lv_at hl 0 rfl) ?_
  refine lv_iconst (v := 1) hx hb dL_law_695 (by decide) ?_
  refine lv_iadd hx hb dL_law_696 ?_
  refine lv_topi (fun v1 ev1 => ?_)
  obtain rfl : v1 = 1 := ev1.trans (by decide)
  refine va_sld hx hb hX hbl hbA hS (show ¬ (_ ∨ _) by decide) dL_law_697 ?_
  refine W.eq (g2 := F0 m 698 ls [.int (xs 1), .ref h1]) rfl ?_
  refine lv_aload_n hx hb dL_law_698 rfl (lv_at hl 3 rfl) ?_
  refine lv_iload_n hx hb dL_law_699 rfl (lv_at hl 0 rfl) ?_
  refine lv_iconst (v := 2) hx hb dL_law_700 (by decide) ?_
  refine lv_iadd hx hb dL_law_701 ?_
  refine lv_topi (fun v2 ev2 => ?_)
  obtain rfl : v2 = 2 := ev2.trans (by decide)
  refine va_sld hx hb hX hbl hbA hS (show ¬ (_ ∨ _) by decide) dL_law_702 ?_
  refine W.eq (g2 := F0 m 703 ls [.int (xs 2), .int (xs 1), .ref h1]) rfl ?_
  refine behI (runVP (As := [.int (xs 1), .int (xs 2)]) (rest := []) ⟨hx, hb, hml, hown, ht⟩ (pX10_later l G cs h1 q1 (xs 1) (xs 2)) okV_RL_81 ⟨(Nat.le_of_ble_eq_true rfl), (Nat.le_of_ble_eq_true rfl)⟩ hK hP [0, 1, 2] rfl 0 rfl rfl hl.1 rfl (Nat.le_of_ble_eq_true rfl) dL_law_703 ⟨(Nat.le_of_ble_eq_true rfl), (Nat.le_of_ble_eq_true rfl)⟩) hP hS (fun _ h => h) (fun H locs hP hS => ?_)
  refine lv_aload_n hx hb dL_law_706 rfl (lv_at hl 1 rfl) ?_
  refine lv_aload_n hx hb dL_law_707 rfl (lv_at hl 3 rfl) ?_
  refine lv_iload_n hx hb dL_law_708 rfl (lv_at hl 0 rfl) ?_
  refine lv_iconst (v := 1) hx hb dL_law_709 (by decide) ?_
  refine lv_iadd hx hb dL_law_710 ?_
  refine lv_topi (fun v3 ev3 => ?_)
  obtain rfl : v3 = 1 := ev3.trans (by decide)
  refine va_sld hx hb hX hbl hbA hS (show ¬ (_ ∨ _) by decide) dL_law_711 ?_
  refine W.eq (g2 := F0 m 712 ls [.int (xs 1), .ref h2, .int (-2)]) rfl ?_
  refine lv_aload_n hx hb dL_law_712 rfl (lv_at hl 3 rfl) ?_
  refine lv_iload_n hx hb dL_law_713 rfl (lv_at hl 0 rfl) ?_
  refine lv_iconst (v := 2) hx hb dL_law_714 (by decide) ?_
  refine lv_iadd hx hb dL_law_715 ?_
  refine lv_topi (fun v4 ev4 => ?_)
  obtain rfl : v4 = 2 := ev4.trans (by decide)
  refine va_sld hx hb hX hbl hbA hS (show ¬ (_ ∨ _) by decide) dL_law_716 ?_
  refine W.eq (g2 := F0 m 717 ls [.int (xs 2), .int (xs 1), .ref h2, .int (-2)]) rfl ?_
  refine behI (runVP (As := [.int (xs 1), .int (xs 2)]) (rest := [.int (-2)]) ⟨hx, hb, hml, hown, ht⟩ (pX11_later l G cs h2 q2 (xs 1) (xs 2)) okV_RL_84 ⟨(Nat.le_of_ble_eq_true rfl), (Nat.le_of_ble_eq_true rfl)⟩ hK hP [3, 4] rfl 3 rfl rfl hl.1 rfl (Nat.le_of_ble_eq_true rfl) dL_law_717 ⟨(Nat.le_of_ble_eq_true rfl), (Nat.le_of_ble_eq_true rfl)⟩) hP hS (fun _ h => h) (fun H locs hP hS => ?_)
  refine lv_icmp_eq (tgt := 2158) hx hb dL_law_720 (by decide) (fun c6 => ?_) (fun c5 => False.elim (by revert c5; decide))
  exact law_tail l C0 hS (lv_sub hl [0, 3] rfl) (Nat.le_of_ble_eq_true rfl) (Nat.le_of_ble_eq_true rfl)

set_option maxRecDepth 100000 in
set_option maxHeartbeats 8000000 in
theorem law_17 {p : Program} {e : Env} {s : State} {m : MethodId} {below : List Frame} {meth : Method} {c : Code} (l : Launch) {b : Nat} {xs : Nat → Int32} {G : va_G} {cs : Nat → ClassId} {h1 h2 : Nat} {q1 q2 : Nat → Nat} {H : Heap} {locs : List Loc} {ls : Array Slot} (C0 : lw_At p s m meth c b 6 xs) (hK : KK G (TY cs) s) (hP : va_P G vwCl (xW cs h1 q1 ++ mW cs h2 q2) H) (hD : va_D (fun q : Nat => s.heap.size ≤ q) (xW cs h1 q1 ++ mW cs h2 q2)) (hS : va_S (fun q : Nat => s.heap.size ≤ q) s.heap H locs) (hl : lv_has ls 4 [(3, .int 0), (2, .ref h2), (1, .ref h1), (0, .ref b)]) : W p l e room_1 s m #[Value.ref b] below meth c H locs 121 26756 (lw_Z below #[Value.ref b] s) (F0 m 33 ls [.int 17]) := by
  obtain ⟨hx, hb, hr, hml, hown, hts, hX, hbl, hlocks, hgv⟩ := id C0
  have hown : s.vm.findClass RL = some m.cls := hown
  have ht : ∀ w ∈ tb, w.before #[Value.ref b] s = true := fun w h => hts w (List.mem_filter.mp h).1
  have hbA : ¬ (fun q : Nat => s.heap.size ≤ q) b := Nat.not_le.mpr hbl
  have hP := hP.sub (ws' := [(xc0 cs h1 q1), (xc12 cs h1 q1), (xc13 cs h1 q1), (mc0 cs h2 q2), (mc1 cs h2 q2)]) [0, 12, 13, 64, 65] rfl
  have hD := hD.sub (ws' := [(xc0 cs h1 q1), (xc12 cs h1 q1), (xc13 cs h1 q1), (mc0 cs h2 q2), (mc1 cs h2 q2)]) [0, 12, 13, 64, 65] (by decide) rfl
  refine lv_tableIn (off := 692) (tgt := 725) hx hb dL_law_33 (by decide) (by decide) (by decide) (by decide) ?_
  refine lv_aload_n hx hb dL_law_725 rfl (lv_at hl 2 rfl) ?_
  refine lv_aload_n hx hb dL_law_726 rfl (lv_at hl 3 rfl) ?_
  refine lv_iload_n hx hb dL_law_727 rfl (lv_at hl 0 rfl) ?_
  refine lv_iconst (v := 1) hx hb dL_law_728 (by decide) ?_
  refine lv_iadd hx hb dL_law_729 ?_
  refine lv_topi (fun v1 ev1 => ?_)
  obtain rfl : v1 = 1 := ev1.trans (by decide)
  refine va_sld hx hb hX hbl hbA hS (show ¬ (_ ∨ _) by decide) dL_law_730 ?_
  refine W.eq (g2 := F0 m 731 ls [.int (xs 1), .ref h1]) rfl ?_
  refine behI (runVP (As := [.int (xs 1)]) (rest := []) ⟨hx, hb, hml, hown, ht⟩ (pX10_round l G cs h1 q1 (xs 1)) okV_RL_85 ⟨(Nat.le_of_ble_eq_true rfl), (Nat.le_of_ble_eq_true rfl)⟩ hK hP [0, 1, 2] rfl 0 rfl rfl hl.1 rfl (Nat.le_of_ble_eq_true rfl) dL_law_731 ⟨(Nat.le_of_ble_eq_true rfl), (Nat.le_of_ble_eq_true rfl)⟩) hP hS (fun _ h => h) (fun H locs hP hS => ?_)
  refine lv_aload_n hx hb dL_law_734 rfl (lv_at hl 1 rfl) ?_
  refine lv_aload_n hx hb dL_law_735 rfl (lv_at hl 3 rfl) ?_
  refine lv_iload_n hx hb dL_law_736 rfl (lv_at hl 0 rfl) ?_
  refine lv_iconst (v := 1) hx hb dL_law_737 (by decide) ?_
  refine lv_iadd hx hb dL_law_738 ?_
  refine lv_topi (fun v2 ev2 => ?_)
  obtain rfl : v2 = 1 := ev2.trans (by decide)
  refine va_sld hx hb hX hbl hbA hS (show ¬ (_ ∨ _) by decide) dL_law_739 ?_
  refine W.eq (g2 := F0 m 740 ls [.int (xs 1), .ref h2, .int (-2)]) rfl ?_
  refine behI (runVP (As := [.int (xs 1)]) (rest := [.int (-2)]) ⟨hx, hb, hml, hown, ht⟩ (pX11_round l G cs h2 q2 (xs 1)) okV_RL_88 ⟨(Nat.le_of_ble_eq_true rfl), (Nat.le_of_ble_eq_true rfl)⟩ hK hP [3, 4] rfl 3 rfl rfl hl.1 rfl (Nat.le_of_ble_eq_true rfl) dL_law_740 ⟨(Nat.le_of_ble_eq_true rfl), (Nat.le_of_ble_eq_true rfl)⟩) hP hS (fun _ h => h) (fun H locs hP hS => ?_)
  refine lv_icmp_eq (tgt := 2158) hx hb dL_law_743 (by decide) (fun c4 => ?_) (fun c3 => False.elim (by revert c3; decide))
  exact law_tail l C0 hS (lv_sub hl [0, 3] rfl) (Nat.le_of_ble_eq_true rfl) (Nat.le_of_ble_eq_true rfl)

set_option maxRecDepth 100000 in
set_option maxHeartbeats 8000000 in
theorem law_18 {p : Program} {e : Env} {s : State} {m : MethodId} {below : List Frame} {meth : Method} {c : Code} (l : Launch) {b : Nat} {xs : Nat → Int32} {G : va_G} {cs : Nat → ClassId} {h1 h2 : Nat} {q1 q2 : Nat → Nat} {H : Heap} {locs : List Loc} {ls : Array Slot} (C0 : lw_At p s m meth c b 6 xs) (hK : KK G (TY cs) s) (hP : va_P G vwCl (xW cs h1 q1 ++ mW cs h2 q2) H) (hD : va_D (fun q : Nat => s.heap.size ≤ q) (xW cs h1 q1 ++ mW cs h2 q2)) (hS : va_S (fun q : Nat => s.heap.size ≤ q) s.heap H locs) (hl : lv_has ls 4 [(3, .int 0), (2, .ref h2), (1, .ref h1), (0, .ref b)]) : W p l e room_1 s m #[Value.ref b] below meth c H locs 121 26756 (lw_Z below #[Value.ref b] s) (F0 m 33 ls [.int 18]) := by
  obtain ⟨hx, hb, hr, hml, hown, hts, hX, hbl, hlocks, hgv⟩ := id C0
  have hown : s.vm.findClass RL = some m.cls := hown
  have ht : ∀ w ∈ tb, w.before #[Value.ref b] s = true := fun w h => hts w (List.mem_filter.mp h).1
  have hbA : ¬ (fun q : Nat => s.heap.size ≤ q) b := Nat.not_le.mpr hbl
  have hP := hP.sub (ws' := [(xc0 cs h1 q1), (xc12 cs h1 q1), (xc13 cs h1 q1), (mc0 cs h2 q2), (mc1 cs h2 q2)]) [0, 12, 13, 64, 65] rfl
  have hD := hD.sub (ws' := [(xc0 cs h1 q1), (xc12 cs h1 q1), (xc13 cs h1 q1), (mc0 cs h2 q2), (mc1 cs h2 q2)]) [0, 12, 13, 64, 65] (by decide) rfl
  refine lv_tableIn (off := 715) (tgt := 748) hx hb dL_law_33 (by decide) (by decide) (by decide) (by decide) ?_
  refine lv_aload_n hx hb dL_law_748 rfl (lv_at hl 2 rfl) ?_
  refine lv_aload_n hx hb dL_law_749 rfl (lv_at hl 3 rfl) ?_
  refine lv_iload_n hx hb dL_law_750 rfl (lv_at hl 0 rfl) ?_
  refine lv_iconst (v := 1) hx hb dL_law_751 (by decide) ?_
  refine lv_iadd hx hb dL_law_752 ?_
  refine lv_topi (fun v1 ev1 => ?_)
  obtain rfl : v1 = 1 := ev1.trans (by decide)
  refine va_sld hx hb hX hbl hbA hS (show ¬ (_ ∨ _) by decide) dL_law_753 ?_
  refine W.eq (g2 := F0 m 754 ls [.int (xs 1), .ref h1]) rfl ?_
  refine lv_aload_n hx hb dL_law_754 rfl (lv_at hl 3 rfl) ?_
  refine lv_iload_n hx hb dL_law_755 rfl (lv_at hl 0 rfl) ?_
  refine lv_iconst (v := 2) hx hb dL_law_756 (by decide) ?_
  refine lv_iadd hx hb dL_law_757 ?_
  refine lv_topi (fun v2 ev2 => ?_)
  obtain rfl : v2 = 2 := ev2.trans (by decide)
  refine va_sld hx hb hX hbl hbA hS (show ¬ (_ ∨ _) by decide) dL_law_758 ?_
  refine W.eq (g2 := F0 m 759 ls [.int (xs 2), .int (xs 1), .ref h1]) rfl ?_
  refine behI (runVP (As := [.int (xs 1), .int (xs 2)]) (rest := []) ⟨hx, hb, hml, hown, ht⟩ (pX10_behind l G cs h1 q1 (xs 1) (xs 2)) okV_RL_89 ⟨(Nat.le_of_ble_eq_true rfl), (Nat.le_of_ble_eq_true rfl)⟩ hK hP [0, 1, 2] rfl 0 rfl rfl hl.1 rfl (Nat.le_of_ble_eq_true rfl) dL_law_759 ⟨(Nat.le_of_ble_eq_true rfl), (Nat.le_of_ble_eq_true rfl)⟩) hP hS (fun _ h => h) (fun H locs hP hS => ?_)
  refine lv_aload_n hx hb dL_law_762 rfl (lv_at hl 1 rfl) ?_
  refine lv_aload_n hx hb dL_law_763 rfl (lv_at hl 3 rfl) ?_
  refine lv_iload_n hx hb dL_law_764 rfl (lv_at hl 0 rfl) ?_
  refine lv_iconst (v := 1) hx hb dL_law_765 (by decide) ?_
  refine lv_iadd hx hb dL_law_766 ?_
  refine lv_topi (fun v3 ev3 => ?_)
  obtain rfl : v3 = 1 := ev3.trans (by decide)
  refine va_sld hx hb hX hbl hbA hS (show ¬ (_ ∨ _) by decide) dL_law_767 ?_
  refine W.eq (g2 := F0 m 768 ls [.int (xs 1), .ref h2, .int (-2)]) rfl ?_
  refine lv_aload_n hx hb dL_law_768 rfl (lv_at hl 3 rfl) ?_
  refine lv_iload_n hx hb dL_law_769 rfl (lv_at hl 0 rfl) ?_
  refine lv_iconst (v := 2) hx hb dL_law_770 (by decide) ?_
  refine lv_iadd hx hb dL_law_771 ?_
  refine lv_topi (fun v4 ev4 => ?_)
  obtain rfl : v4 = 2 := ev4.trans (by decide)
  refine va_sld hx hb hX hbl hbA hS (show ¬ (_ ∨ _) by decide) dL_law_772 ?_
  refine W.eq (g2 := F0 m 773 ls [.int (xs 2), .int (xs 1), .ref h2, .int (-2)]) rfl ?_
  refine behI (runVP (As := [.int (xs 1), .int (xs 2)]) (rest := [.int (-2)]) ⟨hx, hb, hml, hown, ht⟩ (pX11_behind l G cs h2 q2 (xs 1) (xs 2)) okV_RL_92 ⟨(Nat.le_of_ble_eq_true rfl), (Nat.le_of_ble_eq_true rfl)⟩ hK hP [3, 4] rfl 3 rfl rfl hl.1 rfl (Nat.le_of_ble_eq_true rfl) dL_law_773 ⟨(Nat.le_of_ble_eq_true rfl), (Nat.le_of_ble_eq_true rfl)⟩) hP hS (fun _ h => h) (fun H locs hP hS => ?_)
  refine lv_icmp_eq (tgt := 2158) hx hb dL_law_776 (by decide) (fun c6 => ?_) (fun c5 => False.elim (by revert c5; decide))
  exact law_tail l C0 hS (lv_sub hl [0, 3] rfl) (Nat.le_of_ble_eq_true rfl) (Nat.le_of_ble_eq_true rfl)

set_option maxRecDepth 100000 in
set_option maxHeartbeats 8000000 in
theorem law_19 {p : Program} {e : Env} {s : State} {m : MethodId} {below : List Frame} {meth : Method} {c : Code} (l : Launch) {b : Nat} {xs : Nat → Int32} {G : va_G} {cs : Nat → ClassId} {h1 h2 : Nat} {q1 q2 : Nat → Nat} {H : Heap} {locs : List Loc} {ls : Array Slot} (C0 : lw_At p s m meth c b 6 xs) (hK : KK G (TY cs) s) (hP : va_P G vwCl (xW cs h1 q1 ++ mW cs h2 q2) H) (hD : va_D (fun q : Nat => s.heap.size ≤ q) (xW cs h1 q1 ++ mW cs h2 q2)) (hS : va_S (fun q : Nat => s.heap.size ≤ q) s.heap H locs) (hl : lv_has ls 4 [(3, .int 0), (2, .ref h2), (1, .ref h1), (0, .ref b)]) : W p l e room_1 s m #[Value.ref b] below meth c H locs 121 26756 (lw_Z below #[Value.ref b] s) (F0 m 33 ls [.int 19]) := by
  obtain ⟨hx, hb, hr, hml, hown, hts, hX, hbl, hlocks, hgv⟩ := id C0
  have hown : s.vm.findClass RL = some m.cls := hown
  have ht : ∀ w ∈ tb, w.before #[Value.ref b] s = true := fun w h => hts w (List.mem_filter.mp h).1
  have hbA : ¬ (fun q : Nat => s.heap.size ≤ q) b := Nat.not_le.mpr hbl
  have hP := hP.sub (ws' := [(xc0 cs h1 q1), (xc12 cs h1 q1), (xc13 cs h1 q1), (mc0 cs h2 q2), (mc1 cs h2 q2)]) [0, 12, 13, 64, 65] rfl
  have hD := hD.sub (ws' := [(xc0 cs h1 q1), (xc12 cs h1 q1), (xc13 cs h1 q1), (mc0 cs h2 q2), (mc1 cs h2 q2)]) [0, 12, 13, 64, 65] (by decide) rfl
  refine lv_tableIn (off := 748) (tgt := 781) hx hb dL_law_33 (by decide) (by decide) (by decide) (by decide) ?_
  refine lv_aload_n hx hb dL_law_781 rfl (lv_at hl 2 rfl) ?_
  refine lv_aload_n hx hb dL_law_782 rfl (lv_at hl 3 rfl) ?_
  refine lv_iload_n hx hb dL_law_783 rfl (lv_at hl 0 rfl) ?_
  refine lv_iconst (v := 1) hx hb dL_law_784 (by decide) ?_
  refine lv_iadd hx hb dL_law_785 ?_
  refine lv_topi (fun v1 ev1 => ?_)
  obtain rfl : v1 = 1 := ev1.trans (by decide)
  refine va_sld hx hb hX hbl hbA hS (show ¬ (_ ∨ _) by decide) dL_law_786 ?_
  refine W.eq (g2 := F0 m 787 ls [.int (xs 1), .ref h1]) rfl ?_
  refine behI (runVP (As := [.int (xs 1)]) (rest := []) ⟨hx, hb, hml, hown, ht⟩ (pX10_disturbs l G cs h1 q1 (xs 1)) okV_RL_93 ⟨(Nat.le_of_ble_eq_true rfl), (Nat.le_of_ble_eq_true rfl)⟩ hK hP [0, 1, 2] rfl 0 rfl rfl hl.1 rfl (Nat.le_of_ble_eq_true rfl) dL_law_787 ⟨(Nat.le_of_ble_eq_true rfl), (Nat.le_of_ble_eq_true rfl)⟩) hP hS (fun _ h => h) (fun H locs hP hS => ?_)
  refine lv_aload_n hx hb dL_law_790 rfl (lv_at hl 1 rfl) ?_
  refine lv_aload_n hx hb dL_law_791 rfl (lv_at hl 3 rfl) ?_
  refine lv_iload_n hx hb dL_law_792 rfl (lv_at hl 0 rfl) ?_
  refine lv_iconst (v := 1) hx hb dL_law_793 (by decide) ?_
  refine lv_iadd hx hb dL_law_794 ?_
  refine lv_topi (fun v2 ev2 => ?_)
  obtain rfl : v2 = 1 := ev2.trans (by decide)
  refine va_sld hx hb hX hbl hbA hS (show ¬ (_ ∨ _) by decide) dL_law_795 ?_
  refine W.eq (g2 := F0 m 796 ls [.int (xs 1), .ref h2, .int (-2)]) rfl ?_
  refine behI (runVP (As := [.int (xs 1)]) (rest := [.int (-2)]) ⟨hx, hb, hml, hown, ht⟩ (pX11_disturbs l G cs h2 q2 (xs 1)) okV_RL_96 ⟨(Nat.le_of_ble_eq_true rfl), (Nat.le_of_ble_eq_true rfl)⟩ hK hP [3, 4] rfl 3 rfl rfl hl.1 rfl (Nat.le_of_ble_eq_true rfl) dL_law_796 ⟨(Nat.le_of_ble_eq_true rfl), (Nat.le_of_ble_eq_true rfl)⟩) hP hS (fun _ h => h) (fun H locs hP hS => ?_)
  refine lv_icmp_eq (tgt := 2158) hx hb dL_law_799 (by decide) (fun c4 => ?_) (fun c3 => False.elim (by revert c3; decide))
  exact law_tail l C0 hS (lv_sub hl [0, 3] rfl) (Nat.le_of_ble_eq_true rfl) (Nat.le_of_ble_eq_true rfl)

set_option maxRecDepth 100000 in
set_option maxHeartbeats 8000000 in
theorem law_20 {p : Program} {e : Env} {s : State} {m : MethodId} {below : List Frame} {meth : Method} {c : Code} (l : Launch) {b : Nat} {xs : Nat → Int32} {G : va_G} {cs : Nat → ClassId} {h1 h2 : Nat} {q1 q2 : Nat → Nat} {H : Heap} {locs : List Loc} {ls : Array Slot} (C0 : lw_At p s m meth c b 6 xs) (hK : KK G (TY cs) s) (hP : va_P G vwCl (xW cs h1 q1 ++ mW cs h2 q2) H) (hD : va_D (fun q : Nat => s.heap.size ≤ q) (xW cs h1 q1 ++ mW cs h2 q2)) (hS : va_S (fun q : Nat => s.heap.size ≤ q) s.heap H locs) (hl : lv_has ls 4 [(3, .int 0), (2, .ref h2), (1, .ref h1), (0, .ref b)]) : W p l e room_1 s m #[Value.ref b] below meth c H locs 121 26756 (lw_Z below #[Value.ref b] s) (F0 m 33 ls [.int 20]) := by
  obtain ⟨hx, hb, hr, hml, hown, hts, hX, hbl, hlocks, hgv⟩ := id C0
  have hown : s.vm.findClass RL = some m.cls := hown
  have ht : ∀ w ∈ tb, w.before #[Value.ref b] s = true := fun w h => hts w (List.mem_filter.mp h).1
  have hbA : ¬ (fun q : Nat => s.heap.size ≤ q) b := Nat.not_le.mpr hbl
  have hP := hP.sub (ws' := [(xc0 cs h1 q1), (xc12 cs h1 q1), (xc13 cs h1 q1), (mc0 cs h2 q2), (mc1 cs h2 q2)]) [0, 12, 13, 64, 65] rfl
  have hD := hD.sub (ws' := [(xc0 cs h1 q1), (xc12 cs h1 q1), (xc13 cs h1 q1), (mc0 cs h2 q2), (mc1 cs h2 q2)]) [0, 12, 13, 64, 65] (by decide) rfl
  refine lv_tableIn (off := 771) (tgt := 804) hx hb dL_law_33 (by decide) (by decide) (by decide) (by decide) ?_
  refine lv_aload_n hx hb dL_law_804 rfl (lv_at hl 2 rfl) ?_
  refine lv_aload_n hx hb dL_law_805 rfl (lv_at hl 3 rfl) ?_
  refine lv_iload_n hx hb dL_law_806 rfl (lv_at hl 0 rfl) ?_
  refine lv_iconst (v := 1) hx hb dL_law_807 (by decide) ?_
  refine lv_iadd hx hb dL_law_808 ?_
  refine lv_topi (fun v1 ev1 => ?_)
  obtain rfl : v1 = 1 := ev1.trans (by decide)
  refine va_sld hx hb hX hbl hbA hS (show ¬ (_ ∨ _) by decide) dL_law_809 ?_
  refine W.eq (g2 := F0 m 810 ls [.int (xs 1), .ref h1]) rfl ?_
  refine behI (runVP (As := [.int (xs 1)]) (rest := []) ⟨hx, hb, hml, hown, ht⟩ (pX10_gain l G cs h1 q1 (xs 1)) okV_RL_97 ⟨(Nat.le_of_ble_eq_true rfl), (Nat.le_of_ble_eq_true rfl)⟩ hK hP [0, 1, 2] rfl 0 rfl rfl hl.1 rfl (Nat.le_of_ble_eq_true rfl) dL_law_810 ⟨(Nat.le_of_ble_eq_true rfl), (Nat.le_of_ble_eq_true rfl)⟩) hP hS (fun _ h => h) (fun H locs hP hS => ?_)
  refine lv_aload_n hx hb dL_law_813 rfl (lv_at hl 1 rfl) ?_
  refine lv_aload_n hx hb dL_law_814 rfl (lv_at hl 3 rfl) ?_
  refine lv_iload_n hx hb dL_law_815 rfl (lv_at hl 0 rfl) ?_
  refine lv_iconst (v := 1) hx hb dL_law_816 (by decide) ?_
  refine lv_iadd hx hb dL_law_817 ?_
  refine lv_topi (fun v2 ev2 => ?_)
  obtain rfl : v2 = 1 := ev2.trans (by decide)
  refine va_sld hx hb hX hbl hbA hS (show ¬ (_ ∨ _) by decide) dL_law_818 ?_
  refine W.eq (g2 := F0 m 819 ls [.int (xs 1), .ref h2, .int (-2000000)]) rfl ?_
  refine behI (runVP (As := [.int (xs 1)]) (rest := [.int (-2000000)]) ⟨hx, hb, hml, hown, ht⟩ (pX11_gain l G cs h2 q2 (xs 1)) okV_RL_100 ⟨(Nat.le_of_ble_eq_true rfl), (Nat.le_of_ble_eq_true rfl)⟩ hK hP [3, 4] rfl 3 rfl rfl hl.1 rfl (Nat.le_of_ble_eq_true rfl) dL_law_819 ⟨(Nat.le_of_ble_eq_true rfl), (Nat.le_of_ble_eq_true rfl)⟩) hP hS (fun _ h => h) (fun H locs hP hS => ?_)
  refine lv_icmp_eq (tgt := 2158) hx hb dL_law_822 (by decide) (fun c4 => ?_) (fun c3 => False.elim (by revert c3; decide))
  exact law_tail l C0 hS (lv_sub hl [0, 3] rfl) (Nat.le_of_ble_eq_true rfl) (Nat.le_of_ble_eq_true rfl)

set_option maxRecDepth 100000 in
set_option maxHeartbeats 8000000 in
theorem law_21 {p : Program} {e : Env} {s : State} {m : MethodId} {below : List Frame} {meth : Method} {c : Code} (l : Launch) {b : Nat} {xs : Nat → Int32} {G : va_G} {cs : Nat → ClassId} {h1 h2 : Nat} {q1 q2 : Nat → Nat} {H : Heap} {locs : List Loc} {ls : Array Slot} (C0 : lw_At p s m meth c b 6 xs) (hK : KK G (TY cs) s) (hP : va_P G vwCl (xW cs h1 q1 ++ mW cs h2 q2) H) (hD : va_D (fun q : Nat => s.heap.size ≤ q) (xW cs h1 q1 ++ mW cs h2 q2)) (hS : va_S (fun q : Nat => s.heap.size ≤ q) s.heap H locs) (hl : lv_has ls 4 [(3, .int 0), (2, .ref h2), (1, .ref h1), (0, .ref b)]) : W p l e room_1 s m #[Value.ref b] below meth c H locs 121 26756 (lw_Z below #[Value.ref b] s) (F0 m 33 ls [.int 21]) := by
  obtain ⟨hx, hb, hr, hml, hown, hts, hX, hbl, hlocks, hgv⟩ := id C0
  have hown : s.vm.findClass RL = some m.cls := hown
  have ht : ∀ w ∈ tb, w.before #[Value.ref b] s = true := fun w h => hts w (List.mem_filter.mp h).1
  have hbA : ¬ (fun q : Nat => s.heap.size ≤ q) b := Nat.not_le.mpr hbl
  have hP := hP.sub (ws' := [(xc0 cs h1 q1), (xc12 cs h1 q1), (xc13 cs h1 q1), (mc0 cs h2 q2), (mc1 cs h2 q2)]) [0, 12, 13, 64, 65] rfl
  have hD := hD.sub (ws' := [(xc0 cs h1 q1), (xc12 cs h1 q1), (xc13 cs h1 q1), (mc0 cs h2 q2), (mc1 cs h2 q2)]) [0, 12, 13, 64, 65] (by decide) rfl
  refine lv_tableIn (off := 794) (tgt := 827) hx hb dL_law_33 (by decide) (by decide) (by decide) (by decide) ?_
  refine lv_aload_n hx hb dL_law_827 rfl (lv_at hl 2 rfl) ?_
  refine lv_aload_n hx hb dL_law_828 rfl (lv_at hl 3 rfl) ?_
  refine lv_iload_n hx hb dL_law_829 rfl (lv_at hl 0 rfl) ?_
  refine lv_iconst (v := 1) hx hb dL_law_830 (by decide) ?_
  refine lv_iadd hx hb dL_law_831 ?_
  refine lv_topi (fun v1 ev1 => ?_)
  obtain rfl : v1 = 1 := ev1.trans (by decide)
  refine va_sld hx hb hX hbl hbA hS (show ¬ (_ ∨ _) by decide) dL_law_832 ?_
  refine W.eq (g2 := F0 m 833 ls [.int (xs 1), .ref h1]) rfl ?_
  refine behI (runVP (As := [.int (xs 1)]) (rest := []) ⟨hx, hb, hml, hown, ht⟩ (pX10_stop l G cs h1 q1 (xs 1)) okV_RL_101 ⟨(Nat.le_of_ble_eq_true rfl), (Nat.le_of_ble_eq_true rfl)⟩ hK hP [0, 1, 2] rfl 0 rfl rfl hl.1 rfl (Nat.le_of_ble_eq_true rfl) dL_law_833 ⟨(Nat.le_of_ble_eq_true rfl), (Nat.le_of_ble_eq_true rfl)⟩) hP hS (fun _ h => h) (fun H locs hP hS => ?_)
  refine lv_aload_n hx hb dL_law_836 rfl (lv_at hl 1 rfl) ?_
  refine lv_aload_n hx hb dL_law_837 rfl (lv_at hl 3 rfl) ?_
  refine lv_iload_n hx hb dL_law_838 rfl (lv_at hl 0 rfl) ?_
  refine lv_iconst (v := 1) hx hb dL_law_839 (by decide) ?_
  refine lv_iadd hx hb dL_law_840 ?_
  refine lv_topi (fun v2 ev2 => ?_)
  obtain rfl : v2 = 1 := ev2.trans (by decide)
  refine va_sld hx hb hX hbl hbA hS (show ¬ (_ ∨ _) by decide) dL_law_841 ?_
  refine W.eq (g2 := F0 m 842 ls [.int (xs 1), .ref h2, .int (-2)]) rfl ?_
  refine behI (runVP (As := [.int (xs 1)]) (rest := [.int (-2)]) ⟨hx, hb, hml, hown, ht⟩ (pX11_stop l G cs h2 q2 (xs 1)) okV_RL_104 ⟨(Nat.le_of_ble_eq_true rfl), (Nat.le_of_ble_eq_true rfl)⟩ hK hP [3, 4] rfl 3 rfl rfl hl.1 rfl (Nat.le_of_ble_eq_true rfl) dL_law_842 ⟨(Nat.le_of_ble_eq_true rfl), (Nat.le_of_ble_eq_true rfl)⟩) hP hS (fun _ h => h) (fun H locs hP hS => ?_)
  refine lv_icmp_eq (tgt := 2158) hx hb dL_law_845 (by decide) (fun c4 => ?_) (fun c3 => False.elim (by revert c3; decide))
  exact law_tail l C0 hS (lv_sub hl [0, 3] rfl) (Nat.le_of_ble_eq_true rfl) (Nat.le_of_ble_eq_true rfl)

set_option maxRecDepth 100000 in
set_option maxHeartbeats 8000000 in
theorem law_22 {p : Program} {e : Env} {s : State} {m : MethodId} {below : List Frame} {meth : Method} {c : Code} (l : Launch) {b : Nat} {xs : Nat → Int32} {G : va_G} {cs : Nat → ClassId} {h1 h2 : Nat} {q1 q2 : Nat → Nat} {H : Heap} {locs : List Loc} {ls : Array Slot} (C0 : lw_At p s m meth c b 6 xs) (hK : KK G (TY cs) s) (hP : va_P G vwCl (xW cs h1 q1 ++ mW cs h2 q2) H) (hD : va_D (fun q : Nat => s.heap.size ≤ q) (xW cs h1 q1 ++ mW cs h2 q2)) (hS : va_S (fun q : Nat => s.heap.size ≤ q) s.heap H locs) (hl : lv_has ls 4 [(3, .int 0), (2, .ref h2), (1, .ref h1), (0, .ref b)]) : W p l e room_1 s m #[Value.ref b] below meth c H locs 121 26756 (lw_Z below #[Value.ref b] s) (F0 m 33 ls [.int 22]) := by
  obtain ⟨hx, hb, hr, hml, hown, hts, hX, hbl, hlocks, hgv⟩ := id C0
  have hown : s.vm.findClass RL = some m.cls := hown
  have ht : ∀ w ∈ tb, w.before #[Value.ref b] s = true := fun w h => hts w (List.mem_filter.mp h).1
  have hbA : ¬ (fun q : Nat => s.heap.size ≤ q) b := Nat.not_le.mpr hbl
  have hP := hP.sub (ws' := [(xc0 cs h1 q1), (xc12 cs h1 q1), (xc13 cs h1 q1), (mc0 cs h2 q2), (mc1 cs h2 q2)]) [0, 12, 13, 64, 65] rfl
  have hD := hD.sub (ws' := [(xc0 cs h1 q1), (xc12 cs h1 q1), (xc13 cs h1 q1), (mc0 cs h2 q2), (mc1 cs h2 q2)]) [0, 12, 13, 64, 65] (by decide) rfl
  refine lv_tableIn (off := 817) (tgt := 850) hx hb dL_law_33 (by decide) (by decide) (by decide) (by decide) ?_
  refine lv_aload_n hx hb dL_law_850 rfl (lv_at hl 2 rfl) ?_
  refine lv_aload_n hx hb dL_law_851 rfl (lv_at hl 3 rfl) ?_
  refine lv_iload_n hx hb dL_law_852 rfl (lv_at hl 0 rfl) ?_
  refine lv_iconst (v := 1) hx hb dL_law_853 (by decide) ?_
  refine lv_iadd hx hb dL_law_854 ?_
  refine lv_topi (fun v1 ev1 => ?_)
  obtain rfl : v1 = 1 := ev1.trans (by decide)
  refine va_sld hx hb hX hbl hbA hS (show ¬ (_ ∨ _) by decide) dL_law_855 ?_
  refine W.eq (g2 := F0 m 856 ls [.int (xs 1), .ref h1]) rfl ?_
  refine lv_aload_n hx hb dL_law_856 rfl (lv_at hl 3 rfl) ?_
  refine lv_iload_n hx hb dL_law_857 rfl (lv_at hl 0 rfl) ?_
  refine lv_iconst (v := 2) hx hb dL_law_858 (by decide) ?_
  refine lv_iadd hx hb dL_law_859 ?_
  refine lv_topi (fun v2 ev2 => ?_)
  obtain rfl : v2 = 2 := ev2.trans (by decide)
  refine va_sld hx hb hX hbl hbA hS (show ¬ (_ ∨ _) by decide) dL_law_860 ?_
  refine W.eq (g2 := F0 m 861 ls [.int (xs 2), .int (xs 1), .ref h1]) rfl ?_
  refine behI (runVP (As := [.int (xs 1), .int (xs 2)]) (rest := []) ⟨hx, hb, hml, hown, ht⟩ (pX10_doubt l G cs h1 q1 (xs 1) (xs 2)) okV_RL_105 ⟨(Nat.le_of_ble_eq_true rfl), (Nat.le_of_ble_eq_true rfl)⟩ hK hP [0, 1, 2] rfl 0 rfl rfl hl.1 rfl (Nat.le_of_ble_eq_true rfl) dL_law_861 ⟨(Nat.le_of_ble_eq_true rfl), (Nat.le_of_ble_eq_true rfl)⟩) hP hS (fun _ h => h) (fun H locs hP hS => ?_)
  refine lv_aload_n hx hb dL_law_864 rfl (lv_at hl 1 rfl) ?_
  refine lv_aload_n hx hb dL_law_865 rfl (lv_at hl 3 rfl) ?_
  refine lv_iload_n hx hb dL_law_866 rfl (lv_at hl 0 rfl) ?_
  refine lv_iconst (v := 1) hx hb dL_law_867 (by decide) ?_
  refine lv_iadd hx hb dL_law_868 ?_
  refine lv_topi (fun v3 ev3 => ?_)
  obtain rfl : v3 = 1 := ev3.trans (by decide)
  refine va_sld hx hb hX hbl hbA hS (show ¬ (_ ∨ _) by decide) dL_law_869 ?_
  refine W.eq (g2 := F0 m 870 ls [.int (xs 1), .ref h2, .int (-2)]) rfl ?_
  refine lv_aload_n hx hb dL_law_870 rfl (lv_at hl 3 rfl) ?_
  refine lv_iload_n hx hb dL_law_871 rfl (lv_at hl 0 rfl) ?_
  refine lv_iconst (v := 2) hx hb dL_law_872 (by decide) ?_
  refine lv_iadd hx hb dL_law_873 ?_
  refine lv_topi (fun v4 ev4 => ?_)
  obtain rfl : v4 = 2 := ev4.trans (by decide)
  refine va_sld hx hb hX hbl hbA hS (show ¬ (_ ∨ _) by decide) dL_law_874 ?_
  refine W.eq (g2 := F0 m 875 ls [.int (xs 2), .int (xs 1), .ref h2, .int (-2)]) rfl ?_
  refine behI (runVP (As := [.int (xs 1), .int (xs 2)]) (rest := [.int (-2)]) ⟨hx, hb, hml, hown, ht⟩ (pX11_doubt l G cs h2 q2 (xs 1) (xs 2)) okV_RL_108 ⟨(Nat.le_of_ble_eq_true rfl), (Nat.le_of_ble_eq_true rfl)⟩ hK hP [3, 4] rfl 3 rfl rfl hl.1 rfl (Nat.le_of_ble_eq_true rfl) dL_law_875 ⟨(Nat.le_of_ble_eq_true rfl), (Nat.le_of_ble_eq_true rfl)⟩) hP hS (fun _ h => h) (fun H locs hP hS => ?_)
  refine lv_icmp_eq (tgt := 2158) hx hb dL_law_878 (by decide) (fun c6 => ?_) (fun c5 => False.elim (by revert c5; decide))
  exact law_tail l C0 hS (lv_sub hl [0, 3] rfl) (Nat.le_of_ble_eq_true rfl) (Nat.le_of_ble_eq_true rfl)

set_option maxRecDepth 100000 in
set_option maxHeartbeats 8000000 in
theorem law_23 {p : Program} {e : Env} {s : State} {m : MethodId} {below : List Frame} {meth : Method} {c : Code} (l : Launch) {b : Nat} {xs : Nat → Int32} {G : va_G} {cs : Nat → ClassId} {h1 h2 : Nat} {q1 q2 : Nat → Nat} {H : Heap} {locs : List Loc} {ls : Array Slot} (C0 : lw_At p s m meth c b 6 xs) (hK : KK G (TY cs) s) (hP : va_P G vwCl (xW cs h1 q1 ++ mW cs h2 q2) H) (hD : va_D (fun q : Nat => s.heap.size ≤ q) (xW cs h1 q1 ++ mW cs h2 q2)) (hS : va_S (fun q : Nat => s.heap.size ≤ q) s.heap H locs) (hl : lv_has ls 4 [(3, .int 0), (2, .ref h2), (1, .ref h1), (0, .ref b)]) : W p l e room_1 s m #[Value.ref b] below meth c H locs 121 26756 (lw_Z below #[Value.ref b] s) (F0 m 33 ls [.int 23]) := by
  obtain ⟨hx, hb, hr, hml, hown, hts, hX, hbl, hlocks, hgv⟩ := id C0
  have hown : s.vm.findClass RL = some m.cls := hown
  have ht : ∀ w ∈ tb, w.before #[Value.ref b] s = true := fun w h => hts w (List.mem_filter.mp h).1
  have hbA : ¬ (fun q : Nat => s.heap.size ≤ q) b := Nat.not_le.mpr hbl
  have hP := hP.sub (ws' := [(xc0 cs h1 q1), (xc12 cs h1 q1), (xc13 cs h1 q1), (mc0 cs h2 q2), (mc1 cs h2 q2)]) [0, 12, 13, 64, 65] rfl
  have hD := hD.sub (ws' := [(xc0 cs h1 q1), (xc12 cs h1 q1), (xc13 cs h1 q1), (mc0 cs h2 q2), (mc1 cs h2 q2)]) [0, 12, 13, 64, 65] (by decide) rfl
  refine lv_tableIn (off := 850) (tgt := 883) hx hb dL_law_33 (by decide) (by decide) (by decide) (by decide) ?_
  refine lv_aload_n hx hb dL_law_883 rfl (lv_at hl 2 rfl) ?_
  refine lv_aload_n hx hb dL_law_884 rfl (lv_at hl 3 rfl) ?_
  refine lv_iload_n hx hb dL_law_885 rfl (lv_at hl 0 rfl) ?_
  refine lv_iconst (v := 1) hx hb dL_law_886 (by decide) ?_
  refine lv_iadd hx hb dL_law_887 ?_
  refine lv_topi (fun v1 ev1 => ?_)
  obtain rfl : v1 = 1 := ev1.trans (by decide)
  refine va_sld hx hb hX hbl hbA hS (show ¬ (_ ∨ _) by decide) dL_law_888 ?_
  refine W.eq (g2 := F0 m 889 ls [.int (xs 1), .ref h1]) rfl ?_
  refine lv_aload_n hx hb dL_law_889 rfl (lv_at hl 3 rfl) ?_
  refine lv_iload_n hx hb dL_law_890 rfl (lv_at hl 0 rfl) ?_
  refine lv_iconst (v := 2) hx hb dL_law_891 (by decide) ?_
  refine lv_iadd hx hb dL_law_892 ?_
  refine lv_topi (fun v2 ev2 => ?_)
  obtain rfl : v2 = 2 := ev2.trans (by decide)
  refine va_sld hx hb hX hbl hbA hS (show ¬ (_ ∨ _) by decide) dL_law_893 ?_
  refine W.eq (g2 := F0 m 894 ls [.int (xs 2), .int (xs 1), .ref h1]) rfl ?_
  refine behI (runVP (As := [.int (xs 1), .int (xs 2)]) (rest := []) ⟨hx, hb, hml, hown, ht⟩ (pX10_walks l G cs h1 q1 (xs 1) (xs 2)) okV_RL_109 ⟨(Nat.le_of_ble_eq_true rfl), (Nat.le_of_ble_eq_true rfl)⟩ hK hP [0, 1, 2] rfl 0 rfl rfl hl.1 rfl (Nat.le_of_ble_eq_true rfl) dL_law_894 ⟨(Nat.le_of_ble_eq_true rfl), (Nat.le_of_ble_eq_true rfl)⟩) hP hS (fun _ h => h) (fun H locs hP hS => ?_)
  refine lv_aload_n hx hb dL_law_897 rfl (lv_at hl 1 rfl) ?_
  refine lv_aload_n hx hb dL_law_898 rfl (lv_at hl 3 rfl) ?_
  refine lv_iload_n hx hb dL_law_899 rfl (lv_at hl 0 rfl) ?_
  refine lv_iconst (v := 1) hx hb dL_law_900 (by decide) ?_
  refine lv_iadd hx hb dL_law_901 ?_
  refine lv_topi (fun v3 ev3 => ?_)
  obtain rfl : v3 = 1 := ev3.trans (by decide)
  refine va_sld hx hb hX hbl hbA hS (show ¬ (_ ∨ _) by decide) dL_law_902 ?_
  refine W.eq (g2 := F0 m 903 ls [.int (xs 1), .ref h2, .int (-2)]) rfl ?_
  refine lv_aload_n hx hb dL_law_903 rfl (lv_at hl 3 rfl) ?_
  refine lv_iload_n hx hb dL_law_904 rfl (lv_at hl 0 rfl) ?_
  refine lv_iconst (v := 2) hx hb dL_law_905 (by decide) ?_
  refine lv_iadd hx hb dL_law_906 ?_
  refine lv_topi (fun v4 ev4 => ?_)
  obtain rfl : v4 = 2 := ev4.trans (by decide)
  refine va_sld hx hb hX hbl hbA hS (show ¬ (_ ∨ _) by decide) dL_law_907 ?_
  refine W.eq (g2 := F0 m 908 ls [.int (xs 2), .int (xs 1), .ref h2, .int (-2)]) rfl ?_
  refine behI (runVP (As := [.int (xs 1), .int (xs 2)]) (rest := [.int (-2)]) ⟨hx, hb, hml, hown, ht⟩ (pX11_walks l G cs h2 q2 (xs 1) (xs 2)) okV_RL_112 ⟨(Nat.le_of_ble_eq_true rfl), (Nat.le_of_ble_eq_true rfl)⟩ hK hP [3, 4] rfl 3 rfl rfl hl.1 rfl (Nat.le_of_ble_eq_true rfl) dL_law_908 ⟨(Nat.le_of_ble_eq_true rfl), (Nat.le_of_ble_eq_true rfl)⟩) hP hS (fun _ h => h) (fun H locs hP hS => ?_)
  refine lv_icmp_eq (tgt := 2158) hx hb dL_law_911 (by decide) (fun c6 => ?_) (fun c5 => False.elim (by revert c5; decide))
  exact law_tail l C0 hS (lv_sub hl [0, 3] rfl) (Nat.le_of_ble_eq_true rfl) (Nat.le_of_ble_eq_true rfl)

