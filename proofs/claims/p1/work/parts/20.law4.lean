set_option maxRecDepth 100000 in
set_option maxHeartbeats 8000000 in
theorem law_32 {p : Program} {e : Env} {s : State} {m : MethodId} {below : List Frame} {meth : Method} {c : Code} (l : Launch) {b : Nat} {xs : Nat → Int32} {G : va_G} {cs : Nat → ClassId} {h1 h2 : Nat} {q1 q2 : Nat → Nat} {H : Heap} {locs : List Loc} {ls : Array Slot} (C0 : lw_At p s m meth c b 6 xs) (hK : KK G (TY cs) s) (hP : va_P G vwCl (xW cs h1 q1 ++ mW cs h2 q2) H) (hD : va_D (fun q : Nat => s.heap.size ≤ q) (xW cs h1 q1 ++ mW cs h2 q2)) (hS : va_S (fun q : Nat => s.heap.size ≤ q) s.heap H locs) (hl : lv_has ls 4 [(3, .int 0), (2, .ref h2), (1, .ref h1), (0, .ref b)]) : W p l e room_1 s m #[Value.ref b] below meth c H locs 121 26756 (lw_Z below #[Value.ref b] s) (F0 m 33 ls [.int 32]) := by
  obtain ⟨hx, hb, hr, hml, hown, hts, hX, hbl, hlocks, hgv⟩ := id C0
  have hown : s.vm.findClass RL = some m.cls := hown
  have ht : ∀ w ∈ tb, w.before #[Value.ref b] s = true := fun w h => hts w (List.mem_filter.mp h).1
  have hbA : ¬ (fun q : Nat => s.heap.size ≤ q) b := Nat.not_le.mpr hbl
  have hP := hP.sub (ws' := [(xc0 cs h1 q1), (xc12 cs h1 q1), (xc13 cs h1 q1), (mc0 cs h2 q2), (mc1 cs h2 q2)]) [0, 12, 13, 64, 65] rfl
  have hD := hD.sub (ws' := [(xc0 cs h1 q1), (xc12 cs h1 q1), (xc13 cs h1 q1), (mc0 cs h2 q2), (mc1 cs h2 q2)]) [0, 12, 13, 64, 65] (by decide) rfl
  refine lv_tableIn (off := 1107) (tgt := 1140) hx hb dL_law_33 (by decide) (by decide) (by decide) (by decide) ?_
  refine lv_aload_n hx hb dL_law_1140 rfl (lv_at hl 2 rfl) ?_
  refine behI (runVP (As := []) (rest := []) ⟨hx, hb, hml, hown, ht⟩ (pX10_trumpet l G cs h1 q1 ) okV_RL_146 ⟨(Nat.le_of_ble_eq_true rfl), (Nat.le_of_ble_eq_true rfl)⟩ hK hP [0, 1, 2] rfl 0 rfl rfl hl.1 rfl (Nat.le_of_ble_eq_true rfl) dL_law_1141 ⟨(Nat.le_of_ble_eq_true rfl), (Nat.le_of_ble_eq_true rfl)⟩) hP hS (fun _ h => h) (fun H locs hP hS => ?_)
  refine lv_aload_n hx hb dL_law_1144 rfl (lv_at hl 1 rfl) ?_
  refine behI (runVP (As := []) (rest := [.int (-2)]) ⟨hx, hb, hml, hown, ht⟩ (pX11_trumpet l G cs h2 q2 ) okV_RL_149 ⟨(Nat.le_of_ble_eq_true rfl), (Nat.le_of_ble_eq_true rfl)⟩ hK hP [3, 4] rfl 3 rfl rfl hl.1 rfl (Nat.le_of_ble_eq_true rfl) dL_law_1145 ⟨(Nat.le_of_ble_eq_true rfl), (Nat.le_of_ble_eq_true rfl)⟩) hP hS (fun _ h => h) (fun H locs hP hS => ?_)
  refine lv_icmp_eq (tgt := 2158) hx hb dL_law_1148 (by decide) (fun c2 => ?_) (fun c1 => False.elim (by revert c1; decide))
  exact law_tail l C0 hS (lv_sub hl [0, 3] rfl) (Nat.le_of_ble_eq_true rfl) (Nat.le_of_ble_eq_true rfl)

set_option maxRecDepth 100000 in
set_option maxHeartbeats 8000000 in
theorem law_33 {p : Program} {e : Env} {s : State} {m : MethodId} {below : List Frame} {meth : Method} {c : Code} (l : Launch) {b : Nat} {xs : Nat → Int32} {G : va_G} {cs : Nat → ClassId} {h1 h2 : Nat} {q1 q2 : Nat → Nat} {H : Heap} {locs : List Loc} {ls : Array Slot} (C0 : lw_At p s m meth c b 6 xs) (hK : KK G (TY cs) s) (hP : va_P G vwCl (xW cs h1 q1 ++ mW cs h2 q2) H) (hD : va_D (fun q : Nat => s.heap.size ≤ q) (xW cs h1 q1 ++ mW cs h2 q2)) (hS : va_S (fun q : Nat => s.heap.size ≤ q) s.heap H locs) (hl : lv_has ls 4 [(3, .int 0), (2, .ref h2), (1, .ref h1), (0, .ref b)]) : W p l e room_1 s m #[Value.ref b] below meth c H locs 121 26756 (lw_Z below #[Value.ref b] s) (F0 m 33 ls [.int 33]) := by
  obtain ⟨hx, hb, hr, hml, hown, hts, hX, hbl, hlocks, hgv⟩ := id C0
  have hown : s.vm.findClass RL = some m.cls := hown
  have ht : ∀ w ∈ tb, w.before #[Value.ref b] s = true := fun w h => hts w (List.mem_filter.mp h).1
  have hbA : ¬ (fun q : Nat => s.heap.size ≤ q) b := Nat.not_le.mpr hbl
  have hP := hP.sub (ws' := [(xc0 cs h1 q1), (xc12 cs h1 q1), (xc13 cs h1 q1), (mc0 cs h2 q2), (mc1 cs h2 q2)]) [0, 12, 13, 64, 65] rfl
  have hD := hD.sub (ws' := [(xc0 cs h1 q1), (xc12 cs h1 q1), (xc13 cs h1 q1), (mc0 cs h2 q2), (mc1 cs h2 q2)]) [0, 12, 13, 64, 65] (by decide) rfl
  refine lv_tableIn (off := 1120) (tgt := 1153) hx hb dL_law_33 (by decide) (by decide) (by decide) (by decide) ?_
  refine lv_aload_n hx hb dL_law_1153 rfl (lv_at hl 2 rfl) ?_
  refine lv_aload_n hx hb dL_law_1154 rfl (lv_at hl 3 rfl) ?_
  refine lv_iload_n hx hb dL_law_1155 rfl (lv_at hl 0 rfl) ?_
  refine lv_iconst (v := 1) hx hb dL_law_1156 (by decide) ?_
  refine lv_iadd hx hb dL_law_1157 ?_
  refine lv_topi (fun v1 ev1 => ?_)
  obtain rfl : v1 = 1 := ev1.trans (by decide)
  refine va_sld hx hb hX hbl hbA hS (show ¬ (_ ∨ _) by decide) dL_law_1158 ?_
  refine W.eq (g2 := F0 m 1159 ls [.int (xs 1), .ref h1]) rfl ?_
  refine behI (runVP (As := [.int (xs 1)]) (rest := []) ⟨hx, hb, hml, hown, ht⟩ (pX10_quiet l G cs h1 q1 (xs 1)) okV_RL_150 ⟨(Nat.le_of_ble_eq_true rfl), (Nat.le_of_ble_eq_true rfl)⟩ hK hP [0, 1, 2] rfl 0 rfl rfl hl.1 rfl (Nat.le_of_ble_eq_true rfl) dL_law_1159 ⟨(Nat.le_of_ble_eq_true rfl), (Nat.le_of_ble_eq_true rfl)⟩) hP hS (fun _ h => h) (fun H locs hP hS => ?_)
  refine lv_aload_n hx hb dL_law_1162 rfl (lv_at hl 1 rfl) ?_
  refine lv_aload_n hx hb dL_law_1163 rfl (lv_at hl 3 rfl) ?_
  refine lv_iload_n hx hb dL_law_1164 rfl (lv_at hl 0 rfl) ?_
  refine lv_iconst (v := 1) hx hb dL_law_1165 (by decide) ?_
  refine lv_iadd hx hb dL_law_1166 ?_
  refine lv_topi (fun v2 ev2 => ?_)
  obtain rfl : v2 = 1 := ev2.trans (by decide)
  refine va_sld hx hb hX hbl hbA hS (show ¬ (_ ∨ _) by decide) dL_law_1167 ?_
  refine W.eq (g2 := F0 m 1168 ls [.int (xs 1), .ref h2, .int (-2)]) rfl ?_
  refine behI (runVP (As := [.int (xs 1)]) (rest := [.int (-2)]) ⟨hx, hb, hml, hown, ht⟩ (pX11_quiet l G cs h2 q2 (xs 1)) okV_RL_153 ⟨(Nat.le_of_ble_eq_true rfl), (Nat.le_of_ble_eq_true rfl)⟩ hK hP [3, 4] rfl 3 rfl rfl hl.1 rfl (Nat.le_of_ble_eq_true rfl) dL_law_1168 ⟨(Nat.le_of_ble_eq_true rfl), (Nat.le_of_ble_eq_true rfl)⟩) hP hS (fun _ h => h) (fun H locs hP hS => ?_)
  refine lv_icmp_eq (tgt := 2158) hx hb dL_law_1171 (by decide) (fun c4 => ?_) (fun c3 => False.elim (by revert c3; decide))
  exact law_tail l C0 hS (lv_sub hl [0, 3] rfl) (Nat.le_of_ble_eq_true rfl) (Nat.le_of_ble_eq_true rfl)

set_option maxRecDepth 100000 in
set_option maxHeartbeats 8000000 in
theorem law_34 {p : Program} {e : Env} {s : State} {m : MethodId} {below : List Frame} {meth : Method} {c : Code} (l : Launch) {b : Nat} {xs : Nat → Int32} {G : va_G} {cs : Nat → ClassId} {h1 h2 : Nat} {q1 q2 : Nat → Nat} {H : Heap} {locs : List Loc} {ls : Array Slot} (C0 : lw_At p s m meth c b 6 xs) (hK : KK G (TY cs) s) (hP : va_P G vwCl (xW cs h1 q1 ++ mW cs h2 q2) H) (hD : va_D (fun q : Nat => s.heap.size ≤ q) (xW cs h1 q1 ++ mW cs h2 q2)) (hS : va_S (fun q : Nat => s.heap.size ≤ q) s.heap H locs) (hl : lv_has ls 4 [(3, .int 0), (2, .ref h2), (1, .ref h1), (0, .ref b)]) : W p l e room_1 s m #[Value.ref b] below meth c H locs 121 26756 (lw_Z below #[Value.ref b] s) (F0 m 33 ls [.int 34]) := by
  obtain ⟨hx, hb, hr, hml, hown, hts, hX, hbl, hlocks, hgv⟩ := id C0
  have hown : s.vm.findClass RL = some m.cls := hown
  have ht : ∀ w ∈ tb, w.before #[Value.ref b] s = true := fun w h => hts w (List.mem_filter.mp h).1
  have hbA : ¬ (fun q : Nat => s.heap.size ≤ q) b := Nat.not_le.mpr hbl
  have hP := hP.sub (ws' := [(xc0 cs h1 q1), (xc12 cs h1 q1), (xc13 cs h1 q1), (mc0 cs h2 q2), (mc1 cs h2 q2)]) [0, 12, 13, 64, 65] rfl
  have hD := hD.sub (ws' := [(xc0 cs h1 q1), (xc12 cs h1 q1), (xc13 cs h1 q1), (mc0 cs h2 q2), (mc1 cs h2 q2)]) [0, 12, 13, 64, 65] (by decide) rfl
  refine lv_tableIn (off := 1143) (tgt := 1176) hx hb dL_law_33 (by decide) (by decide) (by decide) (by decide) ?_
  refine lv_aload_n hx hb dL_law_1176 rfl (lv_at hl 2 rfl) ?_
  refine lv_aload_n hx hb dL_law_1177 rfl (lv_at hl 3 rfl) ?_
  refine lv_iload_n hx hb dL_law_1178 rfl (lv_at hl 0 rfl) ?_
  refine lv_iconst (v := 1) hx hb dL_law_1179 (by decide) ?_
  refine lv_iadd hx hb dL_law_1180 ?_
  refine lv_topi (fun v1 ev1 => ?_)
  obtain rfl : v1 = 1 := ev1.trans (by decide)
  refine va_sld hx hb hX hbl hbA hS (show ¬ (_ ∨ _) by decide) dL_law_1181 ?_
  refine W.eq (g2 := F0 m 1182 ls [.int (xs 1), .ref h1]) rfl ?_
  refine behI (runVP (As := [.int (xs 1)]) (rest := []) ⟨hx, hb, hml, hown, ht⟩ (pX10_quietly l G cs h1 q1 (xs 1)) okV_RL_154 ⟨(Nat.le_of_ble_eq_true rfl), (Nat.le_of_ble_eq_true rfl)⟩ hK hP [0, 1, 2] rfl 0 rfl rfl hl.1 rfl (Nat.le_of_ble_eq_true rfl) dL_law_1182 ⟨(Nat.le_of_ble_eq_true rfl), (Nat.le_of_ble_eq_true rfl)⟩) hP hS (fun _ h => h) (fun H locs hP hS => ?_)
  refine lv_aload_n hx hb dL_law_1185 rfl (lv_at hl 1 rfl) ?_
  refine lv_aload_n hx hb dL_law_1186 rfl (lv_at hl 3 rfl) ?_
  refine lv_iload_n hx hb dL_law_1187 rfl (lv_at hl 0 rfl) ?_
  refine lv_iconst (v := 1) hx hb dL_law_1188 (by decide) ?_
  refine lv_iadd hx hb dL_law_1189 ?_
  refine lv_topi (fun v2 ev2 => ?_)
  obtain rfl : v2 = 1 := ev2.trans (by decide)
  refine va_sld hx hb hX hbl hbA hS (show ¬ (_ ∨ _) by decide) dL_law_1190 ?_
  refine W.eq (g2 := F0 m 1191 ls [.int (xs 1), .ref h2, .int (-2)]) rfl ?_
  refine behI (runVP (As := [.int (xs 1)]) (rest := [.int (-2)]) ⟨hx, hb, hml, hown, ht⟩ (pX11_quietly l G cs h2 q2 (xs 1)) okV_RL_157 ⟨(Nat.le_of_ble_eq_true rfl), (Nat.le_of_ble_eq_true rfl)⟩ hK hP [3, 4] rfl 3 rfl rfl hl.1 rfl (Nat.le_of_ble_eq_true rfl) dL_law_1191 ⟨(Nat.le_of_ble_eq_true rfl), (Nat.le_of_ble_eq_true rfl)⟩) hP hS (fun _ h => h) (fun H locs hP hS => ?_)
  refine lv_icmp_eq (tgt := 2158) hx hb dL_law_1194 (by decide) (fun c4 => ?_) (fun c3 => False.elim (by revert c3; decide))
  exact law_tail l C0 hS (lv_sub hl [0, 3] rfl) (Nat.le_of_ble_eq_true rfl) (Nat.le_of_ble_eq_true rfl)

set_option maxRecDepth 100000 in
set_option maxHeartbeats 8000000 in
theorem law_35 {p : Program} {e : Env} {s : State} {m : MethodId} {below : List Frame} {meth : Method} {c : Code} (l : Launch) {b : Nat} {xs : Nat → Int32} {G : va_G} {cs : Nat → ClassId} {h1 h2 : Nat} {q1 q2 : Nat → Nat} {H : Heap} {locs : List Loc} {ls : Array Slot} (C0 : lw_At p s m meth c b 6 xs) (hK : KK G (TY cs) s) (hP : va_P G vwCl (xW cs h1 q1 ++ mW cs h2 q2) H) (hD : va_D (fun q : Nat => s.heap.size ≤ q) (xW cs h1 q1 ++ mW cs h2 q2)) (hS : va_S (fun q : Nat => s.heap.size ≤ q) s.heap H locs) (hl : lv_has ls 4 [(3, .int 0), (2, .ref h2), (1, .ref h1), (0, .ref b)]) : W p l e room_1 s m #[Value.ref b] below meth c H locs 121 26756 (lw_Z below #[Value.ref b] s) (F0 m 33 ls [.int 35]) := by
  obtain ⟨hx, hb, hr, hml, hown, hts, hX, hbl, hlocks, hgv⟩ := id C0
  have hown : s.vm.findClass RL = some m.cls := hown
  have ht : ∀ w ∈ tb, w.before #[Value.ref b] s = true := fun w h => hts w (List.mem_filter.mp h).1
  have hbA : ¬ (fun q : Nat => s.heap.size ≤ q) b := Nat.not_le.mpr hbl
  have hP := hP.sub (ws' := [(xc0 cs h1 q1), (xc12 cs h1 q1), (xc13 cs h1 q1), (mc0 cs h2 q2), (mc1 cs h2 q2)]) [0, 12, 13, 64, 65] rfl
  have hD := hD.sub (ws' := [(xc0 cs h1 q1), (xc12 cs h1 q1), (xc13 cs h1 q1), (mc0 cs h2 q2), (mc1 cs h2 q2)]) [0, 12, 13, 64, 65] (by decide) rfl
  refine lv_tableIn (off := 1166) (tgt := 1199) hx hb dL_law_33 (by decide) (by decide) (by decide) (by decide) ?_
  refine lv_aload_n hx hb dL_law_1199 rfl (lv_at hl 2 rfl) ?_
  refine lv_aload_n hx hb dL_law_1200 rfl (lv_at hl 3 rfl) ?_
  refine lv_iload_n hx hb dL_law_1201 rfl (lv_at hl 0 rfl) ?_
  refine lv_iconst (v := 1) hx hb dL_law_1202 (by decide) ?_
  refine lv_iadd hx hb dL_law_1203 ?_
  refine lv_topi (fun v1 ev1 => ?_)
  obtain rfl : v1 = 1 := ev1.trans (by decide)
  refine va_sld hx hb hX hbl hbA hS (show ¬ (_ ∨ _) by decide) dL_law_1204 ?_
  refine W.eq (g2 := F0 m 1205 ls [.int (xs 1), .ref h1]) rfl ?_
  refine lv_aload_n hx hb dL_law_1205 rfl (lv_at hl 3 rfl) ?_
  refine lv_iload_n hx hb dL_law_1206 rfl (lv_at hl 0 rfl) ?_
  refine lv_iconst (v := 2) hx hb dL_law_1207 (by decide) ?_
  refine lv_iadd hx hb dL_law_1208 ?_
  refine lv_topi (fun v2 ev2 => ?_)
  obtain rfl : v2 = 2 := ev2.trans (by decide)
  refine va_sld hx hb hX hbl hbA hS (show ¬ (_ ∨ _) by decide) dL_law_1209 ?_
  refine W.eq (g2 := F0 m 1210 ls [.int (xs 2), .int (xs 1), .ref h1]) rfl ?_
  refine behI (runVP (As := [.int (xs 1), .int (xs 2)]) (rest := []) ⟨hx, hb, hml, hown, ht⟩ (pX10_card l G cs h1 q1 (xs 1) (xs 2)) okV_RL_158 ⟨(Nat.le_of_ble_eq_true rfl), (Nat.le_of_ble_eq_true rfl)⟩ hK hP [0, 1, 2] rfl 0 rfl rfl hl.1 rfl (Nat.le_of_ble_eq_true rfl) dL_law_1210 ⟨(Nat.le_of_ble_eq_true rfl), (Nat.le_of_ble_eq_true rfl)⟩) hP hS (fun _ h => h) (fun H locs hP hS => ?_)
  refine lv_aload_n hx hb dL_law_1213 rfl (lv_at hl 1 rfl) ?_
  refine lv_aload_n hx hb dL_law_1214 rfl (lv_at hl 3 rfl) ?_
  refine lv_iload_n hx hb dL_law_1215 rfl (lv_at hl 0 rfl) ?_
  refine lv_iconst (v := 1) hx hb dL_law_1216 (by decide) ?_
  refine lv_iadd hx hb dL_law_1217 ?_
  refine lv_topi (fun v3 ev3 => ?_)
  obtain rfl : v3 = 1 := ev3.trans (by decide)
  refine va_sld hx hb hX hbl hbA hS (show ¬ (_ ∨ _) by decide) dL_law_1218 ?_
  refine W.eq (g2 := F0 m 1219 ls [.int (xs 1), .ref h2, .int (-2)]) rfl ?_
  refine lv_aload_n hx hb dL_law_1219 rfl (lv_at hl 3 rfl) ?_
  refine lv_iload_n hx hb dL_law_1220 rfl (lv_at hl 0 rfl) ?_
  refine lv_iconst (v := 2) hx hb dL_law_1221 (by decide) ?_
  refine lv_iadd hx hb dL_law_1222 ?_
  refine lv_topi (fun v4 ev4 => ?_)
  obtain rfl : v4 = 2 := ev4.trans (by decide)
  refine va_sld hx hb hX hbl hbA hS (show ¬ (_ ∨ _) by decide) dL_law_1223 ?_
  refine W.eq (g2 := F0 m 1224 ls [.int (xs 2), .int (xs 1), .ref h2, .int (-2)]) rfl ?_
  refine behI (runVP (As := [.int (xs 1), .int (xs 2)]) (rest := [.int (-2)]) ⟨hx, hb, hml, hown, ht⟩ (pX11_card l G cs h2 q2 (xs 1) (xs 2)) okV_RL_161 ⟨(Nat.le_of_ble_eq_true rfl), (Nat.le_of_ble_eq_true rfl)⟩ hK hP [3, 4] rfl 3 rfl rfl hl.1 rfl (Nat.le_of_ble_eq_true rfl) dL_law_1224 ⟨(Nat.le_of_ble_eq_true rfl), (Nat.le_of_ble_eq_true rfl)⟩) hP hS (fun _ h => h) (fun H locs hP hS => ?_)
  refine lv_icmp_eq (tgt := 2158) hx hb dL_law_1227 (by decide) (fun c6 => ?_) (fun c5 => False.elim (by revert c5; decide))
  exact law_tail l C0 hS (lv_sub hl [0, 3] rfl) (Nat.le_of_ble_eq_true rfl) (Nat.le_of_ble_eq_true rfl)

set_option maxRecDepth 100000 in
set_option maxHeartbeats 8000000 in
theorem law_36 {p : Program} {e : Env} {s : State} {m : MethodId} {below : List Frame} {meth : Method} {c : Code} (l : Launch) {b : Nat} {xs : Nat → Int32} {G : va_G} {cs : Nat → ClassId} {h1 h2 : Nat} {q1 q2 : Nat → Nat} {H : Heap} {locs : List Loc} {ls : Array Slot} (C0 : lw_At p s m meth c b 6 xs) (hK : KK G (TY cs) s) (hP : va_P G vwCl (xW cs h1 q1 ++ mW cs h2 q2) H) (hD : va_D (fun q : Nat => s.heap.size ≤ q) (xW cs h1 q1 ++ mW cs h2 q2)) (hS : va_S (fun q : Nat => s.heap.size ≤ q) s.heap H locs) (hl : lv_has ls 4 [(3, .int 0), (2, .ref h2), (1, .ref h1), (0, .ref b)]) : W p l e room_1 s m #[Value.ref b] below meth c H locs 121 26756 (lw_Z below #[Value.ref b] s) (F0 m 33 ls [.int 36]) := by
  obtain ⟨hx, hb, hr, hml, hown, hts, hX, hbl, hlocks, hgv⟩ := id C0
  have hown : s.vm.findClass RL = some m.cls := hown
  have ht : ∀ w ∈ tb, w.before #[Value.ref b] s = true := fun w h => hts w (List.mem_filter.mp h).1
  have hbA : ¬ (fun q : Nat => s.heap.size ≤ q) b := Nat.not_le.mpr hbl
  have hP := hP.sub (ws' := [(xc0 cs h1 q1), (xc12 cs h1 q1), (xc13 cs h1 q1), (mc0 cs h2 q2), (mc1 cs h2 q2)]) [0, 12, 13, 64, 65] rfl
  have hD := hD.sub (ws' := [(xc0 cs h1 q1), (xc12 cs h1 q1), (xc13 cs h1 q1), (mc0 cs h2 q2), (mc1 cs h2 q2)]) [0, 12, 13, 64, 65] (by decide) rfl
  refine lv_tableIn (off := 1199) (tgt := 1232) hx hb dL_law_33 (by decide) (by decide) (by decide) (by decide) ?_
  refine lv_aload_n hx hb dL_law_1232 rfl (lv_at hl 2 rfl) ?_
  refine lv_aload_n hx hb dL_law_1233 rfl (lv_at hl 3 rfl) ?_
  refine lv_iload_n hx hb dL_law_1234 rfl (lv_at hl 0 rfl) ?_
  refine lv_iconst (v := 1) hx hb dL_law_1235 (by decide) ?_
  refine lv_iadd hx hb dL_law_1236 ?_
  refine lv_topi (fun v1 ev1 => ?_)
  obtain rfl : v1 = 1 := ev1.trans (by decide)
  refine va_sld hx hb hX hbl hbA hS (show ¬ (_ ∨ _) by decide) dL_law_1237 ?_
  refine W.eq (g2 := F0 m 1238 ls [.int (xs 1), .ref h1]) rfl ?_
  refine behI (runVP (As := [.int (xs 1)]) (rest := []) ⟨hx, hb, hml, hown, ht⟩ (pX10_desk l G cs h1 q1 (xs 1)) okV_RL_162 ⟨(Nat.le_of_ble_eq_true rfl), (Nat.le_of_ble_eq_true rfl)⟩ hK hP [0, 1, 2] rfl 0 rfl rfl hl.1 rfl (Nat.le_of_ble_eq_true rfl) dL_law_1238 ⟨(Nat.le_of_ble_eq_true rfl), (Nat.le_of_ble_eq_true rfl)⟩) hP hS (fun _ h => h) (fun H locs hP hS => ?_)
  refine lv_aload_n hx hb dL_law_1241 rfl (lv_at hl 1 rfl) ?_
  refine lv_aload_n hx hb dL_law_1242 rfl (lv_at hl 3 rfl) ?_
  refine lv_iload_n hx hb dL_law_1243 rfl (lv_at hl 0 rfl) ?_
  refine lv_iconst (v := 1) hx hb dL_law_1244 (by decide) ?_
  refine lv_iadd hx hb dL_law_1245 ?_
  refine lv_topi (fun v2 ev2 => ?_)
  obtain rfl : v2 = 1 := ev2.trans (by decide)
  refine va_sld hx hb hX hbl hbA hS (show ¬ (_ ∨ _) by decide) dL_law_1246 ?_
  refine W.eq (g2 := F0 m 1247 ls [.int (xs 1), .ref h2, .int (-2)]) rfl ?_
  refine behI (runVP (As := [.int (xs 1)]) (rest := [.int (-2)]) ⟨hx, hb, hml, hown, ht⟩ (pX11_desk l G cs h2 q2 (xs 1)) okV_RL_165 ⟨(Nat.le_of_ble_eq_true rfl), (Nat.le_of_ble_eq_true rfl)⟩ hK hP [3, 4] rfl 3 rfl rfl hl.1 rfl (Nat.le_of_ble_eq_true rfl) dL_law_1247 ⟨(Nat.le_of_ble_eq_true rfl), (Nat.le_of_ble_eq_true rfl)⟩) hP hS (fun _ h => h) (fun H locs hP hS => ?_)
  refine lv_icmp_eq (tgt := 2158) hx hb dL_law_1250 (by decide) (fun c4 => ?_) (fun c3 => False.elim (by revert c3; decide))
  exact law_tail l C0 hS (lv_sub hl [0, 3] rfl) (Nat.le_of_ble_eq_true rfl) (Nat.le_of_ble_eq_true rfl)

set_option maxRecDepth 100000 in
set_option maxHeartbeats 8000000 in
theorem law_37 {p : Program} {e : Env} {s : State} {m : MethodId} {below : List Frame} {meth : Method} {c : Code} (l : Launch) {b : Nat} {xs : Nat → Int32} {G : va_G} {cs : Nat → ClassId} {h1 h2 : Nat} {q1 q2 : Nat → Nat} {H : Heap} {locs : List Loc} {ls : Array Slot} (C0 : lw_At p s m meth c b 6 xs) (hK : KK G (TY cs) s) (hP : va_P G vwCl (xW cs h1 q1 ++ mW cs h2 q2) H) (hD : va_D (fun q : Nat => s.heap.size ≤ q) (xW cs h1 q1 ++ mW cs h2 q2)) (hS : va_S (fun q : Nat => s.heap.size ≤ q) s.heap H locs) (hl : lv_has ls 4 [(3, .int 0), (2, .ref h2), (1, .ref h1), (0, .ref b)]) : W p l e room_1 s m #[Value.ref b] below meth c H locs 121 26756 (lw_Z below #[Value.ref b] s) (F0 m 33 ls [.int 37]) := by
  obtain ⟨hx, hb, hr, hml, hown, hts, hX, hbl, hlocks, hgv⟩ := id C0
  have hown : s.vm.findClass RL = some m.cls := hown
  have ht : ∀ w ∈ tb, w.before #[Value.ref b] s = true := fun w h => hts w (List.mem_filter.mp h).1
  have hbA : ¬ (fun q : Nat => s.heap.size ≤ q) b := Nat.not_le.mpr hbl
  have hP := hP.sub (ws' := [(xc0 cs h1 q1), (xc12 cs h1 q1), (xc13 cs h1 q1), (mc0 cs h2 q2), (mc1 cs h2 q2)]) [0, 12, 13, 64, 65] rfl
  have hD := hD.sub (ws' := [(xc0 cs h1 q1), (xc12 cs h1 q1), (xc13 cs h1 q1), (mc0 cs h2 q2), (mc1 cs h2 q2)]) [0, 12, 13, 64, 65] (by decide) rfl
  refine lv_tableIn (off := 1222) (tgt := 1255) hx hb dL_law_33 (by decide) (by decide) (by decide) (by decide) ?_
  refine lv_aload_n hx hb dL_law_1255 rfl (lv_at hl 2 rfl) ?_
  refine lv_aload_n hx hb dL_law_1256 rfl (lv_at hl 3 rfl) ?_
  refine lv_iload_n hx hb dL_law_1257 rfl (lv_at hl 0 rfl) ?_
  refine lv_iconst (v := 1) hx hb dL_law_1258 (by decide) ?_
  refine lv_iadd hx hb dL_law_1259 ?_
  refine lv_topi (fun v1 ev1 => ?_)
  obtain rfl : v1 = 1 := ev1.trans (by decide)
  refine va_sld hx hb hX hbl hbA hS (show ¬ (_ ∨ _) by decide) dL_law_1260 ?_
  refine W.eq (g2 := F0 m 1261 ls [.int (xs 1), .ref h1]) rfl ?_
  refine behI (runVP (As := [.int (xs 1)]) (rest := []) ⟨hx, hb, hml, hown, ht⟩ (pX10_one l G cs h1 q1 (xs 1)) okV_RL_166 ⟨(Nat.le_of_ble_eq_true rfl), (Nat.le_of_ble_eq_true rfl)⟩ hK hP [0, 1, 2] rfl 0 rfl rfl hl.1 rfl (Nat.le_of_ble_eq_true rfl) dL_law_1261 ⟨(Nat.le_of_ble_eq_true rfl), (Nat.le_of_ble_eq_true rfl)⟩) hP hS (fun _ h => h) (fun H locs hP hS => ?_)
  refine lv_aload_n hx hb dL_law_1264 rfl (lv_at hl 1 rfl) ?_
  refine lv_aload_n hx hb dL_law_1265 rfl (lv_at hl 3 rfl) ?_
  refine lv_iload_n hx hb dL_law_1266 rfl (lv_at hl 0 rfl) ?_
  refine lv_iconst (v := 1) hx hb dL_law_1267 (by decide) ?_
  refine lv_iadd hx hb dL_law_1268 ?_
  refine lv_topi (fun v2 ev2 => ?_)
  obtain rfl : v2 = 1 := ev2.trans (by decide)
  refine va_sld hx hb hX hbl hbA hS (show ¬ (_ ∨ _) by decide) dL_law_1269 ?_
  refine W.eq (g2 := F0 m 1270 ls [.int (xs 1), .ref h2, .int (-2)]) rfl ?_
  refine behI (runVP (As := [.int (xs 1)]) (rest := [.int (-2)]) ⟨hx, hb, hml, hown, ht⟩ (pX11_one l G cs h2 q2 (xs 1)) okV_RL_169 ⟨(Nat.le_of_ble_eq_true rfl), (Nat.le_of_ble_eq_true rfl)⟩ hK hP [3, 4] rfl 3 rfl rfl hl.1 rfl (Nat.le_of_ble_eq_true rfl) dL_law_1270 ⟨(Nat.le_of_ble_eq_true rfl), (Nat.le_of_ble_eq_true rfl)⟩) hP hS (fun _ h => h) (fun H locs hP hS => ?_)
  refine lv_icmp_eq (tgt := 2158) hx hb dL_law_1273 (by decide) (fun c4 => ?_) (fun c3 => False.elim (by revert c3; decide))
  exact law_tail l C0 hS (lv_sub hl [0, 3] rfl) (Nat.le_of_ble_eq_true rfl) (Nat.le_of_ble_eq_true rfl)

set_option maxRecDepth 100000 in
set_option maxHeartbeats 8000000 in
theorem law_38 {p : Program} {e : Env} {s : State} {m : MethodId} {below : List Frame} {meth : Method} {c : Code} (l : Launch) {b : Nat} {xs : Nat → Int32} {G : va_G} {cs : Nat → ClassId} {h1 h2 : Nat} {q1 q2 : Nat → Nat} {H : Heap} {locs : List Loc} {ls : Array Slot} (C0 : lw_At p s m meth c b 6 xs) (hK : KK G (TY cs) s) (hP : va_P G vwCl (xW cs h1 q1 ++ mW cs h2 q2) H) (hD : va_D (fun q : Nat => s.heap.size ≤ q) (xW cs h1 q1 ++ mW cs h2 q2)) (hS : va_S (fun q : Nat => s.heap.size ≤ q) s.heap H locs) (hl : lv_has ls 4 [(3, .int 0), (2, .ref h2), (1, .ref h1), (0, .ref b)]) : W p l e room_1 s m #[Value.ref b] below meth c H locs 121 26756 (lw_Z below #[Value.ref b] s) (F0 m 33 ls [.int 38]) := by
  obtain ⟨hx, hb, hr, hml, hown, hts, hX, hbl, hlocks, hgv⟩ := id C0
  have hown : s.vm.findClass RL = some m.cls := hown
  have ht : ∀ w ∈ tb, w.before #[Value.ref b] s = true := fun w h => hts w (List.mem_filter.mp h).1
  have hbA : ¬ (fun q : Nat => s.heap.size ≤ q) b := Nat.not_le.mpr hbl
  have hP := hP.sub (ws' := [(xc0 cs h1 q1), (xc12 cs h1 q1), (xc13 cs h1 q1), (mc0 cs h2 q2), (mc1 cs h2 q2)]) [0, 12, 13, 64, 65] rfl
  have hD := hD.sub (ws' := [(xc0 cs h1 q1), (xc12 cs h1 q1), (xc13 cs h1 q1), (mc0 cs h2 q2), (mc1 cs h2 q2)]) [0, 12, 13, 64, 65] (by decide) rfl
  refine lv_tableIn (off := 1245) (tgt := 1278) hx hb dL_law_33 (by decide) (by decide) (by decide) (by decide) ?_
  refine lv_aload_n hx hb dL_law_1278 rfl (lv_at hl 2 rfl) ?_
  refine lv_aload_n hx hb dL_law_1279 rfl (lv_at hl 3 rfl) ?_
  refine lv_iload_n hx hb dL_law_1280 rfl (lv_at hl 0 rfl) ?_
  refine lv_iconst (v := 1) hx hb dL_law_1281 (by decide) ?_
  refine lv_iadd hx hb dL_law_1282 ?_
  refine lv_topi (fun v1 ev1 => ?_)
  obtain rfl : v1 = 1 := ev1.trans (by decide)
  refine va_sld hx hb hX hbl hbA hS (show ¬ (_ ∨ _) by decide) dL_law_1283 ?_
  refine W.eq (g2 := F0 m 1284 ls [.int (xs 1), .ref h1]) rfl ?_
  refine lv_aload_n hx hb dL_law_1284 rfl (lv_at hl 3 rfl) ?_
  refine lv_iload_n hx hb dL_law_1285 rfl (lv_at hl 0 rfl) ?_
  refine lv_iconst (v := 2) hx hb dL_law_1286 (by decide) ?_
  refine lv_iadd hx hb dL_law_1287 ?_
  refine lv_topi (fun v2 ev2 => ?_)
  obtain rfl : v2 = 2 := ev2.trans (by decide)
  refine va_sld hx hb hX hbl hbA hS (show ¬ (_ ∨ _) by decide) dL_law_1288 ?_
  refine W.eq (g2 := F0 m 1289 ls [.int (xs 2), .int (xs 1), .ref h1]) rfl ?_
  refine behI (runVP (As := [.int (xs 1), .int (xs 2)]) (rest := []) ⟨hx, hb, hml, hown, ht⟩ (pX10_two l G cs h1 q1 (xs 1) (xs 2)) okV_RL_170 ⟨(Nat.le_of_ble_eq_true rfl), (Nat.le_of_ble_eq_true rfl)⟩ hK hP [0, 1, 2] rfl 0 rfl rfl hl.1 rfl (Nat.le_of_ble_eq_true rfl) dL_law_1289 ⟨(Nat.le_of_ble_eq_true rfl), (Nat.le_of_ble_eq_true rfl)⟩) hP hS (fun _ h => h) (fun H locs hP hS => ?_)
  refine lv_aload_n hx hb dL_law_1292 rfl (lv_at hl 1 rfl) ?_
  refine lv_aload_n hx hb dL_law_1293 rfl (lv_at hl 3 rfl) ?_
  refine lv_iload_n hx hb dL_law_1294 rfl (lv_at hl 0 rfl) ?_
  refine lv_iconst (v := 1) hx hb dL_law_1295 (by decide) ?_
  refine lv_iadd hx hb dL_law_1296 ?_
  refine lv_topi (fun v3 ev3 => ?_)
  obtain rfl : v3 = 1 := ev3.trans (by decide)
  refine va_sld hx hb hX hbl hbA hS (show ¬ (_ ∨ _) by decide) dL_law_1297 ?_
  refine W.eq (g2 := F0 m 1298 ls [.int (xs 1), .ref h2, .int (-2)]) rfl ?_
  refine lv_aload_n hx hb dL_law_1298 rfl (lv_at hl 3 rfl) ?_
  refine lv_iload_n hx hb dL_law_1299 rfl (lv_at hl 0 rfl) ?_
  refine lv_iconst (v := 2) hx hb dL_law_1300 (by decide) ?_
  refine lv_iadd hx hb dL_law_1301 ?_
  refine lv_topi (fun v4 ev4 => ?_)
  obtain rfl : v4 = 2 := ev4.trans (by decide)
  refine va_sld hx hb hX hbl hbA hS (show ¬ (_ ∨ _) by decide) dL_law_1302 ?_
  refine W.eq (g2 := F0 m 1303 ls [.int (xs 2), .int (xs 1), .ref h2, .int (-2)]) rfl ?_
  refine behI (runVP (As := [.int (xs 1), .int (xs 2)]) (rest := [.int (-2)]) ⟨hx, hb, hml, hown, ht⟩ (pX11_two l G cs h2 q2 (xs 1) (xs 2)) okV_RL_173 ⟨(Nat.le_of_ble_eq_true rfl), (Nat.le_of_ble_eq_true rfl)⟩ hK hP [3, 4] rfl 3 rfl rfl hl.1 rfl (Nat.le_of_ble_eq_true rfl) dL_law_1303 ⟨(Nat.le_of_ble_eq_true rfl), (Nat.le_of_ble_eq_true rfl)⟩) hP hS (fun _ h => h) (fun H locs hP hS => ?_)
  refine lv_icmp_eq (tgt := 2158) hx hb dL_law_1306 (by decide) (fun c6 => ?_) (fun c5 => False.elim (by revert c5; decide))
  exact law_tail l C0 hS (lv_sub hl [0, 3] rfl) (Nat.le_of_ble_eq_true rfl) (Nat.le_of_ble_eq_true rfl)

set_option maxRecDepth 100000 in
set_option maxHeartbeats 8000000 in
theorem law_39 {p : Program} {e : Env} {s : State} {m : MethodId} {below : List Frame} {meth : Method} {c : Code} (l : Launch) {b : Nat} {xs : Nat → Int32} {G : va_G} {cs : Nat → ClassId} {h1 h2 : Nat} {q1 q2 : Nat → Nat} {H : Heap} {locs : List Loc} {ls : Array Slot} (C0 : lw_At p s m meth c b 6 xs) (hK : KK G (TY cs) s) (hP : va_P G vwCl (xW cs h1 q1 ++ mW cs h2 q2) H) (hD : va_D (fun q : Nat => s.heap.size ≤ q) (xW cs h1 q1 ++ mW cs h2 q2)) (hS : va_S (fun q : Nat => s.heap.size ≤ q) s.heap H locs) (hl : lv_has ls 4 [(3, .int 0), (2, .ref h2), (1, .ref h1), (0, .ref b)]) : W p l e room_1 s m #[Value.ref b] below meth c H locs 121 26756 (lw_Z below #[Value.ref b] s) (F0 m 33 ls [.int 39]) := by
  obtain ⟨hx, hb, hr, hml, hown, hts, hX, hbl, hlocks, hgv⟩ := id C0
  have hown : s.vm.findClass RL = some m.cls := hown
  have ht : ∀ w ∈ tb, w.before #[Value.ref b] s = true := fun w h => hts w (List.mem_filter.mp h).1
  have hbA : ¬ (fun q : Nat => s.heap.size ≤ q) b := Nat.not_le.mpr hbl
  have hP := hP.sub (ws' := [(xc0 cs h1 q1), (xc12 cs h1 q1), (xc13 cs h1 q1), (mc0 cs h2 q2), (mc1 cs h2 q2)]) [0, 12, 13, 64, 65] rfl
  have hD := hD.sub (ws' := [(xc0 cs h1 q1), (xc12 cs h1 q1), (xc13 cs h1 q1), (mc0 cs h2 q2), (mc1 cs h2 q2)]) [0, 12, 13, 64, 65] (by decide) rfl
  refine lv_tableIn (off := 1278) (tgt := 1311) hx hb dL_law_33 (by decide) (by decide) (by decide) (by decide) ?_
  refine lv_aload_n hx hb dL_law_1311 rfl (lv_at hl 2 rfl) ?_
  refine lv_aload_n hx hb dL_law_1312 rfl (lv_at hl 3 rfl) ?_
  refine lv_iload_n hx hb dL_law_1313 rfl (lv_at hl 0 rfl) ?_
  refine lv_iconst (v := 1) hx hb dL_law_1314 (by decide) ?_
  refine lv_iadd hx hb dL_law_1315 ?_
  refine lv_topi (fun v1 ev1 => ?_)
  obtain rfl : v1 = 1 := ev1.trans (by decide)
  refine va_sld hx hb hX hbl hbA hS (show ¬ (_ ∨ _) by decide) dL_law_1316 ?_
  refine W.eq (g2 := F0 m 1317 ls [.int (xs 1), .ref h1]) rfl ?_
  refine lv_aload_n hx hb dL_law_1317 rfl (lv_at hl 3 rfl) ?_
  refine lv_iload_n hx hb dL_law_1318 rfl (lv_at hl 0 rfl) ?_
  refine lv_iconst (v := 2) hx hb dL_law_1319 (by decide) ?_
  refine lv_iadd hx hb dL_law_1320 ?_
  refine lv_topi (fun v2 ev2 => ?_)
  obtain rfl : v2 = 2 := ev2.trans (by decide)
  refine va_sld hx hb hX hbl hbA hS (show ¬ (_ ∨ _) by decide) dL_law_1321 ?_
  refine W.eq (g2 := F0 m 1322 ls [.int (xs 2), .int (xs 1), .ref h1]) rfl ?_
  refine lv_aload_n hx hb dL_law_1322 rfl (lv_at hl 3 rfl) ?_
  refine lv_iload_n hx hb dL_law_1323 rfl (lv_at hl 0 rfl) ?_
  refine lv_iconst (v := 3) hx hb dL_law_1324 (by decide) ?_
  refine lv_iadd hx hb dL_law_1325 ?_
  refine lv_topi (fun v3 ev3 => ?_)
  obtain rfl : v3 = 3 := ev3.trans (by decide)
  refine va_sld hx hb hX hbl hbA hS (show ¬ (_ ∨ _) by decide) dL_law_1326 ?_
  refine W.eq (g2 := F0 m 1327 ls [.int (xs 3), .int (xs 2), .int (xs 1), .ref h1]) rfl ?_
  refine lv_aload_n hx hb dL_law_1327 rfl (lv_at hl 3 rfl) ?_
  refine lv_iload_n hx hb dL_law_1328 rfl (lv_at hl 0 rfl) ?_
  refine lv_iconst (v := 4) hx hb dL_law_1329 (by decide) ?_
  refine lv_iadd hx hb dL_law_1330 ?_
  refine lv_topi (fun v4 ev4 => ?_)
  obtain rfl : v4 = 4 := ev4.trans (by decide)
  refine va_sld hx hb hX hbl hbA hS (show ¬ (_ ∨ _) by decide) dL_law_1331 ?_
  refine W.eq (g2 := F0 m 1332 ls [.int (xs 4), .int (xs 3), .int (xs 2), .int (xs 1), .ref h1]) rfl ?_
  refine behI (runVP (As := [.int (xs 1), .int (xs 2), .int (xs 3), .int (xs 4)]) (rest := []) ⟨hx, hb, hml, hown, ht⟩ (pX10_way l G cs h1 q1 (xs 1) (xs 2) (xs 3) (xs 4)) okV_RL_174 ⟨(Nat.le_of_ble_eq_true rfl), (Nat.le_of_ble_eq_true rfl)⟩ hK hP [0, 1, 2] rfl 0 rfl rfl hl.1 rfl (Nat.le_of_ble_eq_true rfl) dL_law_1332 ⟨(Nat.le_of_ble_eq_true rfl), (Nat.le_of_ble_eq_true rfl)⟩) hP hS (fun _ h => h) (fun H locs hP hS => ?_)
  refine lv_aload_n hx hb dL_law_1335 rfl (lv_at hl 1 rfl) ?_
  refine lv_aload_n hx hb dL_law_1336 rfl (lv_at hl 3 rfl) ?_
  refine lv_iload_n hx hb dL_law_1337 rfl (lv_at hl 0 rfl) ?_
  refine lv_iconst (v := 1) hx hb dL_law_1338 (by decide) ?_
  refine lv_iadd hx hb dL_law_1339 ?_
  refine lv_topi (fun v5 ev5 => ?_)
  obtain rfl : v5 = 1 := ev5.trans (by decide)
  refine va_sld hx hb hX hbl hbA hS (show ¬ (_ ∨ _) by decide) dL_law_1340 ?_
  refine W.eq (g2 := F0 m 1341 ls [.int (xs 1), .ref h2, .int (-2)]) rfl ?_
  refine lv_aload_n hx hb dL_law_1341 rfl (lv_at hl 3 rfl) ?_
  refine lv_iload_n hx hb dL_law_1342 rfl (lv_at hl 0 rfl) ?_
  refine lv_iconst (v := 2) hx hb dL_law_1343 (by decide) ?_
  refine lv_iadd hx hb dL_law_1344 ?_
  refine lv_topi (fun v6 ev6 => ?_)
  obtain rfl : v6 = 2 := ev6.trans (by decide)
  refine va_sld hx hb hX hbl hbA hS (show ¬ (_ ∨ _) by decide) dL_law_1345 ?_
  refine W.eq (g2 := F0 m 1346 ls [.int (xs 2), .int (xs 1), .ref h2, .int (-2)]) rfl ?_
  refine lv_aload_n hx hb dL_law_1346 rfl (lv_at hl 3 rfl) ?_
  refine lv_iload_n hx hb dL_law_1347 rfl (lv_at hl 0 rfl) ?_
  refine lv_iconst (v := 3) hx hb dL_law_1348 (by decide) ?_
  refine lv_iadd hx hb dL_law_1349 ?_
  refine lv_topi (fun v7 ev7 => ?_)
  obtain rfl : v7 = 3 := ev7.trans (by decide)
  refine va_sld hx hb hX hbl hbA hS (show ¬ (_ ∨ _) by decide) dL_law_1350 ?_
  refine W.eq (g2 := F0 m 1351 ls [.int (xs 3), .int (xs 2), .int (xs 1), .ref h2, .int (-2)]) rfl ?_
  refine lv_aload_n hx hb dL_law_1351 rfl (lv_at hl 3 rfl) ?_
  refine lv_iload_n hx hb dL_law_1352 rfl (lv_at hl 0 rfl) ?_
  refine lv_iconst (v := 4) hx hb dL_law_1353 (by decide) ?_
  refine lv_iadd hx hb dL_law_1354 ?_
  refine lv_topi (fun v8 ev8 => ?_)
  obtain rfl : v8 = 4 := ev8.trans (by decide)
  refine va_sld hx hb hX hbl hbA hS (show ¬ (_ ∨ _) by decide) dL_law_1355 ?_
  refine W.eq (g2 := F0 m 1356 ls [.int (xs 4), .int (xs 3), .int (xs 2), .int (xs 1), .ref h2, .int (-2)]) rfl ?_
  refine behI (runVP (As := [.int (xs 1), .int (xs 2), .int (xs 3), .int (xs 4)]) (rest := [.int (-2)]) ⟨hx, hb, hml, hown, ht⟩ (pX11_way l G cs h2 q2 (xs 1) (xs 2) (xs 3) (xs 4)) okV_RL_178 ⟨(Nat.le_of_ble_eq_true rfl), (Nat.le_of_ble_eq_true rfl)⟩ hK hP [3, 4] rfl 3 rfl rfl hl.1 rfl (Nat.le_of_ble_eq_true rfl) dL_law_1356 ⟨(Nat.le_of_ble_eq_true rfl), (Nat.le_of_ble_eq_true rfl)⟩) hP hS (fun _ h => h) (fun H locs hP hS => ?_)
  refine lv_icmp_eq (tgt := 2158) hx hb dL_law_1359 (by decide) (fun c10 => ?_) (fun c9 => False.elim (by revert c9; decide))
  exact law_tail l C0 hS (lv_sub hl [0, 3] rfl) (Nat.le_of_ble_eq_true rfl) (Nat.le_of_ble_eq_true rfl)

