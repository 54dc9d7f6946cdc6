set_option maxRecDepth 100000 in
set_option maxHeartbeats 8000000 in
theorem dX10_replay (l : Launch) (G : va_G) (cs : Nat → ClassId) (h : Nat) (q : Nat → Nat) : ImpV l yX10_replay cX10_replay 2 2 0 0 G (TY cs) [.ref h] [(xc0 cs h q), (xc12 cs h q), (xc13 cs h q), (xc62 cs h q), (xc63 cs h q)] (fun _ : Unit => [(xc0 cs h q), (xc12 cs h q), (xc13 cs h q)]) := by
  refine mkD (Qc := (QDv G (fun _ : Unit => [(xc0 cs h q), (xc12 cs h q), (xc13 cs h q)]))) (by decide) (by simp [lg_sl, Value.category]) ?_
  intro p e s m args below meth c ls A hx hb hml hr hlk hown hmn ht hK hP hD hS hA hl
  have hl : lv_has ls 2 [(0, .ref h)] := hl
  refine lv_aload_n hx hb dX10_replay_0 rfl (lv_at hl 0 rfl) ?_
  refine getF hx hb ht hown hK hP iTX10 0 6 rfl rfl (by decide) fl_RX10_48 rfl dX10_replay_1 ?_
  refine lv_aload_n hx hb dX10_replay_4 rfl (lv_at hl 0 rfl) ?_
  refine getF hx hb ht hown hK hP iTX10 0 3 rfl rfl (by decide) fl_RX10_31 rfl dX10_replay_5 ?_
  refine getF hx hb ht hown hK hP iTX8 1 0 rfl rfl (by decide) fl_RX10_98 rfl dX10_replay_8 ?_
  refine behDv (wr := [(xc0 cs h q), (xc12 cs h q)]) (runVD (As := [.ref (q 13)]) (rest := []) ⟨hx, hb, hml, hown, ht⟩ (dX5_begin l G cs h q) okV_RX10_388 ⟨by decide, by decide⟩ hK hP hD [2, 3, 4] rfl (by decide) rfl 3 rfl rfl hl.1 rfl (Nat.le_of_ble_eq_true rfl) dX10_replay_11 ⟨Nat.le_of_ble_eq_true rfl, Nat.le_of_ble_eq_true rfl⟩) hP hD hS hA [2, 3, 4] [0, 1] rfl rfl (by decide) (by decide) (fun u H locs hP hD hS => ?_)
  have hP : va_P G vwCl [(xc0 cs h q), (xc12 cs h q), (xc13 cs h q)] H := hP
  have hD : va_D A [(xc0 cs h q), (xc12 cs h q), (xc13 cs h q)] := hD
  refine lv_iconst (v := 0) hx hb dX10_replay_14 (by decide) ?_
  refine lv_istore_n (lv' := [(1, .int 0), (0, .ref h)]) hx hb dX10_replay_15 rfl hl (by decide) rfl (fun ls hl => ?_)
  refine lv_iload_n hx hb dX10_replay_16 rfl (lv_at hl 0 rfl) ?_
  refine lv_aload_n hx hb dX10_replay_17 rfl (lv_at hl 1 rfl) ?_
  refine getF hx hb ht hown hK hP iTX10 0 3 rfl rfl (by decide) fl_RX10_31 rfl dX10_replay_18 ?_
  refine getF hx hb ht hown hK hP iTX8 1 2 rfl rfl (by decide) fl_RX10_105 rfl dX10_replay_21 ?_
  refine lv_icmp_ge (tgt := 58) hx hb dX10_replay_24 (by decide) (fun c2 => ?_) (fun c1 => False.elim (by revert c1; decide))
  exact retDv () hx hb hr hlk (hP.sub [0, 1, 2] rfl) (hD.sub [0, 1, 2] (by decide) rfl) hS dX10_replay_58 (Nat.le_of_ble_eq_true rfl) (Nat.le_of_ble_eq_true rfl)
