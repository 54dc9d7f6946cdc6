set_option maxRecDepth 100000 in
set_option maxHeartbeats 4000000 in
theorem pX11_see (l : Launch) (G : va_G) (cs : Nat → ClassId) (h : Nat) (q : Nat → Nat) : PureI l yX11_see cX11_see 2 (some .int) 0 G (TY cs) [.ref h, .int 0] [(mc0 cs h q)] (-1) := by
  refine mkP (Qc := QPi (-1)) (by decide) (by simp [lg_sl, Value.category]) ?_
  intro p e s m args below meth c ls hx hb hml hr hlk hown ht hK hP hS hl
  have hl : lv_has ls 2 [(0, .ref h), (1, .int 0)] := hl
  refine lv_iload_n hx hb dX11_see_0 rfl (lv_at hl 1 rfl) ?_
  refine lv_aload_n hx hb dX11_see_1 rfl (lv_at hl 0 rfl) ?_
  refine getF hx hb ht hown hK hP iTX11 0 7 rfl rfl (by decide) fl_RX11_96 rfl dX11_see_2 ?_
  refine lv_icmp_ge (tgt := 21) hx hb dX11_see_5 (by decide) (fun c2 => ?_) (fun c1 => False.elim (by revert c1; decide))
  refine lv_iconst (v := (-1)) hx hb dX11_see_21 (by decide) ?_
  exact retPi hx hb hr hlk hS dX11_see_22 (rfl)
