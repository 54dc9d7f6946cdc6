set_option maxRecDepth 100000 in
set_option maxHeartbeats 4000000 in
theorem pX11_good (l : Launch) (G : va_G) (cs : Nat → ClassId) (h : Nat) (q : Nat → Nat)  : PureI l yX11_good cX11_good 1 (some .boolean) 0 G (TY cs) [.ref h] [(mc0 cs h q)] 1 := by
  refine mkP (Qc := QPi 1) (by decide) (by simp [lg_sl, Value.category]) ?_
  intro p e s m args below meth c ls hx hb hml hr hlk hown ht hK hP hS hl
  have hl : lv_has ls 1 [(0, .ref h)] := hl
  refine lv_aload_n hx hb dX11_good_0 rfl (lv_at hl 0 rfl) ?_
  refine getF hx hb ht hown hK hP iTX11 0 12 rfl rfl (by decide) fl_RX11_130 rfl dX11_good_1 ?_
  refine lv_if_ne (tgt := 11) hx hb dX11_good_4 (by decide) (fun c1 => False.elim (by revert c1; decide)) (fun c2 => ?_)
  refine lv_iconst (v := 1) hx hb dX11_good_7 (by decide) ?_
  refine lv_goto (tgt := 12) hx hb dX11_good_8 (by decide) ?_
  exact retPz hx hb hr hlk hS dX11_good_12 (rfl) (rfl)
