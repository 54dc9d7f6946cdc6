set_option maxRecDepth 100000 in
set_option maxHeartbeats 4000000 in
theorem pX3_allSits (l : Launch) (G : va_G) (cs : Nat → ClassId) (h : Nat) (q : Nat → Nat)  : PureI l yX3_allSits cX3_allSits 3 (some .int) 0 G (TY cs) [.ref (q 13)] [(xc13 cs h q)] 0 := by
  refine mkP (Qc := QPi 0) (by decide) (by simp [lg_sl, Value.category]) ?_
  intro p e s m args below meth c ls hx hb hml hr hlk hown ht hK hP hS hl
  have hl : lv_has ls 3 [(0, .ref (q 13))] := hl
  refine lv_iconst (v := 0) hx hb dX3_allSits_0 (by decide) ?_
  refine lv_istore_n (lv' := [(1, .int 0), (0, .ref (q 13))]) hx hb dX3_allSits_1 rfl hl (by decide) rfl (fun ls hl => ?_)
  refine lv_iconst (v := 0) hx hb dX3_allSits_2 (by decide) ?_
  refine lv_istore_n (lv' := [(2, .int 0), (1, .int 0), (0, .ref (q 13))]) hx hb dX3_allSits_3 rfl hl (by decide) rfl (fun ls hl => ?_)
  refine lv_iload_n hx hb dX3_allSits_4 rfl (lv_at hl 0 rfl) ?_
  refine lv_aload_n hx hb dX3_allSits_5 rfl (lv_at hl 2 rfl) ?_
  refine getF hx hb ht hown hK hP iTX3 0 5 rfl rfl (by decide) fl_RX3_49 rfl dX3_allSits_6 ?_
  refine lv_icmp_ge (tgt := 27) hx hb dX3_allSits_9 (by decide) (fun c2 => ?_) (fun c1 => False.elim (by revert c1; decide))
  refine lv_iload_n hx hb dX3_allSits_27 rfl (lv_at hl 1 rfl) ?_
  exact retPi hx hb hr hlk hS dX3_allSits_28 (rfl)
