set_option maxRecDepth 100000 in
set_option maxHeartbeats 8000000 in
theorem dX11_feed (l : Launch) (G : va_G) (cs : Nat → ClassId) (h : Nat) (q : Nat → Nat) (a1 a2 a3 a4 a5 : Int32) : ImpI l yX11_feed cX11_feed 7 (some .int) 0 0 0 G (TY cs) [.ref h, .int a1, .int a2, .int a3, .int a4, .int a5] [(mc0 cs h q), (mc4 cs h q), (mc6 cs h q)] (fun (r : Int32) (_ : Unit) => r = 20) (fun _ : Unit => []) := by
  refine mkD (Qc := (QDi G (fun (r : Int32) (_ : Unit) => r = 20) (fun _ : Unit => []))) (by decide) (by simp [lg_sl, Value.category]) ?_
  intro p e s m args below meth c ls A hx hb hml hr hlk hown hmn ht hK hP hD hS hA hl
  have hl : lv_has ls 7 [(0, .ref h), (1, .int a1), (2, .int a2), (3, .int a3), (4, .int a4), (5, .int a5)] := hl
  refine lv_aload_n hx hb dX11_feed_0 rfl (lv_at hl 0 rfl) ?_
  refine getF hx hb ht hown hK hP iTX11 0 5 rfl rfl (by decide) fl_RX11_93 rfl dX11_feed_1 ?_
  refine lv_bipush (v := 20) hx hb dX11_feed_4 (by decide) ?_
  refine lv_iadd hx hb dX11_feed_6 ?_
  refine lv_topi (fun v1 ev1 => ?_)
  obtain rfl : v1 = 20 := ev1.trans (by decide)
  refine lv_sipush (v := 900) hx hb dX11_feed_7 (by decide) ?_
  refine lv_icmp_le (tgt := 15) hx hb dX11_feed_10 (by decide) (fun c3 => ?_) (fun c2 => False.elim (by revert c2; decide))
  refine lv_aload_n hx hb dX11_feed_15 rfl (lv_at hl 0 rfl) ?_
  refine getF hx hb ht hown hK hP iTX11 0 6 rfl rfl (by decide) fl_RX11_24 rfl dX11_feed_16 ?_
  refine lv_iconst (v := 0) hx hb dX11_feed_19 (by decide) ?_
  refine lv_iload_n hx hb dX11_feed_20 rfl (lv_at hl 1 rfl) ?_
  refine va_iast hx hb hK.1 hP hD hS 2 0 rfl rfl (show ¬ (_ ∨ _) by decide) dX11_feed_21 (fun H locs hP hD hS => ?_)
  obtain ⟨f4, hP, hD⟩ : ∃ f4 : Nat → Int32, va_P G vwCl [(mc0 cs h q), (mc4 cs h q), (q 6, .inl (cs 0, 5, .inl f4))] H ∧ va_D A [(mc0 cs h q), (mc4 cs h q), (q 6, .inl (cs 0, 5, .inl f4))] := ⟨_, hP, hD⟩
  refine lv_aload_n hx hb dX11_feed_22 rfl (lv_at hl 0 rfl) ?_
  refine getF hx hb ht hown hK hP iTX11 0 6 rfl rfl (by decide) fl_RX11_24 rfl dX11_feed_23 ?_
  refine lv_iconst (v := 1) hx hb dX11_feed_26 (by decide) ?_
  refine lv_iload_n hx hb dX11_feed_27 rfl (lv_at hl 2 rfl) ?_
  refine va_iast hx hb hK.1 hP hD hS 2 0 rfl rfl (show ¬ (_ ∨ _) by decide) dX11_feed_28 (fun H locs hP hD hS => ?_)
  obtain ⟨f5, hP, hD⟩ : ∃ f5 : Nat → Int32, va_P G vwCl [(mc0 cs h q), (mc4 cs h q), (q 6, .inl (cs 0, 5, .inl f5))] H ∧ va_D A [(mc0 cs h q), (mc4 cs h q), (q 6, .inl (cs 0, 5, .inl f5))] := ⟨_, hP, hD⟩
  refine lv_aload_n hx hb dX11_feed_29 rfl (lv_at hl 0 rfl) ?_
  refine getF hx hb ht hown hK hP iTX11 0 6 rfl rfl (by decide) fl_RX11_24 rfl dX11_feed_30 ?_
  refine lv_iconst (v := 2) hx hb dX11_feed_33 (by decide) ?_
  refine lv_iload_n hx hb dX11_feed_34 rfl (lv_at hl 3 rfl) ?_
  refine va_iast hx hb hK.1 hP hD hS 2 0 rfl rfl (show ¬ (_ ∨ _) by decide) dX11_feed_35 (fun H locs hP hD hS => ?_)
  obtain ⟨f6, hP, hD⟩ : ∃ f6 : Nat → Int32, va_P G vwCl [(mc0 cs h q), (mc4 cs h q), (q 6, .inl (cs 0, 5, .inl f6))] H ∧ va_D A [(mc0 cs h q), (mc4 cs h q), (q 6, .inl (cs 0, 5, .inl f6))] := ⟨_, hP, hD⟩
  refine lv_aload_n hx hb dX11_feed_36 rfl (lv_at hl 0 rfl) ?_
  refine getF hx hb ht hown hK hP iTX11 0 6 rfl rfl (by decide) fl_RX11_24 rfl dX11_feed_37 ?_
  refine lv_iconst (v := 3) hx hb dX11_feed_40 (by decide) ?_
  refine lv_iload hx hb dX11_feed_41 (lv_at hl 4 rfl) ?_
  refine va_iast hx hb hK.1 hP hD hS 2 0 rfl rfl (show ¬ (_ ∨ _) by decide) dX11_feed_43 (fun H locs hP hD hS => ?_)
  obtain ⟨f7, hP, hD⟩ : ∃ f7 : Nat → Int32, va_P G vwCl [(mc0 cs h q), (mc4 cs h q), (q 6, .inl (cs 0, 5, .inl f7))] H ∧ va_D A [(mc0 cs h q), (mc4 cs h q), (q 6, .inl (cs 0, 5, .inl f7))] := ⟨_, hP, hD⟩
  refine lv_aload_n hx hb dX11_feed_44 rfl (lv_at hl 0 rfl) ?_
  refine getF hx hb ht hown hK hP iTX11 0 6 rfl rfl (by decide) fl_RX11_24 rfl dX11_feed_45 ?_
  refine lv_iconst (v := 4) hx hb dX11_feed_48 (by decide) ?_
  refine lv_iload hx hb dX11_feed_49 (lv_at hl 5 rfl) ?_
  refine va_iast hx hb hK.1 hP hD hS 2 0 rfl rfl (show ¬ (_ ∨ _) by decide) dX11_feed_51 (fun H locs hP hD hS => ?_)
  obtain ⟨f8, hP, hD⟩ : ∃ f8 : Nat → Int32, va_P G vwCl [(mc0 cs h q), (mc4 cs h q), (q 6, .inl (cs 0, 5, .inl f8))] H ∧ va_D A [(mc0 cs h q), (mc4 cs h q), (q 6, .inl (cs 0, 5, .inl f8))] := ⟨_, hP, hD⟩
  refine lv_iconst (v := 0) hx hb dX11_feed_52 (by decide) ?_
  refine lv_istore (lv' := [(6, .int 0), (0, .ref h), (1, .int a1), (2, .int a2), (3, .int a3), (4, .int a4), (5, .int a5)]) hx hb dX11_feed_53 hl (by decide) rfl (fun ls hl => ?_)
  refine lv_iload hx hb dX11_feed_55 (lv_at hl 0 rfl) ?_
  refine lv_bipush (v := 20) hx hb dX11_feed_57 (by decide) ?_
  refine lv_icmp_ge (tgt := 101) hx hb dX11_feed_59 (by decide) (fun c9 => False.elim (by revert c9; decide)) (fun c10 => ?_)
  refine lv_aload_n hx hb dX11_feed_62 rfl (lv_at hl 1 rfl) ?_
  refine getF hx hb ht hown hK hP iTX11 0 4 rfl rfl (by decide) fl_RX11_20 rfl dX11_feed_63 ?_
  refine lv_aload_n hx hb dX11_feed_66 rfl (lv_at hl 1 rfl) ?_
  refine getF hx hb ht hown hK hP iTX11 0 5 rfl rfl (by decide) fl_RX11_93 rfl dX11_feed_67 ?_
  refine lv_iload hx hb dX11_feed_70 (lv_at hl 0 rfl) ?_
  refine lv_iadd hx hb dX11_feed_72 ?_
  refine lv_topi (fun v11 ev11 => ?_)
  obtain rfl : v11 = 0 := ev11.trans (by decide)
  refine lv_aload_n hx hb dX11_feed_73 rfl (lv_at hl 1 rfl) ?_
  refine getF hx hb ht hown hK hP iTX11 0 6 rfl rfl (by decide) fl_RX11_24 rfl dX11_feed_74 ?_
  refine lv_iload hx hb dX11_feed_77 (lv_at hl 0 rfl) ?_
  refine lv_iconst (v := 4) hx hb dX11_feed_79 (by decide) ?_
  refine lv_idiv hx hb dX11_feed_80 (by decide) ?_
  refine lv_topi (fun v12 ev12 => ?_)
  obtain rfl : v12 = 0 := ev12.trans (by decide)
  refine va_iald hx hb hK.1 hP 2 0 rfl rfl (show ¬ (_ ∨ _) by decide) dX11_feed_81 ?_
  refine lv_topi (fun v13 ev13 => ?_)
  refine lv_bipush (v := 24) hx hb dX11_feed_82 (by decide) ?_
  refine lv_bipush (v := 8) hx hb dX11_feed_84 (by decide) ?_
  refine lv_iload hx hb dX11_feed_86 (lv_at hl 0 rfl) ?_
  refine lv_iconst (v := 4) hx hb dX11_feed_88 (by decide) ?_
  refine lv_irem hx hb dX11_feed_89 (by decide) ?_
  refine lv_topi (fun v14 ev14 => ?_)
  obtain rfl : v14 = 0 := ev14.trans (by decide)
  refine lv_imul hx hb dX11_feed_90 ?_
  refine lv_topi (fun v15 ev15 => ?_)
  obtain rfl : v15 = 0 := ev15.trans (by decide)
  refine lv_isub hx hb dX11_feed_91 ?_
  refine lv_topi (fun v16 ev16 => ?_)
  obtain rfl : v16 = 24 := ev16.trans (by decide)
  refine lv_ishr hx hb dX11_feed_92 ?_
  refine lv_i2b hx hb dX11_feed_93 rfl ?_
  refine lv_topi (fun v17 ev17 => ?_)
  refine va_bast hx hb hK.1 hP hD hS 1 1 rfl rfl (show ¬ (_ ∨ _) by decide) dX11_feed_94 (fun H locs hP hD hS => ?_)
  obtain ⟨f18, hP, hD⟩ : ∃ f18 : Nat → Int32, va_P G vwCl [(mc0 cs h q), (q 4, .inl (cs 1, 900, .inl f18)), (q 6, .inl (cs 0, 5, .inl f8))] H ∧ va_D A [(mc0 cs h q), (q 4, .inl (cs 1, 900, .inl f18)), (q 6, .inl (cs 0, 5, .inl f8))] := ⟨_, hP, hD⟩
  refine lv_iinc (v := 1) (lv' := [(6, .int 1), (0, .ref h), (1, .int a1), (2, .int a2), (3, .int a3), (4, .int a4), (5, .int a5)]) hx hb dX11_feed_95 hl (k := 0) rfl (by decide) (by decide) rfl (fun ls hl => ?_)
  refine lv_goto (tgt := 55) hx hb dX11_feed_98 (by decide) ?_
  refine lv_iload hx hb dX11_feed_55 (lv_at hl 0 rfl) ?_
  refine lv_bipush (v := 20) hx hb dX11_feed_57 (by decide) ?_
  refine lv_icmp_ge (tgt := 101) hx hb dX11_feed_59 (by decide) (fun c19 => False.elim (by revert c19; decide)) (fun c20 => ?_)
  refine lv_aload_n hx hb dX11_feed_62 rfl (lv_at hl 1 rfl) ?_
  refine getF hx hb ht hown hK hP iTX11 0 4 rfl rfl (by decide) fl_RX11_20 rfl dX11_feed_63 ?_
  refine lv_aload_n hx hb dX11_feed_66 rfl (lv_at hl 1 rfl) ?_
  refine getF hx hb ht hown hK hP iTX11 0 5 rfl rfl (by decide) fl_RX11_93 rfl dX11_feed_67 ?_
  refine lv_iload hx hb dX11_feed_70 (lv_at hl 0 rfl) ?_
  refine lv_iadd hx hb dX11_feed_72 ?_
  refine lv_topi (fun v21 ev21 => ?_)
  obtain rfl : v21 = 1 := ev21.trans (by decide)
  refine lv_aload_n hx hb dX11_feed_73 rfl (lv_at hl 1 rfl) ?_
  refine getF hx hb ht hown hK hP iTX11 0 6 rfl rfl (by decide) fl_RX11_24 rfl dX11_feed_74 ?_
  refine lv_iload hx hb dX11_feed_77 (lv_at hl 0 rfl) ?_
  refine lv_iconst (v := 4) hx hb dX11_feed_79 (by decide) ?_
  refine lv_idiv hx hb dX11_feed_80 (by decide) ?_
  refine lv_topi (fun v22 ev22 => ?_)
  obtain rfl : v22 = 0 := ev22.trans (by decide)
  refine va_iald hx hb hK.1 hP 2 0 rfl rfl (show ¬ (_ ∨ _) by decide) dX11_feed_81 ?_
  refine lv_topi (fun v23 ev23 => ?_)
  refine lv_bipush (v := 24) hx hb dX11_feed_82 (by decide) ?_
  refine lv_bipush (v := 8) hx hb dX11_feed_84 (by decide) ?_
  refine lv_iload hx hb dX11_feed_86 (lv_at hl 0 rfl) ?_
  refine lv_iconst (v := 4) hx hb dX11_feed_88 (by decide) ?_
  refine lv_irem hx hb dX11_feed_89 (by decide) ?_
  refine lv_topi (fun v24 ev24 => ?_)
  obtain rfl : v24 = 1 := ev24.trans (by decide)
  refine lv_imul hx hb dX11_feed_90 ?_
  refine lv_topi (fun v25 ev25 => ?_)
  obtain rfl : v25 = 8 := ev25.trans (by decide)
  refine lv_isub hx hb dX11_feed_91 ?_
  refine lv_topi (fun v26 ev26 => ?_)
  obtain rfl : v26 = 16 := ev26.trans (by decide)
  refine lv_ishr hx hb dX11_feed_92 ?_
  refine lv_i2b hx hb dX11_feed_93 rfl ?_
  refine lv_topi (fun v27 ev27 => ?_)
  refine va_bast hx hb hK.1 hP hD hS 1 1 rfl rfl (show ¬ (_ ∨ _) by decide) dX11_feed_94 (fun H locs hP hD hS => ?_)
  obtain ⟨f28, hP, hD⟩ : ∃ f28 : Nat → Int32, va_P G vwCl [(mc0 cs h q), (q 4, .inl (cs 1, 900, .inl f28)), (q 6, .inl (cs 0, 5, .inl f8))] H ∧ va_D A [(mc0 cs h q), (q 4, .inl (cs 1, 900, .inl f28)), (q 6, .inl (cs 0, 5, .inl f8))] := ⟨_, hP, hD⟩
  refine lv_iinc (v := 2) (lv' := [(6, .int 2), (0, .ref h), (1, .int a1), (2, .int a2), (3, .int a3), (4, .int a4), (5, .int a5)]) hx hb dX11_feed_95 hl (k := 0) rfl (by decide) (by decide) rfl (fun ls hl => ?_)
  refine lv_goto (tgt := 55) hx hb dX11_feed_98 (by decide) ?_
  refine lv_iload hx hb dX11_feed_55 (lv_at hl 0 rfl) ?_
  refine lv_bipush (v := 20) hx hb dX11_feed_57 (by decide) ?_
  refine lv_icmp_ge (tgt := 101) hx hb dX11_feed_59 (by decide) (fun c29 => False.elim (by revert c29; decide)) (fun c30 => ?_)
  refine lv_aload_n hx hb dX11_feed_62 rfl (lv_at hl 1 rfl) ?_
  refine getF hx hb ht hown hK hP iTX11 0 4 rfl rfl (by decide) fl_RX11_20 rfl dX11_feed_63 ?_
  refine lv_aload_n hx hb dX11_feed_66 rfl (lv_at hl 1 rfl) ?_
  refine getF hx hb ht hown hK hP iTX11 0 5 rfl rfl (by decide) fl_RX11_93 rfl dX11_feed_67 ?_
  refine lv_iload hx hb dX11_feed_70 (lv_at hl 0 rfl) ?_
  refine lv_iadd hx hb dX11_feed_72 ?_
  refine lv_topi (fun v31 ev31 => ?_)
  obtain rfl : v31 = 2 := ev31.trans (by decide)
  refine lv_aload_n hx hb dX11_feed_73 rfl (lv_at hl 1 rfl) ?_
  refine getF hx hb ht hown hK hP iTX11 0 6 rfl rfl (by decide) fl_RX11_24 rfl dX11_feed_74 ?_
  refine lv_iload hx hb dX11_feed_77 (lv_at hl 0 rfl) ?_
  refine lv_iconst (v := 4) hx hb dX11_feed_79 (by decide) ?_
  refine lv_idiv hx hb dX11_feed_80 (by decide) ?_
  refine lv_topi (fun v32 ev32 => ?_)
  obtain rfl : v32 = 0 := ev32.trans (by decide)
  refine va_iald hx hb hK.1 hP 2 0 rfl rfl (show ¬ (_ ∨ _) by decide) dX11_feed_81 ?_
  refine lv_topi (fun v33 ev33 => ?_)
  refine lv_bipush (v := 24) hx hb dX11_feed_82 (by decide) ?_
  refine lv_bipush (v := 8) hx hb dX11_feed_84 (by decide) ?_
  refine lv_iload hx hb dX11_feed_86 (lv_at hl 0 rfl) ?_
  refine lv_iconst (v := 4) hx hb dX11_feed_88 (by decide) ?_
  refine lv_irem hx hb dX11_feed_89 (by decide) ?_
  refine lv_topi (fun v34 ev34 => ?_)
  obtain rfl : v34 = 2 := ev34.trans (by decide)
  refine lv_imul hx hb dX11_feed_90 ?_
  refine lv_topi (fun v35 ev35 => ?_)
  obtain rfl : v35 = 16 := ev35.trans (by decide)
  refine lv_isub hx hb dX11_feed_91 ?_
  refine lv_topi (fun v36 ev36 => ?_)
  obtain rfl : v36 = 8 := ev36.trans (by decide)
  refine lv_ishr hx hb dX11_feed_92 ?_
  refine lv_i2b hx hb dX11_feed_93 rfl ?_
  refine lv_topi (fun v37 ev37 => ?_)
  refine va_bast hx hb hK.1 hP hD hS 1 1 rfl rfl (show ¬ (_ ∨ _) by decide) dX11_feed_94 (fun H locs hP hD hS => ?_)
  obtain ⟨f38, hP, hD⟩ : ∃ f38 : Nat → Int32, va_P G vwCl [(mc0 cs h q), (q 4, .inl (cs 1, 900, .inl f38)), (q 6, .inl (cs 0, 5, .inl f8))] H ∧ va_D A [(mc0 cs h q), (q 4, .inl (cs 1, 900, .inl f38)), (q 6, .inl (cs 0, 5, .inl f8))] := ⟨_, hP, hD⟩
  refine lv_iinc (v := 3) (lv' := [(6, .int 3), (0, .ref h), (1, .int a1), (2, .int a2), (3, .int a3), (4, .int a4), (5, .int a5)]) hx hb dX11_feed_95 hl (k := 0) rfl (by decide) (by decide) rfl (fun ls hl => ?_)
  refine lv_goto (tgt := 55) hx hb dX11_feed_98 (by decide) ?_
  refine lv_iload hx hb dX11_feed_55 (lv_at hl 0 rfl) ?_
  refine lv_bipush (v := 20) hx hb dX11_feed_57 (by decide) ?_
  refine lv_icmp_ge (tgt := 101) hx hb dX11_feed_59 (by decide) (fun c39 => False.elim (by revert c39; decide)) (fun c40 => ?_)
  refine lv_aload_n hx hb dX11_feed_62 rfl (lv_at hl 1 rfl) ?_
  refine getF hx hb ht hown hK hP iTX11 0 4 rfl rfl (by decide) fl_RX11_20 rfl dX11_feed_63 ?_
  refine lv_aload_n hx hb dX11_feed_66 rfl (lv_at hl 1 rfl) ?_
  refine getF hx hb ht hown hK hP iTX11 0 5 rfl rfl (by decide) fl_RX11_93 rfl dX11_feed_67 ?_
  refine lv_iload hx hb dX11_feed_70 (lv_at hl 0 rfl) ?_
  refine lv_iadd hx hb dX11_feed_72 ?_
  refine lv_topi (fun v41 ev41 => ?_)
  obtain rfl : v41 = 3 := ev41.trans (by decide)
  refine lv_aload_n hx hb dX11_feed_73 rfl (lv_at hl 1 rfl) ?_
  refine getF hx hb ht hown hK hP iTX11 0 6 rfl rfl (by decide) fl_RX11_24 rfl dX11_feed_74 ?_
  refine lv_iload hx hb dX11_feed_77 (lv_at hl 0 rfl) ?_
  refine lv_iconst (v := 4) hx hb dX11_feed_79 (by decide) ?_
  refine lv_idiv hx hb dX11_feed_80 (by decide) ?_
  refine lv_topi (fun v42 ev42 => ?_)
  obtain rfl : v42 = 0 := ev42.trans (by decide)
  refine va_iald hx hb hK.1 hP 2 0 rfl rfl (show ¬ (_ ∨ _) by decide) dX11_feed_81 ?_
  refine lv_topi (fun v43 ev43 => ?_)
  refine lv_bipush (v := 24) hx hb dX11_feed_82 (by decide) ?_
  refine lv_bipush (v := 8) hx hb dX11_feed_84 (by decide) ?_
  refine lv_iload hx hb dX11_feed_86 (lv_at hl 0 rfl) ?_
  refine lv_iconst (v := 4) hx hb dX11_feed_88 (by decide) ?_
  refine lv_irem hx hb dX11_feed_89 (by decide) ?_
  refine lv_topi (fun v44 ev44 => ?_)
  obtain rfl : v44 = 3 := ev44.trans (by decide)
  refine lv_imul hx hb dX11_feed_90 ?_
  refine lv_topi (fun v45 ev45 => ?_)
  obtain rfl : v45 = 24 := ev45.trans (by decide)
  refine lv_isub hx hb dX11_feed_91 ?_
  refine lv_topi (fun v46 ev46 => ?_)
  obtain rfl : v46 = 0 := ev46.trans (by decide)
  refine lv_ishr hx hb dX11_feed_92 ?_
  refine lv_i2b hx hb dX11_feed_93 rfl ?_
  refine lv_topi (fun v47 ev47 => ?_)
  refine va_bast hx hb hK.1 hP hD hS 1 1 rfl rfl (show ¬ (_ ∨ _) by decide) dX11_feed_94 (fun H locs hP hD hS => ?_)
  obtain ⟨f48, hP, hD⟩ : ∃ f48 : Nat → Int32, va_P G vwCl [(mc0 cs h q), (q 4, .inl (cs 1, 900, .inl f48)), (q 6, .inl (cs 0, 5, .inl f8))] H ∧ va_D A [(mc0 cs h q), (q 4, .inl (cs 1, 900, .inl f48)), (q 6, .inl (cs 0, 5, .inl f8))] := ⟨_, hP, hD⟩
  refine lv_iinc (v := 4) (lv' := [(6, .int 4), (0, .ref h), (1, .int a1), (2, .int a2), (3, .int a3), (4, .int a4), (5, .int a5)]) hx hb dX11_feed_95 hl (k := 0) rfl (by decide) (by decide) rfl (fun ls hl => ?_)
  refine lv_goto (tgt := 55) hx hb dX11_feed_98 (by decide) ?_
  refine lv_iload hx hb dX11_feed_55 (lv_at hl 0 rfl) ?_
  refine lv_bipush (v := 20) hx hb dX11_feed_57 (by decide) ?_
  refine lv_icmp_ge (tgt := 101) hx hb dX11_feed_59 (by decide) (fun c49 => False.elim (by revert c49; decide)) (fun c50 => ?_)
  refine lv_aload_n hx hb dX11_feed_62 rfl (lv_at hl 1 rfl) ?_
  refine getF hx hb ht hown hK hP iTX11 0 4 rfl rfl (by decide) fl_RX11_20 rfl dX11_feed_63 ?_
  refine lv_aload_n hx hb dX11_feed_66 rfl (lv_at hl 1 rfl) ?_
  refine getF hx hb ht hown hK hP iTX11 0 5 rfl rfl (by decide) fl_RX11_93 rfl dX11_feed_67 ?_
  refine lv_iload hx hb dX11_feed_70 (lv_at hl 0 rfl) ?_
  refine lv_iadd hx hb dX11_feed_72 ?_
  refine lv_topi (fun v51 ev51 => ?_)
  obtain rfl : v51 = 4 := ev51.trans (by decide)
  refine lv_aload_n hx hb dX11_feed_73 rfl (lv_at hl 1 rfl) ?_
  refine getF hx hb ht hown hK hP iTX11 0 6 rfl rfl (by decide) fl_RX11_24 rfl dX11_feed_74 ?_
  refine lv_iload hx hb dX11_feed_77 (lv_at hl 0 rfl) ?_
  refine lv_iconst (v := 4) hx hb dX11_feed_79 (by decide) ?_
  refine lv_idiv hx hb dX11_feed_80 (by decide) ?_
  refine lv_topi (fun v52 ev52 => ?_)
  obtain rfl : v52 = 1 := ev52.trans (by decide)
  refine va_iald hx hb hK.1 hP 2 0 rfl rfl (show ¬ (_ ∨ _) by decide) dX11_feed_81 ?_
  refine lv_topi (fun v53 ev53 => ?_)
  refine lv_bipush (v := 24) hx hb dX11_feed_82 (by decide) ?_
  refine lv_bipush (v := 8) hx hb dX11_feed_84 (by decide) ?_
  refine lv_iload hx hb dX11_feed_86 (lv_at hl 0 rfl) ?_
  refine lv_iconst (v := 4) hx hb dX11_feed_88 (by decide) ?_
  refine lv_irem hx hb dX11_feed_89 (by decide) ?_
  refine lv_topi (fun v54 ev54 => ?_)
  obtain rfl : v54 = 0 := ev54.trans (by decide)
  refine lv_imul hx hb dX11_feed_90 ?_
  refine lv_topi (fun v55 ev55 => ?_)
  obtain rfl : v55 = 0 := ev55.trans (by decide)
  refine lv_isub hx hb dX11_feed_91 ?_
  refine lv_topi (fun v56 ev56 => ?_)
  obtain rfl : v56 = 24 := ev56.trans (by decide)
  refine lv_ishr hx hb dX11_feed_92 ?_
  refine lv_i2b hx hb dX11_feed_93 rfl ?_
  refine lv_topi (fun v57 ev57 => ?_)
  refine va_bast hx hb hK.1 hP hD hS 1 1 rfl rfl (show ¬ (_ ∨ _) by decide) dX11_feed_94 (fun H locs hP hD hS => ?_)
  obtain ⟨f58, hP, hD⟩ : ∃ f58 : Nat → Int32, va_P G vwCl [(mc0 cs h q), (q 4, .inl (cs 1, 900, .inl f58)), (q 6, .inl (cs 0, 5, .inl f8))] H ∧ va_D A [(mc0 cs h q), (q 4, .inl (cs 1, 900, .inl f58)), (q 6, .inl (cs 0, 5, .inl f8))] := ⟨_, hP, hD⟩
  refine lv_iinc (v := 5) (lv' := [(6, .int 5), (0, .ref h), (1, .int a1), (2, .int a2), (3, .int a3), (4, .int a4), (5, .int a5)]) hx hb dX11_feed_95 hl (k := 0) rfl (by decide) (by decide) rfl (fun ls hl => ?_)
  refine lv_goto (tgt := 55) hx hb dX11_feed_98 (by decide) ?_
  refine lv_iload hx hb dX11_feed_55 (lv_at hl 0 rfl) ?_
  refine lv_bipush (v := 20) hx hb dX11_feed_57 (by decide) ?_
  refine lv_icmp_ge (tgt := 101) hx hb dX11_feed_59 (by decide) (fun c59 => False.elim (by revert c59; decide)) (fun c60 => ?_)
  refine lv_aload_n hx hb dX11_feed_62 rfl (lv_at hl 1 rfl) ?_
  refine getF hx hb ht hown hK hP iTX11 0 4 rfl rfl (by decide) fl_RX11_20 rfl dX11_feed_63 ?_
  refine lv_aload_n hx hb dX11_feed_66 rfl (lv_at hl 1 rfl) ?_
  refine getF hx hb ht hown hK hP iTX11 0 5 rfl rfl (by decide) fl_RX11_93 rfl dX11_feed_67 ?_
  refine lv_iload hx hb dX11_feed_70 (lv_at hl 0 rfl) ?_
  refine lv_iadd hx hb dX11_feed_72 ?_
  refine lv_topi (fun v61 ev61 => ?_)
  obtain rfl : v61 = 5 := ev61.trans (by decide)
  refine lv_aload_n hx hb dX11_feed_73 rfl (lv_at hl 1 rfl) ?_
  refine getF hx hb ht hown hK hP iTX11 0 6 rfl rfl (by decide) fl_RX11_24 rfl dX11_feed_74 ?_
  refine lv_iload hx hb dX11_feed_77 (lv_at hl 0 rfl) ?_
  refine lv_iconst (v := 4) hx hb dX11_feed_79 (by decide) ?_
  refine lv_idiv hx hb dX11_feed_80 (by decide) ?_
  refine lv_topi (fun v62 ev62 => ?_)
  obtain rfl : v62 = 1 := ev62.trans (by decide)
  refine va_iald hx hb hK.1 hP 2 0 rfl rfl (show ¬ (_ ∨ _) by decide) dX11_feed_81 ?_
  refine lv_topi (fun v63 ev63 => ?_)
  refine lv_bipush (v := 24) hx hb dX11_feed_82 (by decide) ?_
  refine lv_bipush (v := 8) hx hb dX11_feed_84 (by decide) ?_
  refine lv_iload hx hb dX11_feed_86 (lv_at hl 0 rfl) ?_
  refine lv_iconst (v := 4) hx hb dX11_feed_88 (by decide) ?_
  refine lv_irem hx hb dX11_feed_89 (by decide) ?_
  refine lv_topi (fun v64 ev64 => ?_)
  obtain rfl : v64 = 1 := ev64.trans (by decide)
  refine lv_imul hx hb dX11_feed_90 ?_
  refine lv_topi (fun v65 ev65 => ?_)
  obtain rfl : v65 = 8 := ev65.trans (by decide)
  refine lv_isub hx hb dX11_feed_91 ?_
  refine lv_topi (fun v66 ev66 => ?_)
  obtain rfl : v66 = 16 := ev66.trans (by decide)
  refine lv_ishr hx hb dX11_feed_92 ?_
  refine lv_i2b hx hb dX11_feed_93 rfl ?_
  refine lv_topi (fun v67 ev67 => ?_)
  refine va_bast hx hb hK.1 hP hD hS 1 1 rfl rfl (show ¬ (_ ∨ _) by decide) dX11_feed_94 (fun H locs hP hD hS => ?_)
  obtain ⟨f68, hP, hD⟩ : ∃ f68 : Nat → Int32, va_P G vwCl [(mc0 cs h q), (q 4, .inl (cs 1, 900, .inl f68)), (q 6, .inl (cs 0, 5, .inl f8))] H ∧ va_D A [(mc0 cs h q), (q 4, .inl (cs 1, 900, .inl f68)), (q 6, .inl (cs 0, 5, .inl f8))] := ⟨_, hP, hD⟩
  refine lv_iinc (v := 6) (lv' := [(6, .int 6), (0, .ref h), (1, .int a1), (2, .int a2), (3, .int a3), (4, .int a4), (5, .int a5)]) hx hb dX11_feed_95 hl (k := 0) rfl (by decide) (by decide) rfl (fun ls hl => ?_)
  refine lv_goto (tgt := 55) hx hb dX11_feed_98 (by decide) ?_
  refine lv_iload hx hb dX11_feed_55 (lv_at hl 0 rfl) ?_
  refine lv_bipush (v := 20) hx hb dX11_feed_57 (by decide) ?_
  refine lv_icmp_ge (tgt := 101) hx hb dX11_feed_59 (by decide) (fun c69 => False.elim (by revert c69; decide)) (fun c70 => ?_)
  refine lv_aload_n hx hb dX11_feed_62 rfl (lv_at hl 1 rfl) ?_
  refine getF hx hb ht hown hK hP iTX11 0 4 rfl rfl (by decide) fl_RX11_20 rfl dX11_feed_63 ?_
  refine lv_aload_n hx hb dX11_feed_66 rfl (lv_at hl 1 rfl) ?_
  refine getF hx hb ht hown hK hP iTX11 0 5 rfl rfl (by decide) fl_RX11_93 rfl dX11_feed_67 ?_
  refine lv_iload hx hb dX11_feed_70 (lv_at hl 0 rfl) ?_
  refine lv_iadd hx hb dX11_feed_72 ?_
  refine lv_topi (fun v71 ev71 => ?_)
  obtain rfl : v71 = 6 := ev71.trans (by decide)
  refine lv_aload_n hx hb dX11_feed_73 rfl (lv_at hl 1 rfl) ?_
  refine getF hx hb ht hown hK hP iTX11 0 6 rfl rfl (by decide) fl_RX11_24 rfl dX11_feed_74 ?_
  refine lv_iload hx hb dX11_feed_77 (lv_at hl 0 rfl) ?_
  refine lv_iconst (v := 4) hx hb dX11_feed_79 (by decide) ?_
  refine lv_idiv hx hb dX11_feed_80 (by decide) ?_
  refine lv_topi (fun v72 ev72 => ?_)
  obtain rfl : v72 = 1 := ev72.trans (by decide)
  refine va_iald hx hb hK.1 hP 2 0 rfl rfl (show ¬ (_ ∨ _) by decide) dX11_feed_81 ?_
  refine lv_topi (fun v73 ev73 => ?_)
  refine lv_bipush (v := 24) hx hb dX11_feed_82 (by decide) ?_
  refine lv_bipush (v := 8) hx hb dX11_feed_84 (by decide) ?_
  refine lv_iload hx hb dX11_feed_86 (lv_at hl 0 rfl) ?_
  refine lv_iconst (v := 4) hx hb dX11_feed_88 (by decide) ?_
  refine lv_irem hx hb dX11_feed_89 (by decide) ?_
  refine lv_topi (fun v74 ev74 => ?_)
  obtain rfl : v74 = 2 := ev74.trans (by decide)
  refine lv_imul hx hb dX11_feed_90 ?_
  refine lv_topi (fun v75 ev75 => ?_)
  obtain rfl : v75 = 16 := ev75.trans (by decide)
  refine lv_isub hx hb dX11_feed_91 ?_
  refine lv_topi (fun v76 ev76 => ?_)
  obtain rfl : v76 = 8 := ev76.trans (by decide)
  refine lv_ishr hx hb dX11_feed_92 ?_
  refine lv_i2b hx hb dX11_feed_93 rfl ?_
  refine lv_topi (fun v77 ev77 => ?_)
  refine va_bast hx hb hK.1 hP hD hS 1 1 rfl rfl (show ¬ (_ ∨ _) by decide) dX11_feed_94 (fun H locs hP hD hS => ?_)
  obtain ⟨f78, hP, hD⟩ : ∃ f78 : Nat → Int32, va_P G vwCl [(mc0 cs h q), (q 4, .inl (cs 1, 900, .inl f78)), (q 6, .inl (cs 0, 5, .inl f8))] H ∧ va_D A [(mc0 cs h q), (q 4, .inl (cs 1, 900, .inl f78)), (q 6, .inl (cs 0, 5, .inl f8))] := ⟨_, hP, hD⟩
  refine lv_iinc (v := 7) (lv' := [(6, .int 7), (0, .ref h), (1, .int a1), (2, .int a2), (3, .int a3), (4, .int a4), (5, .int a5)]) hx hb dX11_feed_95 hl (k := 0) rfl (by decide) (by decide) rfl (fun ls hl => ?_)
  refine lv_goto (tgt := 55) hx hb dX11_feed_98 (by decide) ?_
  refine lv_iload hx hb dX11_feed_55 (lv_at hl 0 rfl) ?_
  refine lv_bipush (v := 20) hx hb dX11_feed_57 (by decide) ?_
  refine lv_icmp_ge (tgt := 101) hx hb dX11_feed_59 (by decide) (fun c79 => False.elim (by revert c79; decide)) (fun c80 => ?_)
  refine lv_aload_n hx hb dX11_feed_62 rfl (lv_at hl 1 rfl) ?_
  refine getF hx hb ht hown hK hP iTX11 0 4 rfl rfl (by decide) fl_RX11_20 rfl dX11_feed_63 ?_
  refine lv_aload_n hx hb dX11_feed_66 rfl (lv_at hl 1 rfl) ?_
  refine getF hx hb ht hown hK hP iTX11 0 5 rfl rfl (by decide) fl_RX11_93 rfl dX11_feed_67 ?_
  refine lv_iload hx hb dX11_feed_70 (lv_at hl 0 rfl) ?_
  refine lv_iadd hx hb dX11_feed_72 ?_
  refine lv_topi (fun v81 ev81 => ?_)
  obtain rfl : v81 = 7 := ev81.trans (by decide)
  refine lv_aload_n hx hb dX11_feed_73 rfl (lv_at hl 1 rfl) ?_
  refine getF hx hb ht hown hK hP iTX11 0 6 rfl rfl (by decide) fl_RX11_24 rfl dX11_feed_74 ?_
  refine lv_iload hx hb dX11_feed_77 (lv_at hl 0 rfl) ?_
  refine lv_iconst (v := 4) hx hb dX11_feed_79 (by decide) ?_
  refine lv_idiv hx hb dX11_feed_80 (by decide) ?_
  refine lv_topi (fun v82 ev82 => ?_)
  obtain rfl : v82 = 1 := ev82.trans (by decide)
  refine va_iald hx hb hK.1 hP 2 0 rfl rfl (show ¬ (_ ∨ _) by decide) dX11_feed_81 ?_
  refine lv_topi (fun v83 ev83 => ?_)
  refine lv_bipush (v := 24) hx hb dX11_feed_82 (by decide) ?_
  refine lv_bipush (v := 8) hx hb dX11_feed_84 (by decide) ?_
  refine lv_iload hx hb dX11_feed_86 (lv_at hl 0 rfl) ?_
  refine lv_iconst (v := 4) hx hb dX11_feed_88 (by decide) ?_
  refine lv_irem hx hb dX11_feed_89 (by decide) ?_
  refine lv_topi (fun v84 ev84 => ?_)
  obtain rfl : v84 = 3 := ev84.trans (by decide)
  refine lv_imul hx hb dX11_feed_90 ?_
  refine lv_topi (fun v85 ev85 => ?_)
  obtain rfl : v85 = 24 := ev85.trans (by decide)
  refine lv_isub hx hb dX11_feed_91 ?_
  refine lv_topi (fun v86 ev86 => ?_)
  obtain rfl : v86 = 0 := ev86.trans (by decide)
  refine lv_ishr hx hb dX11_feed_92 ?_
  refine lv_i2b hx hb dX11_feed_93 rfl ?_
  refine lv_topi (fun v87 ev87 => ?_)
  refine va_bast hx hb hK.1 hP hD hS 1 1 rfl rfl (show ¬ (_ ∨ _) by decide) dX11_feed_94 (fun H locs hP hD hS => ?_)
  obtain ⟨f88, hP, hD⟩ : ∃ f88 : Nat → Int32, va_P G vwCl [(mc0 cs h q), (q 4, .inl (cs 1, 900, .inl f88)), (q 6, .inl (cs 0, 5, .inl f8))] H ∧ va_D A [(mc0 cs h q), (q 4, .inl (cs 1, 900, .inl f88)), (q 6, .inl (cs 0, 5, .inl f8))] := ⟨_, hP, hD⟩
  refine lv_iinc (v := 8) (lv' := [(6, .int 8), (0, .ref h), (1, .int a1), (2, .int a2), (3, .int a3), (4, .int a4), (5, .int a5)]) hx hb dX11_feed_95 hl (k := 0) rfl (by decide) (by decide) rfl (fun ls hl => ?_)
  refine lv_goto (tgt := 55) hx hb dX11_feed_98 (by decide) ?_
  refine lv_iload hx hb dX11_feed_55 (lv_at hl 0 rfl) ?_
  refine lv_bipush (v := 20) hx hb dX11_feed_57 (by decide) ?_
  refine lv_icmp_ge (tgt := 101) hx hb dX11_feed_59 (by decide) (fun c89 => False.elim (by revert c89; decide)) (fun c90 => ?_)
  refine lv_aload_n hx hb dX11_feed_62 rfl (lv_at hl 1 rfl) ?_
  refine getF hx hb ht hown hK hP iTX11 0 4 rfl rfl (by decide) fl_RX11_20 rfl dX11_feed_63 ?_
  refine lv_aload_n hx hb dX11_feed_66 rfl (lv_at hl 1 rfl) ?_
  refine getF hx hb ht hown hK hP iTX11 0 5 rfl rfl (by decide) fl_RX11_93 rfl dX11_feed_67 ?_
  refine lv_iload hx hb dX11_feed_70 (lv_at hl 0 rfl) ?_
  refine lv_iadd hx hb dX11_feed_72 ?_
  refine lv_topi (fun v91 ev91 => ?_)
  obtain rfl : v91 = 8 := ev91.trans (by decide)
  refine lv_aload_n hx hb dX11_feed_73 rfl (lv_at hl 1 rfl) ?_
  refine getF hx hb ht hown hK hP iTX11 0 6 rfl rfl (by decide) fl_RX11_24 rfl dX11_feed_74 ?_
  refine lv_iload hx hb dX11_feed_77 (lv_at hl 0 rfl) ?_
  refine lv_iconst (v := 4) hx hb dX11_feed_79 (by decide) ?_
  refine lv_idiv hx hb dX11_feed_80 (by decide) ?_
  refine lv_topi (fun v92 ev92 => ?_)
  obtain rfl : v92 = 2 := ev92.trans (by decide)
  refine va_iald hx hb hK.1 hP 2 0 rfl rfl (show ¬ (_ ∨ _) by decide) dX11_feed_81 ?_
  refine lv_topi (fun v93 ev93 => ?_)
  refine lv_bipush (v := 24) hx hb dX11_feed_82 (by decide) ?_
  refine lv_bipush (v := 8) hx hb dX11_feed_84 (by decide) ?_
  refine lv_iload hx hb dX11_feed_86 (lv_at hl 0 rfl) ?_
  refine lv_iconst (v := 4) hx hb dX11_feed_88 (by decide) ?_
  refine lv_irem hx hb dX11_feed_89 (by decide) ?_
  refine lv_topi (fun v94 ev94 => ?_)
  obtain rfl : v94 = 0 := ev94.trans (by decide)
  refine lv_imul hx hb dX11_feed_90 ?_
  refine lv_topi (fun v95 ev95 => ?_)
  obtain rfl : v95 = 0 := ev95.trans (by decide)
  refine lv_isub hx hb dX11_feed_91 ?_
  refine lv_topi (fun v96 ev96 => ?_)
  obtain rfl : v96 = 24 := ev96.trans (by decide)
  refine lv_ishr hx hb dX11_feed_92 ?_
  refine lv_i2b hx hb dX11_feed_93 rfl ?_
  refine lv_topi (fun v97 ev97 => ?_)
  refine va_bast hx hb hK.1 hP hD hS 1 1 rfl rfl (show ¬ (_ ∨ _) by decide) dX11_feed_94 (fun H locs hP hD hS => ?_)
  obtain ⟨f98, hP, hD⟩ : ∃ f98 : Nat → Int32, va_P G vwCl [(mc0 cs h q), (q 4, .inl (cs 1, 900, .inl f98)), (q 6, .inl (cs 0, 5, .inl f8))] H ∧ va_D A [(mc0 cs h q), (q 4, .inl (cs 1, 900, .inl f98)), (q 6, .inl (cs 0, 5, .inl f8))] := ⟨_, hP, hD⟩
  refine lv_iinc (v := 9) (lv' := [(6, .int 9), (0, .ref h), (1, .int a1), (2, .int a2), (3, .int a3), (4, .int a4), (5, .int a5)]) hx hb dX11_feed_95 hl (k := 0) rfl (by decide) (by decide) rfl (fun ls hl => ?_)
  refine lv_goto (tgt := 55) hx hb dX11_feed_98 (by decide) ?_
  refine lv_iload hx hb dX11_feed_55 (lv_at hl 0 rfl) ?_
  refine lv_bipush (v := 20) hx hb dX11_feed_57 (by decide) ?_
  refine lv_icmp_ge (tgt := 101) hx hb dX11_feed_59 (by decide) (fun c99 => False.elim (by revert c99; decide)) (fun c100 => ?_)
  refine lv_aload_n hx hb dX11_feed_62 rfl (lv_at hl 1 rfl) ?_
  refine getF hx hb ht hown hK hP iTX11 0 4 rfl rfl (by decide) fl_RX11_20 rfl dX11_feed_63 ?_
  refine lv_aload_n hx hb dX11_feed_66 rfl (lv_at hl 1 rfl) ?_
  refine getF hx hb ht hown hK hP iTX11 0 5 rfl rfl (by decide) fl_RX11_93 rfl dX11_feed_67 ?_
  refine lv_iload hx hb dX11_feed_70 (lv_at hl 0 rfl) ?_
  refine lv_iadd hx hb dX11_feed_72 ?_
  refine lv_topi (fun v101 ev101 => ?_)
  obtain rfl : v101 = 9 := ev101.trans (by decide)
  refine lv_aload_n hx hb dX11_feed_73 rfl (lv_at hl 1 rfl) ?_
  refine getF hx hb ht hown hK hP iTX11 0 6 rfl rfl (by decide) fl_RX11_24 rfl dX11_feed_74 ?_
  refine lv_iload hx hb dX11_feed_77 (lv_at hl 0 rfl) ?_
  refine lv_iconst (v := 4) hx hb dX11_feed_79 (by decide) ?_
  refine lv_idiv hx hb dX11_feed_80 (by decide) ?_
  refine lv_topi (fun v102 ev102 => ?_)
  obtain rfl : v102 = 2 := ev102.trans (by decide)
  refine va_iald hx hb hK.1 hP 2 0 rfl rfl (show ¬ (_ ∨ _) by decide) dX11_feed_81 ?_
  refine lv_topi (fun v103 ev103 => ?_)
  refine lv_bipush (v := 24) hx hb dX11_feed_82 (by decide) ?_
  refine lv_bipush (v := 8) hx hb dX11_feed_84 (by decide) ?_
  refine lv_iload hx hb dX11_feed_86 (lv_at hl 0 rfl) ?_
  refine lv_iconst (v := 4) hx hb dX11_feed_88 (by decide) ?_
  refine lv_irem hx hb dX11_feed_89 (by decide) ?_
  refine lv_topi (fun v104 ev104 => ?_)
  obtain rfl : v104 = 1 := ev104.trans (by decide)
  refine lv_imul hx hb dX11_feed_90 ?_
  refine lv_topi (fun v105 ev105 => ?_)
  obtain rfl : v105 = 8 := ev105.trans (by decide)
  refine lv_isub hx hb dX11_feed_91 ?_
  refine lv_topi (fun v106 ev106 => ?_)
  obtain rfl : v106 = 16 := ev106.trans (by decide)
  refine lv_ishr hx hb dX11_feed_92 ?_
  refine lv_i2b hx hb dX11_feed_93 rfl ?_
  refine lv_topi (fun v107 ev107 => ?_)
  refine va_bast hx hb hK.1 hP hD hS 1 1 rfl rfl (show ¬ (_ ∨ _) by decide) dX11_feed_94 (fun H locs hP hD hS => ?_)
  obtain ⟨f108, hP, hD⟩ : ∃ f108 : Nat → Int32, va_P G vwCl [(mc0 cs h q), (q 4, .inl (cs 1, 900, .inl f108)), (q 6, .inl (cs 0, 5, .inl f8))] H ∧ va_D A [(mc0 cs h q), (q 4, .inl (cs 1, 900, .inl f108)), (q 6, .inl (cs 0, 5, .inl f8))] := ⟨_, hP, hD⟩
  refine lv_iinc (v := 10) (lv' := [(6, .int 10), (0, .ref h), (1, .int a1), (2, .int a2), (3, .int a3), (4, .int a4), (5, .int a5)]) hx hb dX11_feed_95 hl (k := 0) rfl (by decide) (by decide) rfl (fun ls hl => ?_)
  refine lv_goto (tgt := 55) hx hb dX11_feed_98 (by decide) ?_
  refine lv_iload hx hb dX11_feed_55 (lv_at hl 0 rfl) ?_
  refine lv_bipush (v := 20) hx hb dX11_feed_57 (by decide) ?_
  refine lv_icmp_ge (tgt := 101) hx hb dX11_feed_59 (by decide) (fun c109 => False.elim (by revert c109; decide)) (fun c110 => ?_)
  refine lv_aload_n hx hb dX11_feed_62 rfl (lv_at hl 1 rfl) ?_
  refine getF hx hb ht hown hK hP iTX11 0 4 rfl rfl (by decide) fl_RX11_20 rfl dX11_feed_63 ?_
  refine lv_aload_n hx hb dX11_feed_66 rfl (lv_at hl 1 rfl) ?_
  refine getF hx hb ht hown hK hP iTX11 0 5 rfl rfl (by decide) fl_RX11_93 rfl dX11_feed_67 ?_
  refine lv_iload hx hb dX11_feed_70 (lv_at hl 0 rfl) ?_
  refine lv_iadd hx hb dX11_feed_72 ?_
  refine lv_topi (fun v111 ev111 => ?_)
  obtain rfl : v111 = 10 := ev111.trans (by decide)
  refine lv_aload_n hx hb dX11_feed_73 rfl (lv_at hl 1 rfl) ?_
  refine getF hx hb ht hown hK hP iTX11 0 6 rfl rfl (by decide) fl_RX11_24 rfl dX11_feed_74 ?_
  refine lv_iload hx hb dX11_feed_77 (lv_at hl 0 rfl) ?_
  refine lv_iconst (v := 4) hx hb dX11_feed_79 (by decide) ?_
  refine lv_idiv hx hb dX11_feed_80 (by decide) ?_
  refine lv_topi (fun v112 ev112 => ?_)
  obtain rfl : v112 = 2 := ev112.trans (by decide)
  refine va_iald hx hb hK.1 hP 2 0 rfl rfl (show ¬ (_ ∨ _) by decide) dX11_feed_81 ?_
  refine lv_topi (fun v113 ev113 => ?_)
  refine lv_bipush (v := 24) hx hb dX11_feed_82 (by decide) ?_
  refine lv_bipush (v := 8) hx hb dX11_feed_84 (by decide) ?_
  refine lv_iload hx hb dX11_feed_86 (lv_at hl 0 rfl) ?_
  refine lv_iconst (v := 4) hx hb dX11_feed_88 (by decide) ?_
  refine lv_irem hx hb dX11_feed_89 (by decide) ?_
  refine lv_topi (fun v114 ev114 => ?_)
  obtain rfl : v114 = 2 := ev114.trans (by decide)
  refine lv_imul hx hb dX11_feed_90 ?_
  refine lv_topi (fun v115 ev115 => ?_)
  obtain rfl : v115 = 16 := ev115.trans (by decide)
  refine lv_isub hx hb dX11_feed_91 ?_
  refine lv_topi (fun v116 ev116 => ?_)
  obtain rfl : v116 = 8 := ev116.trans (by decide)
  refine lv_ishr hx hb dX11_feed_92 ?_
  refine lv_i2b hx hb dX11_feed_93 rfl ?_
  refine lv_topi (fun v117 ev117 => ?_)
  refine va_bast hx hb hK.1 hP hD hS 1 1 rfl rfl (show ¬ (_ ∨ _) by decide) dX11_feed_94 (fun H locs hP hD hS => ?_)
  obtain ⟨f118, hP, hD⟩ : ∃ f118 : Nat → Int32, va_P G vwCl [(mc0 cs h q), (q 4, .inl (cs 1, 900, .inl f118)), (q 6, .inl (cs 0, 5, .inl f8))] H ∧ va_D A [(mc0 cs h q), (q 4, .inl (cs 1, 900, .inl f118)), (q 6, .inl (cs 0, 5, .inl f8))] := ⟨_, hP, hD⟩
  refine lv_iinc (v := 11) (lv' := [(6, .int 11), (0, .ref h), (1, .int a1), (2, .int a2), (3, .int a3), (4, .int a4), (5, .int a5)]) hx hb dX11_feed_95 hl (k := 0) rfl (by decide) (by decide) rfl (fun ls hl => ?_)
  refine lv_goto (tgt := 55) hx hb dX11_feed_98 (by decide) ?_
  refine lv_iload hx hb dX11_feed_55 (lv_at hl 0 rfl) ?_
  refine lv_bipush (v := 20) hx hb dX11_feed_57 (by decide) ?_
  refine lv_icmp_ge (tgt := 101) hx hb dX11_feed_59 (by decide) (fun c119 => False.elim (by revert c119; decide)) (fun c120 => ?_)
  refine lv_aload_n hx hb dX11_feed_62 rfl (lv_at hl 1 rfl) ?_
  refine getF hx hb ht hown hK hP iTX11 0 4 rfl rfl (by decide) fl_RX11_20 rfl dX11_feed_63 ?_
  refine lv_aload_n hx hb dX11_feed_66 rfl (lv_at hl 1 rfl) ?_
  refine getF hx hb ht hown hK hP iTX11 0 5 rfl rfl (by decide) fl_RX11_93 rfl dX11_feed_67 ?_
  refine lv_iload hx hb dX11_feed_70 (lv_at hl 0 rfl) ?_
  refine lv_iadd hx hb dX11_feed_72 ?_
  refine lv_topi (fun v121 ev121 => ?_)
  obtain rfl : v121 = 11 := ev121.trans (by decide)
  refine lv_aload_n hx hb dX11_feed_73 rfl (lv_at hl 1 rfl) ?_
  refine getF hx hb ht hown hK hP iTX11 0 6 rfl rfl (by decide) fl_RX11_24 rfl dX11_feed_74 ?_
  refine lv_iload hx hb dX11_feed_77 (lv_at hl 0 rfl) ?_
  refine lv_iconst (v := 4) hx hb dX11_feed_79 (by decide) ?_
  refine lv_idiv hx hb dX11_feed_80 (by decide) ?_
  refine lv_topi (fun v122 ev122 => ?_)
  obtain rfl : v122 = 2 := ev122.trans (by decide)
  refine va_iald hx hb hK.1 hP 2 0 rfl rfl (show ¬ (_ ∨ _) by decide) dX11_feed_81 ?_
  refine lv_topi (fun v123 ev123 => ?_)
  refine lv_bipush (v := 24) hx hb dX11_feed_82 (by decide) ?_
  refine lv_bipush (v := 8) hx hb dX11_feed_84 (by decide) ?_
  refine lv_iload hx hb dX11_feed_86 (lv_at hl 0 rfl) ?_
  refine lv_iconst (v := 4) hx hb dX11_feed_88 (by decide) ?_
  refine lv_irem hx hb dX11_feed_89 (by decide) ?_
  refine lv_topi (fun v124 ev124 => ?_)
  obtain rfl : v124 = 3 := ev124.trans (by decide)
  refine lv_imul hx hb dX11_feed_90 ?_
  refine lv_topi (fun v125 ev125 => ?_)
  obtain rfl : v125 = 24 := ev125.trans (by decide)
  refine lv_isub hx hb dX11_feed_91 ?_
  refine lv_topi (fun v126 ev126 => ?_)
  obtain rfl : v126 = 0 := ev126.trans (by decide)
  refine lv_ishr hx hb dX11_feed_92 ?_
  refine lv_i2b hx hb dX11_feed_93 rfl ?_
  refine lv_topi (fun v127 ev127 => ?_)
  refine va_bast hx hb hK.1 hP hD hS 1 1 rfl rfl (show ¬ (_ ∨ _) by decide) dX11_feed_94 (fun H locs hP hD hS => ?_)
  obtain ⟨f128, hP, hD⟩ : ∃ f128 : Nat → Int32, va_P G vwCl [(mc0 cs h q), (q 4, .inl (cs 1, 900, .inl f128)), (q 6, .inl (cs 0, 5, .inl f8))] H ∧ va_D A [(mc0 cs h q), (q 4, .inl (cs 1, 900, .inl f128)), (q 6, .inl (cs 0, 5, .inl f8))] := ⟨_, hP, hD⟩
  refine lv_iinc (v := 12) (lv' := [(6, .int 12), (0, .ref h), (1, .int a1), (2, .int a2), (3, .int a3), (4, .int a4), (5, .int a5)]) hx hb dX11_feed_95 hl (k := 0) rfl (by decide) (by decide) rfl (fun ls hl => ?_)
  refine lv_goto (tgt := 55) hx hb dX11_feed_98 (by decide) ?_
  refine lv_iload hx hb dX11_feed_55 (lv_at hl 0 rfl) ?_
  refine lv_bipush (v := 20) hx hb dX11_feed_57 (by decide) ?_
  refine lv_icmp_ge (tgt := 101) hx hb dX11_feed_59 (by decide) (fun c129 => False.elim (by revert c129; decide)) (fun c130 => ?_)
  refine lv_aload_n hx hb dX11_feed_62 rfl (lv_at hl 1 rfl) ?_
  refine getF hx hb ht hown hK hP iTX11 0 4 rfl rfl (by decide) fl_RX11_20 rfl dX11_feed_63 ?_
  refine lv_aload_n hx hb dX11_feed_66 rfl (lv_at hl 1 rfl) ?_
  refine getF hx hb ht hown hK hP iTX11 0 5 rfl rfl (by decide) fl_RX11_93 rfl dX11_feed_67 ?_
  refine lv_iload hx hb dX11_feed_70 (lv_at hl 0 rfl) ?_
  refine lv_iadd hx hb dX11_feed_72 ?_
  refine lv_topi (fun v131 ev131 => ?_)
  obtain rfl : v131 = 12 := ev131.trans (by decide)
  refine lv_aload_n hx hb dX11_feed_73 rfl (lv_at hl 1 rfl) ?_
  refine getF hx hb ht hown hK hP iTX11 0 6 rfl rfl (by decide) fl_RX11_24 rfl dX11_feed_74 ?_
  refine lv_iload hx hb dX11_feed_77 (lv_at hl 0 rfl) ?_
  refine lv_iconst (v := 4) hx hb dX11_feed_79 (by decide) ?_
  refine lv_idiv hx hb dX11_feed_80 (by decide) ?_
  refine lv_topi (fun v132 ev132 => ?_)
  obtain rfl : v132 = 3 := ev132.trans (by decide)
  refine va_iald hx hb hK.1 hP 2 0 rfl rfl (show ¬ (_ ∨ _) by decide) dX11_feed_81 ?_
  refine lv_topi (fun v133 ev133 => ?_)
  refine lv_bipush (v := 24) hx hb dX11_feed_82 (by decide) ?_
  refine lv_bipush (v := 8) hx hb dX11_feed_84 (by decide) ?_
  refine lv_iload hx hb dX11_feed_86 (lv_at hl 0 rfl) ?_
  refine lv_iconst (v := 4) hx hb dX11_feed_88 (by decide) ?_
  refine lv_irem hx hb dX11_feed_89 (by decide) ?_
  refine lv_topi (fun v134 ev134 => ?_)
  obtain rfl : v134 = 0 := ev134.trans (by decide)
  refine lv_imul hx hb dX11_feed_90 ?_
  refine lv_topi (fun v135 ev135 => ?_)
  obtain rfl : v135 = 0 := ev135.trans (by decide)
  refine lv_isub hx hb dX11_feed_91 ?_
  refine lv_topi (fun v136 ev136 => ?_)
  obtain rfl : v136 = 24 := ev136.trans (by decide)
  refine lv_ishr hx hb dX11_feed_92 ?_
  refine lv_i2b hx hb dX11_feed_93 rfl ?_
  refine lv_topi (fun v137 ev137 => ?_)
  refine va_bast hx hb hK.1 hP hD hS 1 1 rfl rfl (show ¬ (_ ∨ _) by decide) dX11_feed_94 (fun H locs hP hD hS => ?_)
  obtain ⟨f138, hP, hD⟩ : ∃ f138 : Nat → Int32, va_P G vwCl [(mc0 cs h q), (q 4, .inl (cs 1, 900, .inl f138)), (q 6, .inl (cs 0, 5, .inl f8))] H ∧ va_D A [(mc0 cs h q), (q 4, .inl (cs 1, 900, .inl f138)), (q 6, .inl (cs 0, 5, .inl f8))] := ⟨_, hP, hD⟩
  refine lv_iinc (v := 13) (lv' := [(6, .int 13), (0, .ref h), (1, .int a1), (2, .int a2), (3, .int a3), (4, .int a4), (5, .int a5)]) hx hb dX11_feed_95 hl (k := 0) rfl (by decide) (by decide) rfl (fun ls hl => ?_)
  refine lv_goto (tgt := 55) hx hb dX11_feed_98 (by decide) ?_
  refine lv_iload hx hb dX11_feed_55 (lv_at hl 0 rfl) ?_
  refine lv_bipush (v := 20) hx hb dX11_feed_57 (by decide) ?_
  refine lv_icmp_ge (tgt := 101) hx hb dX11_feed_59 (by decide) (fun c139 => False.elim (by revert c139; decide)) (fun c140 => ?_)
  refine lv_aload_n hx hb dX11_feed_62 rfl (lv_at hl 1 rfl) ?_
  refine getF hx hb ht hown hK hP iTX11 0 4 rfl rfl (by decide) fl_RX11_20 rfl dX11_feed_63 ?_
  refine lv_aload_n hx hb dX11_feed_66 rfl (lv_at hl 1 rfl) ?_
  refine getF hx hb ht hown hK hP iTX11 0 5 rfl rfl (by decide) fl_RX11_93 rfl dX11_feed_67 ?_
  refine lv_iload hx hb dX11_feed_70 (lv_at hl 0 rfl) ?_
  refine lv_iadd hx hb dX11_feed_72 ?_
  refine lv_topi (fun v141 ev141 => ?_)
  obtain rfl : v141 = 13 := ev141.trans (by decide)
  refine lv_aload_n hx hb dX11_feed_73 rfl (lv_at hl 1 rfl) ?_
  refine getF hx hb ht hown hK hP iTX11 0 6 rfl rfl (by decide) fl_RX11_24 rfl dX11_feed_74 ?_
  refine lv_iload hx hb dX11_feed_77 (lv_at hl 0 rfl) ?_
  refine lv_iconst (v := 4) hx hb dX11_feed_79 (by decide) ?_
  refine lv_idiv hx hb dX11_feed_80 (by decide) ?_
  refine lv_topi (fun v142 ev142 => ?_)
  obtain rfl : v142 = 3 := ev142.trans (by decide)
  refine va_iald hx hb hK.1 hP 2 0 rfl rfl (show ¬ (_ ∨ _) by decide) dX11_feed_81 ?_
  refine lv_topi (fun v143 ev143 => ?_)
  refine lv_bipush (v := 24) hx hb dX11_feed_82 (by decide) ?_
  refine lv_bipush (v := 8) hx hb dX11_feed_84 (by decide) ?_
  refine lv_iload hx hb dX11_feed_86 (lv_at hl 0 rfl) ?_
  refine lv_iconst (v := 4) hx hb dX11_feed_88 (by decide) ?_
  refine lv_irem hx hb dX11_feed_89 (by decide) ?_
  refine lv_topi (fun v144 ev144 => ?_)
  obtain rfl : v144 = 1 := ev144.trans (by decide)
  refine lv_imul hx hb dX11_feed_90 ?_
  refine lv_topi (fun v145 ev145 => ?_)
  obtain rfl : v145 = 8 := ev145.trans (by decide)
  refine lv_isub hx hb dX11_feed_91 ?_
  refine lv_topi (fun v146 ev146 => ?_)
  obtain rfl : v146 = 16 := ev146.trans (by decide)
  refine lv_ishr hx hb dX11_feed_92 ?_
  refine lv_i2b hx hb dX11_feed_93 rfl ?_
  refine lv_topi (fun v147 ev147 => ?_)
  refine va_bast hx hb hK.1 hP hD hS 1 1 rfl rfl (show ¬ (_ ∨ _) by decide) dX11_feed_94 (fun H locs hP hD hS => ?_)
  obtain ⟨f148, hP, hD⟩ : ∃ f148 : Nat → Int32, va_P G vwCl [(mc0 cs h q), (q 4, .inl (cs 1, 900, .inl f148)), (q 6, .inl (cs 0, 5, .inl f8))] H ∧ va_D A [(mc0 cs h q), (q 4, .inl (cs 1, 900, .inl f148)), (q 6, .inl (cs 0, 5, .inl f8))] := ⟨_, hP, hD⟩
  refine lv_iinc (v := 14) (lv' := [(6, .int 14), (0, .ref h), (1, .int a1), (2, .int a2), (3, .int a3), (4, .int a4), (5, .int a5)]) hx hb dX11_feed_95 hl (k := 0) rfl (by decide) (by decide) rfl (fun ls hl => ?_)
  refine lv_goto (tgt := 55) hx hb dX11_feed_98 (by decide) ?_
  refine lv_iload hx hb dX11_feed_55 (lv_at hl 0 rfl) ?_
  refine lv_bipush (v := 20) hx hb dX11_feed_57 (by decide) ?_
  refine lv_icmp_ge (tgt := 101) hx hb dX11_feed_59 (by decide) (fun c149 => False.elim (by revert c149; decide)) (fun c150 => ?_)
  refine lv_aload_n hx hb dX11_feed_62 rfl (lv_at hl 1 rfl) ?_
  refine getF hx hb ht hown hK hP iTX11 0 4 rfl rfl (by decide) fl_RX11_20 rfl dX11_feed_63 ?_
  refine lv_aload_n hx hb dX11_feed_66 rfl (lv_at hl 1 rfl) ?_
  refine getF hx hb ht hown hK hP iTX11 0 5 rfl rfl (by decide) fl_RX11_93 rfl dX11_feed_67 ?_
  refine lv_iload hx hb dX11_feed_70 (lv_at hl 0 rfl) ?_
  refine lv_iadd hx hb dX11_feed_72 ?_
  refine lv_topi (fun v151 ev151 => ?_)
  obtain rfl : v151 = 14 := ev151.trans (by decide)
  refine lv_aload_n hx hb dX11_feed_73 rfl (lv_at hl 1 rfl) ?_
  refine getF hx hb ht hown hK hP iTX11 0 6 rfl rfl (by decide) fl_RX11_24 rfl dX11_feed_74 ?_
  refine lv_iload hx hb dX11_feed_77 (lv_at hl 0 rfl) ?_
  refine lv_iconst (v := 4) hx hb dX11_feed_79 (by decide) ?_
  refine lv_idiv hx hb dX11_feed_80 (by decide) ?_
  refine lv_topi (fun v152 ev152 => ?_)
  obtain rfl : v152 = 3 := ev152.trans (by decide)
  refine va_iald hx hb hK.1 hP 2 0 rfl rfl (show ¬ (_ ∨ _) by decide) dX11_feed_81 ?_
  refine lv_topi (fun v153 ev153 => ?_)
  refine lv_bipush (v := 24) hx hb dX11_feed_82 (by decide) ?_
  refine lv_bipush (v := 8) hx hb dX11_feed_84 (by decide) ?_
  refine lv_iload hx hb dX11_feed_86 (lv_at hl 0 rfl) ?_
  refine lv_iconst (v := 4) hx hb dX11_feed_88 (by decide) ?_
  refine lv_irem hx hb dX11_feed_89 (by decide) ?_
  refine lv_topi (fun v154 ev154 => ?_)
  obtain rfl : v154 = 2 := ev154.trans (by decide)
  refine lv_imul hx hb dX11_feed_90 ?_
  refine lv_topi (fun v155 ev155 => ?_)
  obtain rfl : v155 = 16 := ev155.trans (by decide)
  refine lv_isub hx hb dX11_feed_91 ?_
  refine lv_topi (fun v156 ev156 => ?_)
  obtain rfl : v156 = 8 := ev156.trans (by decide)
  refine lv_ishr hx hb dX11_feed_92 ?_
  refine lv_i2b hx hb dX11_feed_93 rfl ?_
  refine lv_topi (fun v157 ev157 => ?_)
  refine va_bast hx hb hK.1 hP hD hS 1 1 rfl rfl (show ¬ (_ ∨ _) by decide) dX11_feed_94 (fun H locs hP hD hS => ?_)
  obtain ⟨f158, hP, hD⟩ : ∃ f158 : Nat → Int32, va_P G vwCl [(mc0 cs h q), (q 4, .inl (cs 1, 900, .inl f158)), (q 6, .inl (cs 0, 5, .inl f8))] H ∧ va_D A [(mc0 cs h q), (q 4, .inl (cs 1, 900, .inl f158)), (q 6, .inl (cs 0, 5, .inl f8))] := ⟨_, hP, hD⟩
  refine lv_iinc (v := 15) (lv' := [(6, .int 15), (0, .ref h), (1, .int a1), (2, .int a2), (3, .int a3), (4, .int a4), (5, .int a5)]) hx hb dX11_feed_95 hl (k := 0) rfl (by decide) (by decide) rfl (fun ls hl => ?_)
  refine lv_goto (tgt := 55) hx hb dX11_feed_98 (by decide) ?_
  refine lv_iload hx hb dX11_feed_55 (lv_at hl 0 rfl) ?_
  refine lv_bipush (v := 20) hx hb dX11_feed_57 (by decide) ?_
  refine lv_icmp_ge (tgt := 101) hx hb dX11_feed_59 (by decide) (fun c159 => False.elim (by revert c159; decide)) (fun c160 => ?_)
  refine lv_aload_n hx hb dX11_feed_62 rfl (lv_at hl 1 rfl) ?_
  refine getF hx hb ht hown hK hP iTX11 0 4 rfl rfl (by decide) fl_RX11_20 rfl dX11_feed_63 ?_
  refine lv_aload_n hx hb dX11_feed_66 rfl (lv_at hl 1 rfl) ?_
  refine getF hx hb ht hown hK hP iTX11 0 5 rfl rfl (by decide) fl_RX11_93 rfl dX11_feed_67 ?_
  refine lv_iload hx hb dX11_feed_70 (lv_at hl 0 rfl) ?_
  refine lv_iadd hx hb dX11_feed_72 ?_
  refine lv_topi (fun v161 ev161 => ?_)
  obtain rfl : v161 = 15 := ev161.trans (by decide)
  refine lv_aload_n hx hb dX11_feed_73 rfl (lv_at hl 1 rfl) ?_
  refine getF hx hb ht hown hK hP iTX11 0 6 rfl rfl (by decide) fl_RX11_24 rfl dX11_feed_74 ?_
  refine lv_iload hx hb dX11_feed_77 (lv_at hl 0 rfl) ?_
  refine lv_iconst (v := 4) hx hb dX11_feed_79 (by decide) ?_
  refine lv_idiv hx hb dX11_feed_80 (by decide) ?_
  refine lv_topi (fun v162 ev162 => ?_)
  obtain rfl : v162 = 3 := ev162.trans (by decide)
  refine va_iald hx hb hK.1 hP 2 0 rfl rfl (show ¬ (_ ∨ _) by decide) dX11_feed_81 ?_
  refine lv_topi (fun v163 ev163 => ?_)
  refine lv_bipush (v := 24) hx hb dX11_feed_82 (by decide) ?_
  refine lv_bipush (v := 8) hx hb dX11_feed_84 (by decide) ?_
  refine lv_iload hx hb dX11_feed_86 (lv_at hl 0 rfl) ?_
  refine lv_iconst (v := 4) hx hb dX11_feed_88 (by decide) ?_
  refine lv_irem hx hb dX11_feed_89 (by decide) ?_
  refine lv_topi (fun v164 ev164 => ?_)
  obtain rfl : v164 = 3 := ev164.trans (by decide)
  refine lv_imul hx hb dX11_feed_90 ?_
  refine lv_topi (fun v165 ev165 => ?_)
  obtain rfl : v165 = 24 := ev165.trans (by decide)
  refine lv_isub hx hb dX11_feed_91 ?_
  refine lv_topi (fun v166 ev166 => ?_)
  obtain rfl : v166 = 0 := ev166.trans (by decide)
  refine lv_ishr hx hb dX11_feed_92 ?_
  refine lv_i2b hx hb dX11_feed_93 rfl ?_
  refine lv_topi (fun v167 ev167 => ?_)
  refine va_bast hx hb hK.1 hP hD hS 1 1 rfl rfl (show ¬ (_ ∨ _) by decide) dX11_feed_94 (fun H locs hP hD hS => ?_)
  obtain ⟨f168, hP, hD⟩ : ∃ f168 : Nat → Int32, va_P G vwCl [(mc0 cs h q), (q 4, .inl (cs 1, 900, .inl f168)), (q 6, .inl (cs 0, 5, .inl f8))] H ∧ va_D A [(mc0 cs h q), (q 4, .inl (cs 1, 900, .inl f168)), (q 6, .inl (cs 0, 5, .inl f8))] := ⟨_, hP, hD⟩
  refine lv_iinc (v := 16) (lv' := [(6, .int 16), (0, .ref h), (1, .int a1), (2, .int a2), (3, .int a3), (4, .int a4), (5, .int a5)]) hx hb dX11_feed_95 hl (k := 0) rfl (by decide) (by decide) rfl (fun ls hl => ?_)
  refine lv_goto (tgt := 55) hx hb dX11_feed_98 (by decide) ?_
  refine lv_iload hx hb dX11_feed_55 (lv_at hl 0 rfl) ?_
  refine lv_bipush (v := 20) hx hb dX11_feed_57 (by decide) ?_
  refine lv_icmp_ge (tgt := 101) hx hb dX11_feed_59 (by decide) (fun c169 => False.elim (by revert c169; decide)) (fun c170 => ?_)
  refine lv_aload_n hx hb dX11_feed_62 rfl (lv_at hl 1 rfl) ?_
  refine getF hx hb ht hown hK hP iTX11 0 4 rfl rfl (by decide) fl_RX11_20 rfl dX11_feed_63 ?_
  refine lv_aload_n hx hb dX11_feed_66 rfl (lv_at hl 1 rfl) ?_
  refine getF hx hb ht hown hK hP iTX11 0 5 rfl rfl (by decide) fl_RX11_93 rfl dX11_feed_67 ?_
  refine lv_iload hx hb dX11_feed_70 (lv_at hl 0 rfl) ?_
  refine lv_iadd hx hb dX11_feed_72 ?_
  refine lv_topi (fun v171 ev171 => ?_)
  obtain rfl : v171 = 16 := ev171.trans (by decide)
  refine lv_aload_n hx hb dX11_feed_73 rfl (lv_at hl 1 rfl) ?_
  refine getF hx hb ht hown hK hP iTX11 0 6 rfl rfl (by decide) fl_RX11_24 rfl dX11_feed_74 ?_
  refine lv_iload hx hb dX11_feed_77 (lv_at hl 0 rfl) ?_
  refine lv_iconst (v := 4) hx hb dX11_feed_79 (by decide) ?_
  refine lv_idiv hx hb dX11_feed_80 (by decide) ?_
  refine lv_topi (fun v172 ev172 => ?_)
  obtain rfl : v172 = 4 := ev172.trans (by decide)
  refine va_iald hx hb hK.1 hP 2 0 rfl rfl (show ¬ (_ ∨ _) by decide) dX11_feed_81 ?_
  refine lv_topi (fun v173 ev173 => ?_)
  refine lv_bipush (v := 24) hx hb dX11_feed_82 (by decide) ?_
  refine lv_bipush (v := 8) hx hb dX11_feed_84 (by decide) ?_
  refine lv_iload hx hb dX11_feed_86 (lv_at hl 0 rfl) ?_
  refine lv_iconst (v := 4) hx hb dX11_feed_88 (by decide) ?_
  refine lv_irem hx hb dX11_feed_89 (by decide) ?_
  refine lv_topi (fun v174 ev174 => ?_)
  obtain rfl : v174 = 0 := ev174.trans (by decide)
  refine lv_imul hx hb dX11_feed_90 ?_
  refine lv_topi (fun v175 ev175 => ?_)
  obtain rfl : v175 = 0 := ev175.trans (by decide)
  refine lv_isub hx hb dX11_feed_91 ?_
  refine lv_topi (fun v176 ev176 => ?_)
  obtain rfl : v176 = 24 := ev176.trans (by decide)
  refine lv_ishr hx hb dX11_feed_92 ?_
  refine lv_i2b hx hb dX11_feed_93 rfl ?_
  refine lv_topi (fun v177 ev177 => ?_)
  refine va_bast hx hb hK.1 hP hD hS 1 1 rfl rfl (show ¬ (_ ∨ _) by decide) dX11_feed_94 (fun H locs hP hD hS => ?_)
  obtain ⟨f178, hP, hD⟩ : ∃ f178 : Nat → Int32, va_P G vwCl [(mc0 cs h q), (q 4, .inl (cs 1, 900, .inl f178)), (q 6, .inl (cs 0, 5, .inl f8))] H ∧ va_D A [(mc0 cs h q), (q 4, .inl (cs 1, 900, .inl f178)), (q 6, .inl (cs 0, 5, .inl f8))] := ⟨_, hP, hD⟩
  refine lv_iinc (v := 17) (lv' := [(6, .int 17), (0, .ref h), (1, .int a1), (2, .int a2), (3, .int a3), (4, .int a4), (5, .int a5)]) hx hb dX11_feed_95 hl (k := 0) rfl (by decide) (by decide) rfl (fun ls hl => ?_)
  refine lv_goto (tgt := 55) hx hb dX11_feed_98 (by decide) ?_
  refine lv_iload hx hb dX11_feed_55 (lv_at hl 0 rfl) ?_
  refine lv_bipush (v := 20) hx hb dX11_feed_57 (by decide) ?_
  refine lv_icmp_ge (tgt := 101) hx hb dX11_feed_59 (by decide) (fun c179 => False.elim (by revert c179; decide)) (fun c180 => ?_)
  refine lv_aload_n hx hb dX11_feed_62 rfl (lv_at hl 1 rfl) ?_
  refine getF hx hb ht hown hK hP iTX11 0 4 rfl rfl (by decide) fl_RX11_20 rfl dX11_feed_63 ?_
  refine lv_aload_n hx hb dX11_feed_66 rfl (lv_at hl 1 rfl) ?_
  refine getF hx hb ht hown hK hP iTX11 0 5 rfl rfl (by decide) fl_RX11_93 rfl dX11_feed_67 ?_
  refine lv_iload hx hb dX11_feed_70 (lv_at hl 0 rfl) ?_
  refine lv_iadd hx hb dX11_feed_72 ?_
  refine lv_topi (fun v181 ev181 => ?_)
  obtain rfl : v181 = 17 := ev181.trans (by decide)
  refine lv_aload_n hx hb dX11_feed_73 rfl (lv_at hl 1 rfl) ?_
  refine getF hx hb ht hown hK hP iTX11 0 6 rfl rfl (by decide) fl_RX11_24 rfl dX11_feed_74 ?_
  refine lv_iload hx hb dX11_feed_77 (lv_at hl 0 rfl) ?_
  refine lv_iconst (v := 4) hx hb dX11_feed_79 (by decide) ?_
  refine lv_idiv hx hb dX11_feed_80 (by decide) ?_
  refine lv_topi (fun v182 ev182 => ?_)
  obtain rfl : v182 = 4 := ev182.trans (by decide)
  refine va_iald hx hb hK.1 hP 2 0 rfl rfl (show ¬ (_ ∨ _) by decide) dX11_feed_81 ?_
  refine lv_topi (fun v183 ev183 => ?_)
  refine lv_bipush (v := 24) hx hb dX11_feed_82 (by decide) ?_
  refine lv_bipush (v := 8) hx hb dX11_feed_84 (by decide) ?_
  refine lv_iload hx hb dX11_feed_86 (lv_at hl 0 rfl) ?_
  refine lv_iconst (v := 4) hx hb dX11_feed_88 (by decide) ?_
  refine lv_irem hx hb dX11_feed_89 (by decide) ?_
  refine lv_topi (fun v184 ev184 => ?_)
  obtain rfl : v184 = 1 := ev184.trans (by decide)
  refine lv_imul hx hb dX11_feed_90 ?_
  refine lv_topi (fun v185 ev185 => ?_)
  obtain rfl : v185 = 8 := ev185.trans (by decide)
  refine lv_isub hx hb dX11_feed_91 ?_
  refine lv_topi (fun v186 ev186 => ?_)
  obtain rfl : v186 = 16 := ev186.trans (by decide)
  refine lv_ishr hx hb dX11_feed_92 ?_
  refine lv_i2b hx hb dX11_feed_93 rfl ?_
  refine lv_topi (fun v187 ev187 => ?_)
  refine va_bast hx hb hK.1 hP hD hS 1 1 rfl rfl (show ¬ (_ ∨ _) by decide) dX11_feed_94 (fun H locs hP hD hS => ?_)
  obtain ⟨f188, hP, hD⟩ : ∃ f188 : Nat → Int32, va_P G vwCl [(mc0 cs h q), (q 4, .inl (cs 1, 900, .inl f188)), (q 6, .inl (cs 0, 5, .inl f8))] H ∧ va_D A [(mc0 cs h q), (q 4, .inl (cs 1, 900, .inl f188)), (q 6, .inl (cs 0, 5, .inl f8))] := ⟨_, hP, hD⟩
  refine lv_iinc (v := 18) (lv' := [(6, .int 18), (0, .ref h), (1, .int a1), (2, .int a2), (3, .int a3), (4, .int a4), (5, .int a5)]) hx hb dX11_feed_95 hl (k := 0) rfl (by decide) (by decide) rfl (fun ls hl => ?_)
  refine lv_goto (tgt := 55) hx hb dX11_feed_98 (by decide) ?_
  refine lv_iload hx hb dX11_feed_55 (lv_at hl 0 rfl) ?_
  refine lv_bipush (v := 20) hx hb dX11_feed_57 (by decide) ?_
  refine lv_icmp_ge (tgt := 101) hx hb dX11_feed_59 (by decide) (fun c189 => False.elim (by revert c189; decide)) (fun c190 => ?_)
  refine lv_aload_n hx hb dX11_feed_62 rfl (lv_at hl 1 rfl) ?_
  refine getF hx hb ht hown hK hP iTX11 0 4 rfl rfl (by decide) fl_RX11_20 rfl dX11_feed_63 ?_
  refine lv_aload_n hx hb dX11_feed_66 rfl (lv_at hl 1 rfl) ?_
  refine getF hx hb ht hown hK hP iTX11 0 5 rfl rfl (by decide) fl_RX11_93 rfl dX11_feed_67 ?_
  refine lv_iload hx hb dX11_feed_70 (lv_at hl 0 rfl) ?_
  refine lv_iadd hx hb dX11_feed_72 ?_
  refine lv_topi (fun v191 ev191 => ?_)
  obtain rfl : v191 = 18 := ev191.trans (by decide)
  refine lv_aload_n hx hb dX11_feed_73 rfl (lv_at hl 1 rfl) ?_
  refine getF hx hb ht hown hK hP iTX11 0 6 rfl rfl (by decide) fl_RX11_24 rfl dX11_feed_74 ?_
  refine lv_iload hx hb dX11_feed_77 (lv_at hl 0 rfl) ?_
  refine lv_iconst (v := 4) hx hb dX11_feed_79 (by decide) ?_
  refine lv_idiv hx hb dX11_feed_80 (by decide) ?_
  refine lv_topi (fun v192 ev192 => ?_)
  obtain rfl : v192 = 4 := ev192.trans (by decide)
  refine va_iald hx hb hK.1 hP 2 0 rfl rfl (show ¬ (_ ∨ _) by decide) dX11_feed_81 ?_
  refine lv_topi (fun v193 ev193 => ?_)
  refine lv_bipush (v := 24) hx hb dX11_feed_82 (by decide) ?_
  refine lv_bipush (v := 8) hx hb dX11_feed_84 (by decide) ?_
  refine lv_iload hx hb dX11_feed_86 (lv_at hl 0 rfl) ?_
  refine lv_iconst (v := 4) hx hb dX11_feed_88 (by decide) ?_
  refine lv_irem hx hb dX11_feed_89 (by decide) ?_
  refine lv_topi (fun v194 ev194 => ?_)
  obtain rfl : v194 = 2 := ev194.trans (by decide)
  refine lv_imul hx hb dX11_feed_90 ?_
  refine lv_topi (fun v195 ev195 => ?_)
  obtain rfl : v195 = 16 := ev195.trans (by decide)
  refine lv_isub hx hb dX11_feed_91 ?_
  refine lv_topi (fun v196 ev196 => ?_)
  obtain rfl : v196 = 8 := ev196.trans (by decide)
  refine lv_ishr hx hb dX11_feed_92 ?_
  refine lv_i2b hx hb dX11_feed_93 rfl ?_
  refine lv_topi (fun v197 ev197 => ?_)
  refine va_bast hx hb hK.1 hP hD hS 1 1 rfl rfl (show ¬ (_ ∨ _) by decide) dX11_feed_94 (fun H locs hP hD hS => ?_)
  obtain ⟨f198, hP, hD⟩ : ∃ f198 : Nat → Int32, va_P G vwCl [(mc0 cs h q), (q 4, .inl (cs 1, 900, .inl f198)), (q 6, .inl (cs 0, 5, .inl f8))] H ∧ va_D A [(mc0 cs h q), (q 4, .inl (cs 1, 900, .inl f198)), (q 6, .inl (cs 0, 5, .inl f8))] := ⟨_, hP, hD⟩
  refine lv_iinc (v := 19) (lv' := [(6, .int 19), (0, .ref h), (1, .int a1), (2, .int a2), (3, .int a3), (4, .int a4), (5, .int a5)]) hx hb dX11_feed_95 hl (k := 0) rfl (by decide) (by decide) rfl (fun ls hl => ?_)
  refine lv_goto (tgt := 55) hx hb dX11_feed_98 (by decide) ?_
  refine lv_iload hx hb dX11_feed_55 (lv_at hl 0 rfl) ?_
  refine lv_bipush (v := 20) hx hb dX11_feed_57 (by decide) ?_
  refine lv_icmp_ge (tgt := 101) hx hb dX11_feed_59 (by decide) (fun c199 => False.elim (by revert c199; decide)) (fun c200 => ?_)
  refine lv_aload_n hx hb dX11_feed_62 rfl (lv_at hl 1 rfl) ?_
  refine getF hx hb ht hown hK hP iTX11 0 4 rfl rfl (by decide) fl_RX11_20 rfl dX11_feed_63 ?_
  refine lv_aload_n hx hb dX11_feed_66 rfl (lv_at hl 1 rfl) ?_
  refine getF hx hb ht hown hK hP iTX11 0 5 rfl rfl (by decide) fl_RX11_93 rfl dX11_feed_67 ?_
  refine lv_iload hx hb dX11_feed_70 (lv_at hl 0 rfl) ?_
  refine lv_iadd hx hb dX11_feed_72 ?_
  refine lv_topi (fun v201 ev201 => ?_)
  obtain rfl : v201 = 19 := ev201.trans (by decide)
  refine lv_aload_n hx hb dX11_feed_73 rfl (lv_at hl 1 rfl) ?_
  refine getF hx hb ht hown hK hP iTX11 0 6 rfl rfl (by decide) fl_RX11_24 rfl dX11_feed_74 ?_
  refine lv_iload hx hb dX11_feed_77 (lv_at hl 0 rfl) ?_
  refine lv_iconst (v := 4) hx hb dX11_feed_79 (by decide) ?_
  refine lv_idiv hx hb dX11_feed_80 (by decide) ?_
  refine lv_topi (fun v202 ev202 => ?_)
  obtain rfl : v202 = 4 := ev202.trans (by decide)
  refine va_iald hx hb hK.1 hP 2 0 rfl rfl (show ¬ (_ ∨ _) by decide) dX11_feed_81 ?_
  refine lv_topi (fun v203 ev203 => ?_)
  refine lv_bipush (v := 24) hx hb dX11_feed_82 (by decide) ?_
  refine lv_bipush (v := 8) hx hb dX11_feed_84 (by decide) ?_
  refine lv_iload hx hb dX11_feed_86 (lv_at hl 0 rfl) ?_
  refine lv_iconst (v := 4) hx hb dX11_feed_88 (by decide) ?_
  refine lv_irem hx hb dX11_feed_89 (by decide) ?_
  refine lv_topi (fun v204 ev204 => ?_)
  obtain rfl : v204 = 3 := ev204.trans (by decide)
  refine lv_imul hx hb dX11_feed_90 ?_
  refine lv_topi (fun v205 ev205 => ?_)
  obtain rfl : v205 = 24 := ev205.trans (by decide)
  refine lv_isub hx hb dX11_feed_91 ?_
  refine lv_topi (fun v206 ev206 => ?_)
  obtain rfl : v206 = 0 := ev206.trans (by decide)
  refine lv_ishr hx hb dX11_feed_92 ?_
  refine lv_i2b hx hb dX11_feed_93 rfl ?_
  refine lv_topi (fun v207 ev207 => ?_)
  refine va_bast hx hb hK.1 hP hD hS 1 1 rfl rfl (show ¬ (_ ∨ _) by decide) dX11_feed_94 (fun H locs hP hD hS => ?_)
  obtain ⟨f208, hP, hD⟩ : ∃ f208 : Nat → Int32, va_P G vwCl [(mc0 cs h q), (q 4, .inl (cs 1, 900, .inl f208)), (q 6, .inl (cs 0, 5, .inl f8))] H ∧ va_D A [(mc0 cs h q), (q 4, .inl (cs 1, 900, .inl f208)), (q 6, .inl (cs 0, 5, .inl f8))] := ⟨_, hP, hD⟩
  refine lv_iinc (v := 20) (lv' := [(6, .int 20), (0, .ref h), (1, .int a1), (2, .int a2), (3, .int a3), (4, .int a4), (5, .int a5)]) hx hb dX11_feed_95 hl (k := 0) rfl (by decide) (by decide) rfl (fun ls hl => ?_)
  refine lv_goto (tgt := 55) hx hb dX11_feed_98 (by decide) ?_
  refine lv_iload hx hb dX11_feed_55 (lv_at hl 0 rfl) ?_
  refine lv_bipush (v := 20) hx hb dX11_feed_57 (by decide) ?_
  refine lv_icmp_ge (tgt := 101) hx hb dX11_feed_59 (by decide) (fun c210 => ?_) (fun c209 => False.elim (by revert c209; decide))
  refine lv_aload_n hx hb dX11_feed_101 rfl (lv_at hl 1 rfl) ?_
  refine lv_dup hx hb dX11_feed_102 rfl ?_
  refine getF hx hb ht hown hK hP iTX11 0 5 rfl rfl (by decide) fl_RX11_93 rfl dX11_feed_103 ?_
  refine lv_bipush (v := 20) hx hb dX11_feed_106 (by decide) ?_
  refine lv_iadd hx hb dX11_feed_108 ?_
  refine lv_topi (fun v211 ev211 => ?_)
  obtain rfl : v211 = 20 := ev211.trans (by decide)
  refine putD hx hb ht hown hK hP hD hS iTX11 tyX11 tyX11_ok nmX11 0 5 rfl rfl (by decide) fl_RX11_93 rfl rfl rfl (Nat.le_of_ble_eq_true rfl) dX11_feed_109 (fun H locs hP hD hS => ?_)
  have hP : va_P G vwCl [(h, .inr (11, [.int 0, .ref (q 1), .ref (q 2), .ref (q 3), .ref (q 4), .int 20, .ref (q 6), .int 0, .int 0, .int 0, .int 0, .int 0, .int 0, .int (-1), .ref (q 14), .ref (q 15), .ref (q 16), .int 0, .int 0, .ref (q 19), .ref (q 20), .ref (q 21), .int 0, .ref (q 23), .ref (q 24), .ref (q 25), .int 0, .ref (q 27), .long 0, .int 0, .int 0, .ref (q 31), .ref (q 32), .ref (q 33), .ref (q 34)])), (q 4, .inl (cs 1, 900, .inl f208)), (q 6, .inl (cs 0, 5, .inl f8))] H := hP
  have hD : va_D A [(h, .inr (11, [.int 0, .ref (q 1), .ref (q 2), .ref (q 3), .ref (q 4), .int 20, .ref (q 6), .int 0, .int 0, .int 0, .int 0, .int 0, .int 0, .int (-1), .ref (q 14), .ref (q 15), .ref (q 16), .int 0, .int 0, .ref (q 19), .ref (q 20), .ref (q 21), .int 0, .ref (q 23), .ref (q 24), .ref (q 25), .int 0, .ref (q 27), .long 0, .int 0, .int 0, .ref (q 31), .ref (q 32), .ref (q 33), .ref (q 34)])), (q 4, .inl (cs 1, 900, .inl f208)), (q 6, .inl (cs 0, 5, .inl f8))] := hD
  refine lv_aload_n hx hb dX11_feed_112 rfl (lv_at hl 1 rfl) ?_
  refine getF hx hb ht hown hK hP iTX11 0 5 rfl rfl (by decide) fl_RX11_93 rfl dX11_feed_113 ?_
  exact retDi () hx hb hr hlk (hP.sub [] rfl) (hD.sub [] (by decide) rfl) hS dX11_feed_116 (rfl) (Nat.le_of_ble_eq_true rfl) (Nat.le_of_ble_eq_true rfl)
