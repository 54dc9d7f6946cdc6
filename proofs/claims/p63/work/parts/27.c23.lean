set_option maxRecDepth 100000 in
set_option maxHeartbeats 16000000 in
theorem sX10_countRows (l : Launch) (G : va_G) (cs : Nat → ClassId) (adm : Nat) (qm : Nat → Nat) (Fm : Nat → Int32) (Am : Nat → Nat → Int32) (Bm : Nat → Nat → Int64) (Dm : Int64) (hIm : IX10 Fm Am) (qr0 : Nat → Nat) (Fr0 : Nat → Int32) (Ar0 : Nat → Nat → Int32) (Br0 : Nat → Nat → Int64) (Dr0 : Int64) (hIr0 : IX7 Fr0 Ar0) (qr1 : Nat → Nat) (Fr1 : Nat → Int32) (Ar1 : Nat → Nat → Int32) (Br1 : Nat → Nat → Int64) (Dr1 : Int64) (hIr1 : IX7 Fr1 Ar1) (qr2 : Nat → Nat) (Fr2 : Nat → Int32) (Ar2 : Nat → Nat → Int32) (Br2 : Nat → Nat → Int64) (Dr2 : Int64) (hIr2 : IX7 Fr2 Ar2) (qr3 : Nat → Nat) (Fr3 : Nat → Int32) (Ar3 : Nat → Nat → Int32) (Br3 : Nat → Nat → Int64) (Dr3 : Int64) (hIr3 : IX7 Fr3 Ar3) : ∀ sz : Nat, Met l yX10_countRows (wk yX10_countRows cX10_countRows 3 (some .int)) (rmk 0 0 0) (PreP G (TY cs) [.ref adm] ((uX10 cs adm qm Fm Am Bm Dm) ++ ((uX7 cs (qm 20) qr0 Fr0 Ar0 Br0 Dr0) ++ ((uX7 cs (qm 21) qr1 Fr1 Ar1 Br1 Dr1) ++ ((uX7 cs (qm 22) qr2 Fr2 Ar2 Br2 Dr2) ++ (uX7 cs (qm 23) qr3 Fr3 Ar3 Br3 Dr3))))) sz) (QRi (fun r : Int32 => True) sz) 0 0 (fun q => sz ≤ q) := by
  refine mkP (Qc := QRi (fun r : Int32 => True)) (by decide) (by simp [lg_sl, Value.category]) ?_
  intro p e s m args below meth c ls hx hb hml hr hlk hown ht hK hP hS hl
  have hl : lv_has ls 3 [(0, .ref adm)] := hl
  refine lv_iconst (v := 0) hx hb dX10_countRows_0 (by decide) ?_
  refine lv_istore_n (lv' := [(1, .int 0), (0, .ref adm)]) hx hb dX10_countRows_1 rfl hl (by decide) rfl (fun ls hl => ?_)
  refine lv_iconst (v := 0) hx hb dX10_countRows_2 (by decide) ?_
  refine lv_istore_n (lv' := [(2, .int 0), (1, .int 0), (0, .ref adm)]) hx hb dX10_countRows_3 rfl hl (by decide) rfl (fun ls hl => ?_)
  refine lv_iload_n hx hb dX10_countRows_4 rfl (lv_at hl 0 rfl) ?_
  refine lv_iconst (v := 4) hx hb dX10_countRows_5 (by decide) ?_
  refine lv_icmp_ge (tgt := 30) hx hb dX10_countRows_6 (by decide) (fun c1 => False.elim (by revert c1; decide)) (fun c1 => ?_)
  refine lv_aload_n hx hb dX10_countRows_9 rfl (lv_at hl 2 rfl) ?_
  refine getF (v := .ref (qm 5)) hx hb ht hown hK hP iTX10 0 5 rfl rfl (by decide) fl_RX10_41 rfl dX10_countRows_10 ?_
  refine lv_iload_n hx hb dX10_countRows_13 rfl (lv_at hl 0 rfl) ?_
  refine va_aldq hx hb hK.1 hP 2 5 rfl rfl (show ¬ (_ ∨ _) by decide) dX10_countRows_14 ?_
  refine W.eq (g2 := F0 m 15 ls [.ref (qm 20)]) rfl ?_
  refine getF (v := .int (Fr0 1)) hx hb ht hown hK hP iTX7 3 1 rfl rfl (by decide) fl_RX10_354 rfl dX10_countRows_15 ?_
  have zf2 : (0 : Int) ≤ (Fr0 1).toInt ∧ (Fr0 1).toInt ≤ 1 := hIr0.1 1
  refine lv_if_eq (tgt := 24) hx hb dX10_countRows_18 (by decide) (fun c3 => ?_) (fun c3 => ?_)
  · have zc3 := eqK rfl (show (0 : Int32).toInt = 0 by decide) c3
    refine lv_iinc (v := 1) (lv' := [(2, .int 1), (1, .int 0), (0, .ref adm)]) hx hb dX10_countRows_24 hl (k := 0) rfl (by decide) (by decide) rfl (fun ls hl => ?_)
    refine lv_goto (tgt := 4) hx hb dX10_countRows_27 (by decide) ?_
    refine lv_iload_n hx hb dX10_countRows_4 rfl (lv_at hl 0 rfl) ?_
    refine lv_iconst (v := 4) hx hb dX10_countRows_5 (by decide) ?_
    refine lv_icmp_ge (tgt := 30) hx hb dX10_countRows_6 (by decide) (fun c4 => False.elim (by revert c4; decide)) (fun c4 => ?_)
    refine lv_aload_n hx hb dX10_countRows_9 rfl (lv_at hl 2 rfl) ?_
    refine getF (v := .ref (qm 5)) hx hb ht hown hK hP iTX10 0 5 rfl rfl (by decide) fl_RX10_41 rfl dX10_countRows_10 ?_
    refine lv_iload_n hx hb dX10_countRows_13 rfl (lv_at hl 0 rfl) ?_
    refine va_aldq hx hb hK.1 hP 2 5 rfl rfl (show ¬ (_ ∨ _) by decide) dX10_countRows_14 ?_
    refine W.eq (g2 := F0 m 15 ls [.ref (qm 21)]) rfl ?_
    refine getF (v := .int (Fr1 1)) hx hb ht hown hK hP iTX7 5 1 rfl rfl (by decide) fl_RX10_354 rfl dX10_countRows_15 ?_
    have zf5 : (0 : Int) ≤ (Fr1 1).toInt ∧ (Fr1 1).toInt ≤ 1 := hIr1.1 1
    refine lv_if_eq (tgt := 24) hx hb dX10_countRows_18 (by decide) (fun c6 => ?_) (fun c6 => ?_)
    · have zc6 := eqK rfl (show (0 : Int32).toInt = 0 by decide) c6
      refine lv_iinc (v := 2) (lv' := [(2, .int 2), (1, .int 0), (0, .ref adm)]) hx hb dX10_countRows_24 hl (k := 0) rfl (by decide) (by decide) rfl (fun ls hl => ?_)
      refine lv_goto (tgt := 4) hx hb dX10_countRows_27 (by decide) ?_
      refine lv_iload_n hx hb dX10_countRows_4 rfl (lv_at hl 0 rfl) ?_
      refine lv_iconst (v := 4) hx hb dX10_countRows_5 (by decide) ?_
      refine lv_icmp_ge (tgt := 30) hx hb dX10_countRows_6 (by decide) (fun c7 => False.elim (by revert c7; decide)) (fun c7 => ?_)
      refine lv_aload_n hx hb dX10_countRows_9 rfl (lv_at hl 2 rfl) ?_
      refine getF (v := .ref (qm 5)) hx hb ht hown hK hP iTX10 0 5 rfl rfl (by decide) fl_RX10_41 rfl dX10_countRows_10 ?_
      refine lv_iload_n hx hb dX10_countRows_13 rfl (lv_at hl 0 rfl) ?_
      refine va_aldq hx hb hK.1 hP 2 5 rfl rfl (show ¬ (_ ∨ _) by decide) dX10_countRows_14 ?_
      refine W.eq (g2 := F0 m 15 ls [.ref (qm 22)]) rfl ?_
      refine getF (v := .int (Fr2 1)) hx hb ht hown hK hP iTX7 7 1 rfl rfl (by decide) fl_RX10_354 rfl dX10_countRows_15 ?_
      have zf8 : (0 : Int) ≤ (Fr2 1).toInt ∧ (Fr2 1).toInt ≤ 1 := hIr2.1 1
      refine lv_if_eq (tgt := 24) hx hb dX10_countRows_18 (by decide) (fun c9 => ?_) (fun c9 => ?_)
      · have zc9 := eqK rfl (show (0 : Int32).toInt = 0 by decide) c9
        refine lv_iinc (v := 3) (lv' := [(2, .int 3), (1, .int 0), (0, .ref adm)]) hx hb dX10_countRows_24 hl (k := 0) rfl (by decide) (by decide) rfl (fun ls hl => ?_)
        refine lv_goto (tgt := 4) hx hb dX10_countRows_27 (by decide) ?_
        refine lv_iload_n hx hb dX10_countRows_4 rfl (lv_at hl 0 rfl) ?_
        refine lv_iconst (v := 4) hx hb dX10_countRows_5 (by decide) ?_
        refine lv_icmp_ge (tgt := 30) hx hb dX10_countRows_6 (by decide) (fun c10 => False.elim (by revert c10; decide)) (fun c10 => ?_)
        refine lv_aload_n hx hb dX10_countRows_9 rfl (lv_at hl 2 rfl) ?_
        refine getF (v := .ref (qm 5)) hx hb ht hown hK hP iTX10 0 5 rfl rfl (by decide) fl_RX10_41 rfl dX10_countRows_10 ?_
        refine lv_iload_n hx hb dX10_countRows_13 rfl (lv_at hl 0 rfl) ?_
        refine va_aldq hx hb hK.1 hP 2 5 rfl rfl (show ¬ (_ ∨ _) by decide) dX10_countRows_14 ?_
        refine W.eq (g2 := F0 m 15 ls [.ref (qm 23)]) rfl ?_
        refine getF (v := .int (Fr3 1)) hx hb ht hown hK hP iTX7 9 1 rfl rfl (by decide) fl_RX10_354 rfl dX10_countRows_15 ?_
        have zf11 : (0 : Int) ≤ (Fr3 1).toInt ∧ (Fr3 1).toInt ≤ 1 := hIr3.1 1
        refine lv_if_eq (tgt := 24) hx hb dX10_countRows_18 (by decide) (fun c12 => ?_) (fun c12 => ?_)
        · have zc12 := eqK rfl (show (0 : Int32).toInt = 0 by decide) c12
          refine lv_iinc (v := 4) (lv' := [(2, .int 4), (1, .int 0), (0, .ref adm)]) hx hb dX10_countRows_24 hl (k := 0) rfl (by decide) (by decide) rfl (fun ls hl => ?_)
          refine lv_goto (tgt := 4) hx hb dX10_countRows_27 (by decide) ?_
          refine lv_iload_n hx hb dX10_countRows_4 rfl (lv_at hl 0 rfl) ?_
          refine lv_iconst (v := 4) hx hb dX10_countRows_5 (by decide) ?_
          refine lv_icmp_ge (tgt := 30) hx hb dX10_countRows_6 (by decide) (fun c13 => ?_) (fun c13 => False.elim (by revert c13; decide))
          refine lv_iload_n hx hb dX10_countRows_30 rfl (lv_at hl 1 rfl) ?_
          exact retRi hx hb hr hlk hS dX10_countRows_31 (trivial)
        · have zc12 := neK rfl (show (0 : Int32).toInt = 0 by decide) c12
          refine lv_iinc (v := 1) (lv' := [(1, .int 1), (2, .int 3), (0, .ref adm)]) hx hb dX10_countRows_21 hl (k := 1) rfl (by decide) (by decide) rfl (fun ls hl => ?_)
          refine lv_iinc (v := 4) (lv' := [(2, .int 4), (1, .int 1), (0, .ref adm)]) hx hb dX10_countRows_24 hl (k := 1) rfl (by decide) (by decide) rfl (fun ls hl => ?_)
          refine lv_goto (tgt := 4) hx hb dX10_countRows_27 (by decide) ?_
          refine lv_iload_n hx hb dX10_countRows_4 rfl (lv_at hl 0 rfl) ?_
          refine lv_iconst (v := 4) hx hb dX10_countRows_5 (by decide) ?_
          refine lv_icmp_ge (tgt := 30) hx hb dX10_countRows_6 (by decide) (fun c14 => ?_) (fun c14 => False.elim (by revert c14; decide))
          refine lv_iload_n hx hb dX10_countRows_30 rfl (lv_at hl 1 rfl) ?_
          exact retRi hx hb hr hlk hS dX10_countRows_31 (trivial)
      · have zc9 := neK rfl (show (0 : Int32).toInt = 0 by decide) c9
        refine lv_iinc (v := 1) (lv' := [(1, .int 1), (2, .int 2), (0, .ref adm)]) hx hb dX10_countRows_21 hl (k := 1) rfl (by decide) (by decide) rfl (fun ls hl => ?_)
        refine lv_iinc (v := 3) (lv' := [(2, .int 3), (1, .int 1), (0, .ref adm)]) hx hb dX10_countRows_24 hl (k := 1) rfl (by decide) (by decide) rfl (fun ls hl => ?_)
        refine lv_goto (tgt := 4) hx hb dX10_countRows_27 (by decide) ?_
        refine lv_iload_n hx hb dX10_countRows_4 rfl (lv_at hl 0 rfl) ?_
        refine lv_iconst (v := 4) hx hb dX10_countRows_5 (by decide) ?_
        refine lv_icmp_ge (tgt := 30) hx hb dX10_countRows_6 (by decide) (fun c15 => False.elim (by revert c15; decide)) (fun c15 => ?_)
        refine lv_aload_n hx hb dX10_countRows_9 rfl (lv_at hl 2 rfl) ?_
        refine getF (v := .ref (qm 5)) hx hb ht hown hK hP iTX10 0 5 rfl rfl (by decide) fl_RX10_41 rfl dX10_countRows_10 ?_
        refine lv_iload_n hx hb dX10_countRows_13 rfl (lv_at hl 0 rfl) ?_
        refine va_aldq hx hb hK.1 hP 2 5 rfl rfl (show ¬ (_ ∨ _) by decide) dX10_countRows_14 ?_
        refine W.eq (g2 := F0 m 15 ls [.ref (qm 23)]) rfl ?_
        refine getF (v := .int (Fr3 1)) hx hb ht hown hK hP iTX7 9 1 rfl rfl (by decide) fl_RX10_354 rfl dX10_countRows_15 ?_
        have zf16 : (0 : Int) ≤ (Fr3 1).toInt ∧ (Fr3 1).toInt ≤ 1 := hIr3.1 1
        refine lv_if_eq (tgt := 24) hx hb dX10_countRows_18 (by decide) (fun c17 => ?_) (fun c17 => ?_)
        · have zc17 := eqK rfl (show (0 : Int32).toInt = 0 by decide) c17
          refine lv_iinc (v := 4) (lv' := [(2, .int 4), (1, .int 1), (0, .ref adm)]) hx hb dX10_countRows_24 hl (k := 0) rfl (by decide) (by decide) rfl (fun ls hl => ?_)
          refine lv_goto (tgt := 4) hx hb dX10_countRows_27 (by decide) ?_
          refine lv_iload_n hx hb dX10_countRows_4 rfl (lv_at hl 0 rfl) ?_
          refine lv_iconst (v := 4) hx hb dX10_countRows_5 (by decide) ?_
          refine lv_icmp_ge (tgt := 30) hx hb dX10_countRows_6 (by decide) (fun c18 => ?_) (fun c18 => False.elim (by revert c18; decide))
          refine lv_iload_n hx hb dX10_countRows_30 rfl (lv_at hl 1 rfl) ?_
          exact retRi hx hb hr hlk hS dX10_countRows_31 (trivial)
        · have zc17 := neK rfl (show (0 : Int32).toInt = 0 by decide) c17
          refine lv_iinc (v := 2) (lv' := [(1, .int 2), (2, .int 3), (0, .ref adm)]) hx hb dX10_countRows_21 hl (k := 1) rfl (by decide) (by decide) rfl (fun ls hl => ?_)
          refine lv_iinc (v := 4) (lv' := [(2, .int 4), (1, .int 2), (0, .ref adm)]) hx hb dX10_countRows_24 hl (k := 1) rfl (by decide) (by decide) rfl (fun ls hl => ?_)
          refine lv_goto (tgt := 4) hx hb dX10_countRows_27 (by decide) ?_
          refine lv_iload_n hx hb dX10_countRows_4 rfl (lv_at hl 0 rfl) ?_
          refine lv_iconst (v := 4) hx hb dX10_countRows_5 (by decide) ?_
          refine lv_icmp_ge (tgt := 30) hx hb dX10_countRows_6 (by decide) (fun c19 => ?_) (fun c19 => False.elim (by revert c19; decide))
          refine lv_iload_n hx hb dX10_countRows_30 rfl (lv_at hl 1 rfl) ?_
          exact retRi hx hb hr hlk hS dX10_countRows_31 (trivial)
    · have zc6 := neK rfl (show (0 : Int32).toInt = 0 by decide) c6
      refine lv_iinc (v := 1) (lv' := [(1, .int 1), (2, .int 1), (0, .ref adm)]) hx hb dX10_countRows_21 hl (k := 1) rfl (by decide) (by decide) rfl (fun ls hl => ?_)
      refine lv_iinc (v := 2) (lv' := [(2, .int 2), (1, .int 1), (0, .ref adm)]) hx hb dX10_countRows_24 hl (k := 1) rfl (by decide) (by decide) rfl (fun ls hl => ?_)
      refine lv_goto (tgt := 4) hx hb dX10_countRows_27 (by decide) ?_
      refine lv_iload_n hx hb dX10_countRows_4 rfl (lv_at hl 0 rfl) ?_
      refine lv_iconst (v := 4) hx hb dX10_countRows_5 (by decide) ?_
      refine lv_icmp_ge (tgt := 30) hx hb dX10_countRows_6 (by decide) (fun c20 => False.elim (by revert c20; decide)) (fun c20 => ?_)
      refine lv_aload_n hx hb dX10_countRows_9 rfl (lv_at hl 2 rfl) ?_
      refine getF (v := .ref (qm 5)) hx hb ht hown hK hP iTX10 0 5 rfl rfl (by decide) fl_RX10_41 rfl dX10_countRows_10 ?_
      refine lv_iload_n hx hb dX10_countRows_13 rfl (lv_at hl 0 rfl) ?_
      refine va_aldq hx hb hK.1 hP 2 5 rfl rfl (show ¬ (_ ∨ _) by decide) dX10_countRows_14 ?_
      refine W.eq (g2 := F0 m 15 ls [.ref (qm 22)]) rfl ?_
      refine getF (v := .int (Fr2 1)) hx hb ht hown hK hP iTX7 7 1 rfl rfl (by decide) fl_RX10_354 rfl dX10_countRows_15 ?_
      have zf21 : (0 : Int) ≤ (Fr2 1).toInt ∧ (Fr2 1).toInt ≤ 1 := hIr2.1 1
      refine lv_if_eq (tgt := 24) hx hb dX10_countRows_18 (by decide) (fun c22 => ?_) (fun c22 => ?_)
      · have zc22 := eqK rfl (show (0 : Int32).toInt = 0 by decide) c22
        refine lv_iinc (v := 3) (lv' := [(2, .int 3), (1, .int 1), (0, .ref adm)]) hx hb dX10_countRows_24 hl (k := 0) rfl (by decide) (by decide) rfl (fun ls hl => ?_)
        refine lv_goto (tgt := 4) hx hb dX10_countRows_27 (by decide) ?_
        refine lv_iload_n hx hb dX10_countRows_4 rfl (lv_at hl 0 rfl) ?_
        refine lv_iconst (v := 4) hx hb dX10_countRows_5 (by decide) ?_
        refine lv_icmp_ge (tgt := 30) hx hb dX10_countRows_6 (by decide) (fun c23 => False.elim (by revert c23; decide)) (fun c23 => ?_)
        refine lv_aload_n hx hb dX10_countRows_9 rfl (lv_at hl 2 rfl) ?_
        refine getF (v := .ref (qm 5)) hx hb ht hown hK hP iTX10 0 5 rfl rfl (by decide) fl_RX10_41 rfl dX10_countRows_10 ?_
        refine lv_iload_n hx hb dX10_countRows_13 rfl (lv_at hl 0 rfl) ?_
        refine va_aldq hx hb hK.1 hP 2 5 rfl rfl (show ¬ (_ ∨ _) by decide) dX10_countRows_14 ?_
        refine W.eq (g2 := F0 m 15 ls [.ref (qm 23)]) rfl ?_
        refine getF (v := .int (Fr3 1)) hx hb ht hown hK hP iTX7 9 1 rfl rfl (by decide) fl_RX10_354 rfl dX10_countRows_15 ?_
        have zf24 : (0 : Int) ≤ (Fr3 1).toInt ∧ (Fr3 1).toInt ≤ 1 := hIr3.1 1
        refine lv_if_eq (tgt := 24) hx hb dX10_countRows_18 (by decide) (fun c25 => ?_) (fun c25 => ?_)
        · have zc25 := eqK rfl (show (0 : Int32).toInt = 0 by decide) c25
          refine lv_iinc (v := 4) (lv' := [(2, .int 4), (1, .int 1), (0, .ref adm)]) hx hb dX10_countRows_24 hl (k := 0) rfl (by decide) (by decide) rfl (fun ls hl => ?_)
          refine lv_goto (tgt := 4) hx hb dX10_countRows_27 (by decide) ?_
          refine lv_iload_n hx hb dX10_countRows_4 rfl (lv_at hl 0 rfl) ?_
          refine lv_iconst (v := 4) hx hb dX10_countRows_5 (by decide) ?_
          refine lv_icmp_ge (tgt := 30) hx hb dX10_countRows_6 (by decide) (fun c26 => ?_) (fun c26 => False.elim (by revert c26; decide))
          refine lv_iload_n hx hb dX10_countRows_30 rfl (lv_at hl 1 rfl) ?_
          exact retRi hx hb hr hlk hS dX10_countRows_31 (trivial)
        · have zc25 := neK rfl (show (0 : Int32).toInt = 0 by decide) c25
          refine lv_iinc (v := 2) (lv' := [(1, .int 2), (2, .int 3), (0, .ref adm)]) hx hb dX10_countRows_21 hl (k := 1) rfl (by decide) (by decide) rfl (fun ls hl => ?_)
          refine lv_iinc (v := 4) (lv' := [(2, .int 4), (1, .int 2), (0, .ref adm)]) hx hb dX10_countRows_24 hl (k := 1) rfl (by decide) (by decide) rfl (fun ls hl => ?_)
          refine lv_goto (tgt := 4) hx hb dX10_countRows_27 (by decide) ?_
          refine lv_iload_n hx hb dX10_countRows_4 rfl (lv_at hl 0 rfl) ?_
          refine lv_iconst (v := 4) hx hb dX10_countRows_5 (by decide) ?_
          refine lv_icmp_ge (tgt := 30) hx hb dX10_countRows_6 (by decide) (fun c27 => ?_) (fun c27 => False.elim (by revert c27; decide))
          refine lv_iload_n hx hb dX10_countRows_30 rfl (lv_at hl 1 rfl) ?_
          exact retRi hx hb hr hlk hS dX10_countRows_31 (trivial)
      · have zc22 := neK rfl (show (0 : Int32).toInt = 0 by decide) c22
        refine lv_iinc (v := 2) (lv' := [(1, .int 2), (2, .int 2), (0, .ref adm)]) hx hb dX10_countRows_21 hl (k := 1) rfl (by decide) (by decide) rfl (fun ls hl => ?_)
        refine lv_iinc (v := 3) (lv' := [(2, .int 3), (1, .int 2), (0, .ref adm)]) hx hb dX10_countRows_24 hl (k := 1) rfl (by decide) (by decide) rfl (fun ls hl => ?_)
        refine lv_goto (tgt := 4) hx hb dX10_countRows_27 (by decide) ?_
        refine lv_iload_n hx hb dX10_countRows_4 rfl (lv_at hl 0 rfl) ?_
        refine lv_iconst (v := 4) hx hb dX10_countRows_5 (by decide) ?_
        refine lv_icmp_ge (tgt := 30) hx hb dX10_countRows_6 (by decide) (fun c28 => False.elim (by revert c28; decide)) (fun c28 => ?_)
        refine lv_aload_n hx hb dX10_countRows_9 rfl (lv_at hl 2 rfl) ?_
        refine getF (v := .ref (qm 5)) hx hb ht hown hK hP iTX10 0 5 rfl rfl (by decide) fl_RX10_41 rfl dX10_countRows_10 ?_
        refine lv_iload_n hx hb dX10_countRows_13 rfl (lv_at hl 0 rfl) ?_
        refine va_aldq hx hb hK.1 hP 2 5 rfl rfl (show ¬ (_ ∨ _) by decide) dX10_countRows_14 ?_
        refine W.eq (g2 := F0 m 15 ls [.ref (qm 23)]) rfl ?_
        refine getF (v := .int (Fr3 1)) hx hb ht hown hK hP iTX7 9 1 rfl rfl (by decide) fl_RX10_354 rfl dX10_countRows_15 ?_
        have zf29 : (0 : Int) ≤ (Fr3 1).toInt ∧ (Fr3 1).toInt ≤ 1 := hIr3.1 1
        refine lv_if_eq (tgt := 24) hx hb dX10_countRows_18 (by decide) (fun c30 => ?_) (fun c30 => ?_)
        · have zc30 := eqK rfl (show (0 : Int32).toInt = 0 by decide) c30
          refine lv_iinc (v := 4) (lv' := [(2, .int 4), (1, .int 2), (0, .ref adm)]) hx hb dX10_countRows_24 hl (k := 0) rfl (by decide) (by decide) rfl (fun ls hl => ?_)
          refine lv_goto (tgt := 4) hx hb dX10_countRows_27 (by decide) ?_
          refine lv_iload_n hx hb dX10_countRows_4 rfl (lv_at hl 0 rfl) ?_
          refine lv_iconst (v := 4) hx hb dX10_countRows_5 (by decide) ?_
          refine lv_icmp_ge (tgt := 30) hx hb dX10_countRows_6 (by decide) (fun c31 => ?_) (fun c31 => False.elim (by revert c31; decide))
          refine lv_iload_n hx hb dX10_countRows_30 rfl (lv_at hl 1 rfl) ?_
          exact retRi hx hb hr hlk hS dX10_countRows_31 (trivial)
        · have zc30 := neK rfl (show (0 : Int32).toInt = 0 by decide) c30
          refine lv_iinc (v := 3) (lv' := [(1, .int 3), (2, .int 3), (0, .ref adm)]) hx hb dX10_countRows_21 hl (k := 1) rfl (by decide) (by decide) rfl (fun ls hl => ?_)
          refine lv_iinc (v := 4) (lv' := [(2, .int 4), (1, .int 3), (0, .ref adm)]) hx hb dX10_countRows_24 hl (k := 1) rfl (by decide) (by decide) rfl (fun ls hl => ?_)
          refine lv_goto (tgt := 4) hx hb dX10_countRows_27 (by decide) ?_
          refine lv_iload_n hx hb dX10_countRows_4 rfl (lv_at hl 0 rfl) ?_
          refine lv_iconst (v := 4) hx hb dX10_countRows_5 (by decide) ?_
          refine lv_icmp_ge (tgt := 30) hx hb dX10_countRows_6 (by decide) (fun c32 => ?_) (fun c32 => False.elim (by revert c32; decide))
          refine lv_iload_n hx hb dX10_countRows_30 rfl (lv_at hl 1 rfl) ?_
          exact retRi hx hb hr hlk hS dX10_countRows_31 (trivial)
  · have zc3 := neK rfl (show (0 : Int32).toInt = 0 by decide) c3
    refine lv_iinc (v := 1) (lv' := [(1, .int 1), (2, .int 0), (0, .ref adm)]) hx hb dX10_countRows_21 hl (k := 1) rfl (by decide) (by decide) rfl (fun ls hl => ?_)
    refine lv_iinc (v := 1) (lv' := [(2, .int 1), (1, .int 1), (0, .ref adm)]) hx hb dX10_countRows_24 hl (k := 1) rfl (by decide) (by decide) rfl (fun ls hl => ?_)
    refine lv_goto (tgt := 4) hx hb dX10_countRows_27 (by decide) ?_
    refine lv_iload_n hx hb dX10_countRows_4 rfl (lv_at hl 0 rfl) ?_
    refine lv_iconst (v := 4) hx hb dX10_countRows_5 (by decide) ?_
    refine lv_icmp_ge (tgt := 30) hx hb dX10_countRows_6 (by decide) (fun c33 => False.elim (by revert c33; decide)) (fun c33 => ?_)
    refine lv_aload_n hx hb dX10_countRows_9 rfl (lv_at hl 2 rfl) ?_
    refine getF (v := .ref (qm 5)) hx hb ht hown hK hP iTX10 0 5 rfl rfl (by decide) fl_RX10_41 rfl dX10_countRows_10 ?_
    refine lv_iload_n hx hb dX10_countRows_13 rfl (lv_at hl 0 rfl) ?_
    refine va_aldq hx hb hK.1 hP 2 5 rfl rfl (show ¬ (_ ∨ _) by decide) dX10_countRows_14 ?_
    refine W.eq (g2 := F0 m 15 ls [.ref (qm 21)]) rfl ?_
    refine getF (v := .int (Fr1 1)) hx hb ht hown hK hP iTX7 5 1 rfl rfl (by decide) fl_RX10_354 rfl dX10_countRows_15 ?_
    have zf34 : (0 : Int) ≤ (Fr1 1).toInt ∧ (Fr1 1).toInt ≤ 1 := hIr1.1 1
    refine lv_if_eq (tgt := 24) hx hb dX10_countRows_18 (by decide) (fun c35 => ?_) (fun c35 => ?_)
    · have zc35 := eqK rfl (show (0 : Int32).toInt = 0 by decide) c35
      refine lv_iinc (v := 2) (lv' := [(2, .int 2), (1, .int 1), (0, .ref adm)]) hx hb dX10_countRows_24 hl (k := 0) rfl (by decide) (by decide) rfl (fun ls hl => ?_)
      refine lv_goto (tgt := 4) hx hb dX10_countRows_27 (by decide) ?_
      refine lv_iload_n hx hb dX10_countRows_4 rfl (lv_at hl 0 rfl) ?_
      refine lv_iconst (v := 4) hx hb dX10_countRows_5 (by decide) ?_
      refine lv_icmp_ge (tgt := 30) hx hb dX10_countRows_6 (by decide) (fun c36 => False.elim (by revert c36; decide)) (fun c36 => ?_)
      refine lv_aload_n hx hb dX10_countRows_9 rfl (lv_at hl 2 rfl) ?_
      refine getF (v := .ref (qm 5)) hx hb ht hown hK hP iTX10 0 5 rfl rfl (by decide) fl_RX10_41 rfl dX10_countRows_10 ?_
      refine lv_iload_n hx hb dX10_countRows_13 rfl (lv_at hl 0 rfl) ?_
      refine va_aldq hx hb hK.1 hP 2 5 rfl rfl (show ¬ (_ ∨ _) by decide) dX10_countRows_14 ?_
      refine W.eq (g2 := F0 m 15 ls [.ref (qm 22)]) rfl ?_
      refine getF (v := .int (Fr2 1)) hx hb ht hown hK hP iTX7 7 1 rfl rfl (by decide) fl_RX10_354 rfl dX10_countRows_15 ?_
      have zf37 : (0 : Int) ≤ (Fr2 1).toInt ∧ (Fr2 1).toInt ≤ 1 := hIr2.1 1
      refine lv_if_eq (tgt := 24) hx hb dX10_countRows_18 (by decide) (fun c38 => ?_) (fun c38 => ?_)
      · have zc38 := eqK rfl (show (0 : Int32).toInt = 0 by decide) c38
        refine lv_iinc (v := 3) (lv' := [(2, .int 3), (1, .int 1), (0, .ref adm)]) hx hb dX10_countRows_24 hl (k := 0) rfl (by decide) (by decide) rfl (fun ls hl => ?_)
        refine lv_goto (tgt := 4) hx hb dX10_countRows_27 (by decide) ?_
        refine lv_iload_n hx hb dX10_countRows_4 rfl (lv_at hl 0 rfl) ?_
        refine lv_iconst (v := 4) hx hb dX10_countRows_5 (by decide) ?_
        refine lv_icmp_ge (tgt := 30) hx hb dX10_countRows_6 (by decide) (fun c39 => False.elim (by revert c39; decide)) (fun c39 => ?_)
        refine lv_aload_n hx hb dX10_countRows_9 rfl (lv_at hl 2 rfl) ?_
        refine getF (v := .ref (qm 5)) hx hb ht hown hK hP iTX10 0 5 rfl rfl (by decide) fl_RX10_41 rfl dX10_countRows_10 ?_
        refine lv_iload_n hx hb dX10_countRows_13 rfl (lv_at hl 0 rfl) ?_
        refine va_aldq hx hb hK.1 hP 2 5 rfl rfl (show ¬ (_ ∨ _) by decide) dX10_countRows_14 ?_
        refine W.eq (g2 := F0 m 15 ls [.ref (qm 23)]) rfl ?_
        refine getF (v := .int (Fr3 1)) hx hb ht hown hK hP iTX7 9 1 rfl rfl (by decide) fl_RX10_354 rfl dX10_countRows_15 ?_
        have zf40 : (0 : Int) ≤ (Fr3 1).toInt ∧ (Fr3 1).toInt ≤ 1 := hIr3.1 1
        refine lv_if_eq (tgt := 24) hx hb dX10_countRows_18 (by decide) (fun c41 => ?_) (fun c41 => ?_)
        · have zc41 := eqK rfl (show (0 : Int32).toInt = 0 by decide) c41
          refine lv_iinc (v := 4) (lv' := [(2, .int 4), (1, .int 1), (0, .ref adm)]) hx hb dX10_countRows_24 hl (k := 0) rfl (by decide) (by decide) rfl (fun ls hl => ?_)
          refine lv_goto (tgt := 4) hx hb dX10_countRows_27 (by decide) ?_
          refine lv_iload_n hx hb dX10_countRows_4 rfl (lv_at hl 0 rfl) ?_
          refine lv_iconst (v := 4) hx hb dX10_countRows_5 (by decide) ?_
          refine lv_icmp_ge (tgt := 30) hx hb dX10_countRows_6 (by decide) (fun c42 => ?_) (fun c42 => False.elim (by revert c42; decide))
          refine lv_iload_n hx hb dX10_countRows_30 rfl (lv_at hl 1 rfl) ?_
          exact retRi hx hb hr hlk hS dX10_countRows_31 (trivial)
        · have zc41 := neK rfl (show (0 : Int32).toInt = 0 by decide) c41
          refine lv_iinc (v := 2) (lv' := [(1, .int 2), (2, .int 3), (0, .ref adm)]) hx hb dX10_countRows_21 hl (k := 1) rfl (by decide) (by decide) rfl (fun ls hl => ?_)
          refine lv_iinc (v := 4) (lv' := [(2, .int 4), (1, .int 2), (0, .ref adm)]) hx hb dX10_countRows_24 hl (k := 1) rfl (by decide) (by decide) rfl (fun ls hl => ?_)
          refine lv_goto (tgt := 4) hx hb dX10_countRows_27 (by decide) ?_
          refine lv_iload_n hx hb dX10_countRows_4 rfl (lv_at hl 0 rfl) ?_
          refine lv_iconst (v := 4) hx hb dX10_countRows_5 (by decide) ?_
          refine lv_icmp_ge (tgt := 30) hx hb dX10_countRows_6 (by decide) (fun c43 => ?_) (fun c43 => False.elim (by revert c43; decide))
          refine lv_iload_n hx hb dX10_countRows_30 rfl (lv_at hl 1 rfl) ?_
          exact retRi hx hb hr hlk hS dX10_countRows_31 (trivial)
      · have zc38 := neK rfl (show (0 : Int32).toInt = 0 by decide) c38
        refine lv_iinc (v := 2) (lv' := [(1, .int 2), (2, .int 2), (0, .ref adm)]) hx hb dX10_countRows_21 hl (k := 1) rfl (by decide) (by decide) rfl (fun ls hl => ?_)
        refine lv_iinc (v := 3) (lv' := [(2, .int 3), (1, .int 2), (0, .ref adm)]) hx hb dX10_countRows_24 hl (k := 1) rfl (by decide) (by decide) rfl (fun ls hl => ?_)
        refine lv_goto (tgt := 4) hx hb dX10_countRows_27 (by decide) ?_
        refine lv_iload_n hx hb dX10_countRows_4 rfl (lv_at hl 0 rfl) ?_
        refine lv_iconst (v := 4) hx hb dX10_countRows_5 (by decide) ?_
        refine lv_icmp_ge (tgt := 30) hx hb dX10_countRows_6 (by decide) (fun c44 => False.elim (by revert c44; decide)) (fun c44 => ?_)
        refine lv_aload_n hx hb dX10_countRows_9 rfl (lv_at hl 2 rfl) ?_
        refine getF (v := .ref (qm 5)) hx hb ht hown hK hP iTX10 0 5 rfl rfl (by decide) fl_RX10_41 rfl dX10_countRows_10 ?_
        refine lv_iload_n hx hb dX10_countRows_13 rfl (lv_at hl 0 rfl) ?_
        refine va_aldq hx hb hK.1 hP 2 5 rfl rfl (show ¬ (_ ∨ _) by decide) dX10_countRows_14 ?_
        refine W.eq (g2 := F0 m 15 ls [.ref (qm 23)]) rfl ?_
        refine getF (v := .int (Fr3 1)) hx hb ht hown hK hP iTX7 9 1 rfl rfl (by decide) fl_RX10_354 rfl dX10_countRows_15 ?_
        have zf45 : (0 : Int) ≤ (Fr3 1).toInt ∧ (Fr3 1).toInt ≤ 1 := hIr3.1 1
        refine lv_if_eq (tgt := 24) hx hb dX10_countRows_18 (by decide) (fun c46 => ?_) (fun c46 => ?_)
        · have zc46 := eqK rfl (show (0 : Int32).toInt = 0 by decide) c46
          refine lv_iinc (v := 4) (lv' := [(2, .int 4), (1, .int 2), (0, .ref adm)]) hx hb dX10_countRows_24 hl (k := 0) rfl (by decide) (by decide) rfl (fun ls hl => ?_)
          refine lv_goto (tgt := 4) hx hb dX10_countRows_27 (by decide) ?_
          refine lv_iload_n hx hb dX10_countRows_4 rfl (lv_at hl 0 rfl) ?_
          refine lv_iconst (v := 4) hx hb dX10_countRows_5 (by decide) ?_
          refine lv_icmp_ge (tgt := 30) hx hb dX10_countRows_6 (by decide) (fun c47 => ?_) (fun c47 => False.elim (by revert c47; decide))
          refine lv_iload_n hx hb dX10_countRows_30 rfl (lv_at hl 1 rfl) ?_
          exact retRi hx hb hr hlk hS dX10_countRows_31 (trivial)
        · have zc46 := neK rfl (show (0 : Int32).toInt = 0 by decide) c46
          refine lv_iinc (v := 3) (lv' := [(1, .int 3), (2, .int 3), (0, .ref adm)]) hx hb dX10_countRows_21 hl (k := 1) rfl (by decide) (by decide) rfl (fun ls hl => ?_)
          refine lv_iinc (v := 4) (lv' := [(2, .int 4), (1, .int 3), (0, .ref adm)]) hx hb dX10_countRows_24 hl (k := 1) rfl (by decide) (by decide) rfl (fun ls hl => ?_)
          refine lv_goto (tgt := 4) hx hb dX10_countRows_27 (by decide) ?_
          refine lv_iload_n hx hb dX10_countRows_4 rfl (lv_at hl 0 rfl) ?_
          refine lv_iconst (v := 4) hx hb dX10_countRows_5 (by decide) ?_
          refine lv_icmp_ge (tgt := 30) hx hb dX10_countRows_6 (by decide) (fun c48 => ?_) (fun c48 => False.elim (by revert c48; decide))
          refine lv_iload_n hx hb dX10_countRows_30 rfl (lv_at hl 1 rfl) ?_
          exact retRi hx hb hr hlk hS dX10_countRows_31 (trivial)
    · have zc35 := neK rfl (show (0 : Int32).toInt = 0 by decide) c35
      refine lv_iinc (v := 2) (lv' := [(1, .int 2), (2, .int 1), (0, .ref adm)]) hx hb dX10_countRows_21 hl (k := 1) rfl (by decide) (by decide) rfl (fun ls hl => ?_)
      refine lv_iinc (v := 2) (lv' := [(2, .int 2), (1, .int 2), (0, .ref adm)]) hx hb dX10_countRows_24 hl (k := 1) rfl (by decide) (by decide) rfl (fun ls hl => ?_)
      refine lv_goto (tgt := 4) hx hb dX10_countRows_27 (by decide) ?_
      refine lv_iload_n hx hb dX10_countRows_4 rfl (lv_at hl 0 rfl) ?_
      refine lv_iconst (v := 4) hx hb dX10_countRows_5 (by decide) ?_
      refine lv_icmp_ge (tgt := 30) hx hb dX10_countRows_6 (by decide) (fun c49 => False.elim (by revert c49; decide)) (fun c49 => ?_)
      refine lv_aload_n hx hb dX10_countRows_9 rfl (lv_at hl 2 rfl) ?_
      refine getF (v := .ref (qm 5)) hx hb ht hown hK hP iTX10 0 5 rfl rfl (by decide) fl_RX10_41 rfl dX10_countRows_10 ?_
      refine lv_iload_n hx hb dX10_countRows_13 rfl (lv_at hl 0 rfl) ?_
      refine va_aldq hx hb hK.1 hP 2 5 rfl rfl (show ¬ (_ ∨ _) by decide) dX10_countRows_14 ?_
      refine W.eq (g2 := F0 m 15 ls [.ref (qm 22)]) rfl ?_
      refine getF (v := .int (Fr2 1)) hx hb ht hown hK hP iTX7 7 1 rfl rfl (by decide) fl_RX10_354 rfl dX10_countRows_15 ?_
      have zf50 : (0 : Int) ≤ (Fr2 1).toInt ∧ (Fr2 1).toInt ≤ 1 := hIr2.1 1
      refine lv_if_eq (tgt := 24) hx hb dX10_countRows_18 (by decide) (fun c51 => ?_) (fun c51 => ?_)
      · have zc51 := eqK rfl (show (0 : Int32).toInt = 0 by decide) c51
        refine lv_iinc (v := 3) (lv' := [(2, .int 3), (1, .int 2), (0, .ref adm)]) hx hb dX10_countRows_24 hl (k := 0) rfl (by decide) (by decide) rfl (fun ls hl => ?_)
        refine lv_goto (tgt := 4) hx hb dX10_countRows_27 (by decide) ?_
        refine lv_iload_n hx hb dX10_countRows_4 rfl (lv_at hl 0 rfl) ?_
        refine lv_iconst (v := 4) hx hb dX10_countRows_5 (by decide) ?_
        refine lv_icmp_ge (tgt := 30) hx hb dX10_countRows_6 (by decide) (fun c52 => False.elim (by revert c52; decide)) (fun c52 => ?_)
        refine lv_aload_n hx hb dX10_countRows_9 rfl (lv_at hl 2 rfl) ?_
        refine getF (v := .ref (qm 5)) hx hb ht hown hK hP iTX10 0 5 rfl rfl (by decide) fl_RX10_41 rfl dX10_countRows_10 ?_
        refine lv_iload_n hx hb dX10_countRows_13 rfl (lv_at hl 0 rfl) ?_
        refine va_aldq hx hb hK.1 hP 2 5 rfl rfl (show ¬ (_ ∨ _) by decide) dX10_countRows_14 ?_
        refine W.eq (g2 := F0 m 15 ls [.ref (qm 23)]) rfl ?_
        refine getF (v := .int (Fr3 1)) hx hb ht hown hK hP iTX7 9 1 rfl rfl (by decide) fl_RX10_354 rfl dX10_countRows_15 ?_
        have zf53 : (0 : Int) ≤ (Fr3 1).toInt ∧ (Fr3 1).toInt ≤ 1 := hIr3.1 1
        refine lv_if_eq (tgt := 24) hx hb dX10_countRows_18 (by decide) (fun c54 => ?_) (fun c54 => ?_)
        · have zc54 := eqK rfl (show (0 : Int32).toInt = 0 by decide) c54
          refine lv_iinc (v := 4) (lv' := [(2, .int 4), (1, .int 2), (0, .ref adm)]) hx hb dX10_countRows_24 hl (k := 0) rfl (by decide) (by decide) rfl (fun ls hl => ?_)
          refine lv_goto (tgt := 4) hx hb dX10_countRows_27 (by decide) ?_
          refine lv_iload_n hx hb dX10_countRows_4 rfl (lv_at hl 0 rfl) ?_
          refine lv_iconst (v := 4) hx hb dX10_countRows_5 (by decide) ?_
          refine lv_icmp_ge (tgt := 30) hx hb dX10_countRows_6 (by decide) (fun c55 => ?_) (fun c55 => False.elim (by revert c55; decide))
          refine lv_iload_n hx hb dX10_countRows_30 rfl (lv_at hl 1 rfl) ?_
          exact retRi hx hb hr hlk hS dX10_countRows_31 (trivial)
        · have zc54 := neK rfl (show (0 : Int32).toInt = 0 by decide) c54
          refine lv_iinc (v := 3) (lv' := [(1, .int 3), (2, .int 3), (0, .ref adm)]) hx hb dX10_countRows_21 hl (k := 1) rfl (by decide) (by decide) rfl (fun ls hl => ?_)
          refine lv_iinc (v := 4) (lv' := [(2, .int 4), (1, .int 3), (0, .ref adm)]) hx hb dX10_countRows_24 hl (k := 1) rfl (by decide) (by decide) rfl (fun ls hl => ?_)
          refine lv_goto (tgt := 4) hx hb dX10_countRows_27 (by decide) ?_
          refine lv_iload_n hx hb dX10_countRows_4 rfl (lv_at hl 0 rfl) ?_
          refine lv_iconst (v := 4) hx hb dX10_countRows_5 (by decide) ?_
          refine lv_icmp_ge (tgt := 30) hx hb dX10_countRows_6 (by decide) (fun c56 => ?_) (fun c56 => False.elim (by revert c56; decide))
          refine lv_iload_n hx hb dX10_countRows_30 rfl (lv_at hl 1 rfl) ?_
          exact retRi hx hb hr hlk hS dX10_countRows_31 (trivial)
      · have zc51 := neK rfl (show (0 : Int32).toInt = 0 by decide) c51
        refine lv_iinc (v := 3) (lv' := [(1, .int 3), (2, .int 2), (0, .ref adm)]) hx hb dX10_countRows_21 hl (k := 1) rfl (by decide) (by decide) rfl (fun ls hl => ?_)
        refine lv_iinc (v := 3) (lv' := [(2, .int 3), (1, .int 3), (0, .ref adm)]) hx hb dX10_countRows_24 hl (k := 1) rfl (by decide) (by decide) rfl (fun ls hl => ?_)
        refine lv_goto (tgt := 4) hx hb dX10_countRows_27 (by decide) ?_
        refine lv_iload_n hx hb dX10_countRows_4 rfl (lv_at hl 0 rfl) ?_
        refine lv_iconst (v := 4) hx hb dX10_countRows_5 (by decide) ?_
        refine lv_icmp_ge (tgt := 30) hx hb dX10_countRows_6 (by decide) (fun c57 => False.elim (by revert c57; decide)) (fun c57 => ?_)
        refine lv_aload_n hx hb dX10_countRows_9 rfl (lv_at hl 2 rfl) ?_
        refine getF (v := .ref (qm 5)) hx hb ht hown hK hP iTX10 0 5 rfl rfl (by decide) fl_RX10_41 rfl dX10_countRows_10 ?_
        refine lv_iload_n hx hb dX10_countRows_13 rfl (lv_at hl 0 rfl) ?_
        refine va_aldq hx hb hK.1 hP 2 5 rfl rfl (show ¬ (_ ∨ _) by decide) dX10_countRows_14 ?_
        refine W.eq (g2 := F0 m 15 ls [.ref (qm 23)]) rfl ?_
        refine getF (v := .int (Fr3 1)) hx hb ht hown hK hP iTX7 9 1 rfl rfl (by decide) fl_RX10_354 rfl dX10_countRows_15 ?_
        have zf58 : (0 : Int) ≤ (Fr3 1).toInt ∧ (Fr3 1).toInt ≤ 1 := hIr3.1 1
        refine lv_if_eq (tgt := 24) hx hb dX10_countRows_18 (by decide) (fun c59 => ?_) (fun c59 => ?_)
        · have zc59 := eqK rfl (show (0 : Int32).toInt = 0 by decide) c59
          refine lv_iinc (v := 4) (lv' := [(2, .int 4), (1, .int 3), (0, .ref adm)]) hx hb dX10_countRows_24 hl (k := 0) rfl (by decide) (by decide) rfl (fun ls hl => ?_)
          refine lv_goto (tgt := 4) hx hb dX10_countRows_27 (by decide) ?_
          refine lv_iload_n hx hb dX10_countRows_4 rfl (lv_at hl 0 rfl) ?_
          refine lv_iconst (v := 4) hx hb dX10_countRows_5 (by decide) ?_
          refine lv_icmp_ge (tgt := 30) hx hb dX10_countRows_6 (by decide) (fun c60 => ?_) (fun c60 => False.elim (by revert c60; decide))
          refine lv_iload_n hx hb dX10_countRows_30 rfl (lv_at hl 1 rfl) ?_
          exact retRi hx hb hr hlk hS dX10_countRows_31 (trivial)
        · have zc59 := neK rfl (show (0 : Int32).toInt = 0 by decide) c59
          refine lv_iinc (v := 4) (lv' := [(1, .int 4), (2, .int 3), (0, .ref adm)]) hx hb dX10_countRows_21 hl (k := 1) rfl (by decide) (by decide) rfl (fun ls hl => ?_)
          refine lv_iinc (v := 4) (lv' := [(2, .int 4), (1, .int 4), (0, .ref adm)]) hx hb dX10_countRows_24 hl (k := 1) rfl (by decide) (by decide) rfl (fun ls hl => ?_)
          refine lv_goto (tgt := 4) hx hb dX10_countRows_27 (by decide) ?_
          refine lv_iload_n hx hb dX10_countRows_4 rfl (lv_at hl 0 rfl) ?_
          refine lv_iconst (v := 4) hx hb dX10_countRows_5 (by decide) ?_
          refine lv_icmp_ge (tgt := 30) hx hb dX10_countRows_6 (by decide) (fun c61 => ?_) (fun c61 => False.elim (by revert c61; decide))
          refine lv_iload_n hx hb dX10_countRows_30 rfl (lv_at hl 1 rfl) ?_
          exact retRi hx hb hr hlk hS dX10_countRows_31 (trivial)

set_option maxRecDepth 100000 in
set_option maxHeartbeats 16000000 in
theorem sX10_feed (l : Launch) (G : va_G) (cs : Nat → ClassId) (adm : Nat) (qm : Nat → Nat) (Fm : Nat → Int32) (Am : Nat → Nat → Int32) (Bm : Nat → Nat → Int64) (Dm : Int64) (hIm : IX10 Fm Am) (qmt : Nat → Nat) (Fmt : Nat → Int32) (Amt : Nat → Nat → Int32) (Bmt : Nat → Nat → Int64) (Dmt : Int64) (hImt : IX9 Fmt Amt) (a1 : Int32) (a2 : Int32) (a3 : Int32) (a4 : Int32) (a5 : Int32) : ∀ sz : Nat, Met l yX10_feed (wk yX10_feed cX10_feed 6 (some .int)) (rmk 1 0 0) (PreD G (TY cs) [.ref adm, .int a1, .int a2, .int a3, .int a4, .int a5] ((uX10 cs adm qm Fm Am Bm Dm) ++ (uX9 cs (qm 1) qmt Fmt Amt Bmt Dmt)) sz) ((QDi G (fun (r : Int32) (u : Int32 × (Nat → Int32)) => ((0 : Int) ≤ u.1.toInt ∧ u.1.toInt ≤ 900) ∧ (True)) (fun u : Int32 × (Nat → Int32) => ((uX10 cs adm qm Fm Am Bm Dm) ++ (uX9 cs (qm 1) qmt (upd Fmt 1 u.1) (vA Amt 0 u.2) Bmt Dmt)))) (va_A ((uX10 cs adm qm Fm Am Bm Dm) ++ (uX9 cs (qm 1) qmt Fmt Amt Bmt Dmt)) sz)) 0 0 (va_A ((uX10 cs adm qm Fm Am Bm Dm) ++ (uX9 cs (qm 1) qmt Fmt Amt Bmt Dmt)) sz) := by
  refine mkD (Qc := (QDi G (fun (r : Int32) (u : Int32 × (Nat → Int32)) => ((0 : Int) ≤ u.1.toInt ∧ u.1.toInt ≤ 900) ∧ (True)) (fun u : Int32 × (Nat → Int32) => ((uX10 cs adm qm Fm Am Bm Dm) ++ (uX9 cs (qm 1) qmt (upd Fmt 1 u.1) (vA Amt 0 u.2) Bmt Dmt))))) (by decide) (by simp [lg_sl, Value.category]) ?_
  intro p e s m args below meth c ls A0 hx hb hml hr hlk hown hmn ht hK hP hD hS hA hl
  have hl : lv_has ls 6 [(0, .ref adm), (1, .int a1), (2, .int a2), (3, .int a3), (4, .int a4), (5, .int a5)] := hl
  refine lv_aload_n hx hb dX10_feed_0 rfl (lv_at hl 0 rfl) ?_
  refine getF (v := .ref (qm 1)) hx hb ht hown hK hP iTX10 0 1 rfl rfl (by decide) fl_RX10_20 rfl dX10_feed_1 ?_
  refine getF (v := .int (Fmt 1)) hx hb ht hown hK hP iTX9 3 1 rfl rfl (by decide) fl_RX10_84 rfl dX10_feed_4 ?_
  have zf1 : (0 : Int) ≤ (Fmt 1).toInt ∧ (Fmt 1).toInt ≤ 900 := hImt.1 1
  refine lv_bipush (v := 20) hx hb dX10_feed_7 (by decide) ?_
  refine lv_iadd hx hb dX10_feed_9 ?_
  refine lv_topi (fun v2 ev2 => ?_)
  have tv2 : v2.toInt = (Fmt 1).toInt + 20 := by rw [ev2]; exact addT rfl (show (20 : Int32).toInt = 20 by decide) (by omega)
  refine lv_sipush (v := 900) hx hb dX10_feed_10 (by decide) ?_
  refine lv_icmp_le (tgt := 18) hx hb dX10_feed_13 (by decide) (fun c3 => ?_) (fun c3 => ?_)
  · have zc3 := leK rfl (show (900 : Int32).toInt = 900 by decide) c3
    refine lv_aload_n hx hb dX10_feed_18 rfl (lv_at hl 0 rfl) ?_
    refine getF (v := .ref (qm 1)) hx hb ht hown hK hP iTX10 0 1 rfl rfl (by decide) fl_RX10_20 rfl dX10_feed_19 ?_
    refine lv_iload_n hx hb dX10_feed_22 rfl (lv_at hl 1 rfl) ?_
    refine behDw (wr := (uX10 cs adm qm Fm Am Bm Dm)) (runVD (As := [.int a1]) (rest := []) ⟨hx, hb, hml, hown, ht⟩ (sX9_push l G cs (qm 1) qmt Fmt Amt Bmt Dmt hImt a1 ) okV_RX10_90 ⟨by decide, by decide⟩ hK hP hD [3, 4] rfl (by decide) rfl 3 rfl rfl hl.1 rfl (Nat.le_of_ble_eq_true rfl) dX10_feed_23 ⟨(Nat.le_of_ble_eq_true rfl), (Nat.le_of_ble_eq_true rfl)⟩) hP hD hS hA [3, 4] [0, 1, 2] rfl rfl (by decide) (by decide) (fun u H locs hu hP hD hS => ?_)
    obtain ⟨x4, g5⟩ := u
    obtain ⟨hbx4, hr6⟩ := hu
    have hbx4 : (0 : Int) ≤ x4.toInt ∧ x4.toInt ≤ 900 := hbx4
    have hP : va_P G vwCl ((uX10 cs adm qm Fm Am Bm Dm) ++ (uX9 cs (qm 1) qmt (upd Fmt 1 x4) (vA Amt 0 g5) Bmt Dmt)) H := hP.sub [0, 1, 2, 3, 4] rfl
    have hD : va_D A0 ((uX10 cs adm qm Fm Am Bm Dm) ++ (uX9 cs (qm 1) qmt (upd Fmt 1 x4) (vA Amt 0 g5) Bmt Dmt)) := hD.sub [0, 1, 2, 3, 4] (by decide) rfl
    refine lv_aload_n hx hb dX10_feed_26 rfl (lv_at hl 0 rfl) ?_
    refine getF (v := .ref (qm 1)) hx hb ht hown hK hP iTX10 0 1 rfl rfl (by decide) fl_RX10_20 rfl dX10_feed_27 ?_
    refine lv_iload_n hx hb dX10_feed_30 rfl (lv_at hl 2 rfl) ?_
    refine behDw (wr := (uX10 cs adm qm Fm Am Bm Dm)) (runVD (As := [.int a2]) (rest := []) ⟨hx, hb, hml, hown, ht⟩ (sX9_push l G cs (qm 1) qmt (upd Fmt 1 x4) (vA Amt 0 g5) Bmt Dmt (IB_arr (k := 0) (IB_put (k := 1) hImt (show (0 : Int) ≤ x4.toInt ∧ x4.toInt ≤ 900 by omega)) (AJ_full _)) a2 ) okV_RX10_90 ⟨by decide, by decide⟩ hK hP hD [3, 4] rfl (by decide) rfl 3 rfl rfl hl.1 rfl (Nat.le_of_ble_eq_true rfl) dX10_feed_31 ⟨(Nat.le_of_ble_eq_true rfl), (Nat.le_of_ble_eq_true rfl)⟩) hP hD hS hA [3, 4] [0, 1, 2] rfl rfl (by decide) (by decide) (fun u H locs hu hP hD hS => ?_)
    obtain ⟨x7, g8⟩ := u
    obtain ⟨hbx7, hr9⟩ := hu
    have hbx7 : (0 : Int) ≤ x7.toInt ∧ x7.toInt ≤ 900 := hbx7
    have hP : va_P G vwCl ((uX10 cs adm qm Fm Am Bm Dm) ++ (uX9 cs (qm 1) qmt (upd Fmt 1 x7) (vA Amt 0 g8) Bmt Dmt)) H := hP.sub [0, 1, 2, 3, 4] rfl
    have hD : va_D A0 ((uX10 cs adm qm Fm Am Bm Dm) ++ (uX9 cs (qm 1) qmt (upd Fmt 1 x7) (vA Amt 0 g8) Bmt Dmt)) := hD.sub [0, 1, 2, 3, 4] (by decide) rfl
    refine lv_aload_n hx hb dX10_feed_34 rfl (lv_at hl 0 rfl) ?_
    refine getF (v := .ref (qm 1)) hx hb ht hown hK hP iTX10 0 1 rfl rfl (by decide) fl_RX10_20 rfl dX10_feed_35 ?_
    refine lv_iload_n hx hb dX10_feed_38 rfl (lv_at hl 3 rfl) ?_
    refine behDw (wr := (uX10 cs adm qm Fm Am Bm Dm)) (runVD (As := [.int a3]) (rest := []) ⟨hx, hb, hml, hown, ht⟩ (sX9_push l G cs (qm 1) qmt (upd Fmt 1 x7) (vA Amt 0 g8) Bmt Dmt (IB_arr (k := 0) (IB_put (k := 1) hImt (show (0 : Int) ≤ x7.toInt ∧ x7.toInt ≤ 900 by omega)) (AJ_full _)) a3 ) okV_RX10_90 ⟨by decide, by decide⟩ hK hP hD [3, 4] rfl (by decide) rfl 3 rfl rfl hl.1 rfl (Nat.le_of_ble_eq_true rfl) dX10_feed_39 ⟨(Nat.le_of_ble_eq_true rfl), (Nat.le_of_ble_eq_true rfl)⟩) hP hD hS hA [3, 4] [0, 1, 2] rfl rfl (by decide) (by decide) (fun u H locs hu hP hD hS => ?_)
    obtain ⟨x10, g11⟩ := u
    obtain ⟨hbx10, hr12⟩ := hu
    have hbx10 : (0 : Int) ≤ x10.toInt ∧ x10.toInt ≤ 900 := hbx10
    have hP : va_P G vwCl ((uX10 cs adm qm Fm Am Bm Dm) ++ (uX9 cs (qm 1) qmt (upd Fmt 1 x10) (vA Amt 0 g11) Bmt Dmt)) H := hP.sub [0, 1, 2, 3, 4] rfl
    have hD : va_D A0 ((uX10 cs adm qm Fm Am Bm Dm) ++ (uX9 cs (qm 1) qmt (upd Fmt 1 x10) (vA Amt 0 g11) Bmt Dmt)) := hD.sub [0, 1, 2, 3, 4] (by decide) rfl
    refine lv_aload_n hx hb dX10_feed_42 rfl (lv_at hl 0 rfl) ?_
    refine getF (v := .ref (qm 1)) hx hb ht hown hK hP iTX10 0 1 rfl rfl (by decide) fl_RX10_20 rfl dX10_feed_43 ?_
    refine lv_iload hx hb dX10_feed_46 (lv_at hl 4 rfl) ?_
    refine behDw (wr := (uX10 cs adm qm Fm Am Bm Dm)) (runVD (As := [.int a4]) (rest := []) ⟨hx, hb, hml, hown, ht⟩ (sX9_push l G cs (qm 1) qmt (upd Fmt 1 x10) (vA Amt 0 g11) Bmt Dmt (IB_arr (k := 0) (IB_put (k := 1) hImt (show (0 : Int) ≤ x10.toInt ∧ x10.toInt ≤ 900 by omega)) (AJ_full _)) a4 ) okV_RX10_90 ⟨by decide, by decide⟩ hK hP hD [3, 4] rfl (by decide) rfl 3 rfl rfl hl.1 rfl (Nat.le_of_ble_eq_true rfl) dX10_feed_48 ⟨(Nat.le_of_ble_eq_true rfl), (Nat.le_of_ble_eq_true rfl)⟩) hP hD hS hA [3, 4] [0, 1, 2] rfl rfl (by decide) (by decide) (fun u H locs hu hP hD hS => ?_)
    obtain ⟨x13, g14⟩ := u
    obtain ⟨hbx13, hr15⟩ := hu
    have hbx13 : (0 : Int) ≤ x13.toInt ∧ x13.toInt ≤ 900 := hbx13
    have hP : va_P G vwCl ((uX10 cs adm qm Fm Am Bm Dm) ++ (uX9 cs (qm 1) qmt (upd Fmt 1 x13) (vA Amt 0 g14) Bmt Dmt)) H := hP.sub [0, 1, 2, 3, 4] rfl
    have hD : va_D A0 ((uX10 cs adm qm Fm Am Bm Dm) ++ (uX9 cs (qm 1) qmt (upd Fmt 1 x13) (vA Amt 0 g14) Bmt Dmt)) := hD.sub [0, 1, 2, 3, 4] (by decide) rfl
    refine lv_aload_n hx hb dX10_feed_51 rfl (lv_at hl 0 rfl) ?_
    refine getF (v := .ref (qm 1)) hx hb ht hown hK hP iTX10 0 1 rfl rfl (by decide) fl_RX10_20 rfl dX10_feed_52 ?_
    refine lv_iload hx hb dX10_feed_55 (lv_at hl 5 rfl) ?_
    refine behDw (wr := (uX10 cs adm qm Fm Am Bm Dm)) (runVD (As := [.int a5]) (rest := []) ⟨hx, hb, hml, hown, ht⟩ (sX9_push l G cs (qm 1) qmt (upd Fmt 1 x13) (vA Amt 0 g14) Bmt Dmt (IB_arr (k := 0) (IB_put (k := 1) hImt (show (0 : Int) ≤ x13.toInt ∧ x13.toInt ≤ 900 by omega)) (AJ_full _)) a5 ) okV_RX10_90 ⟨by decide, by decide⟩ hK hP hD [3, 4] rfl (by decide) rfl 3 rfl rfl hl.1 rfl (Nat.le_of_ble_eq_true rfl) dX10_feed_57 ⟨(Nat.le_of_ble_eq_true rfl), (Nat.le_of_ble_eq_true rfl)⟩) hP hD hS hA [3, 4] [0, 1, 2] rfl rfl (by decide) (by decide) (fun u H locs hu hP hD hS => ?_)
    obtain ⟨x16, g17⟩ := u
    obtain ⟨hbx16, hr18⟩ := hu
    have hbx16 : (0 : Int) ≤ x16.toInt ∧ x16.toInt ≤ 900 := hbx16
    have hP : va_P G vwCl ((uX10 cs adm qm Fm Am Bm Dm) ++ (uX9 cs (qm 1) qmt (upd Fmt 1 x16) (vA Amt 0 g17) Bmt Dmt)) H := hP.sub [0, 1, 2, 3, 4] rfl
    have hD : va_D A0 ((uX10 cs adm qm Fm Am Bm Dm) ++ (uX9 cs (qm 1) qmt (upd Fmt 1 x16) (vA Amt 0 g17) Bmt Dmt)) := hD.sub [0, 1, 2, 3, 4] (by decide) rfl
    refine lv_aload_n hx hb dX10_feed_60 rfl (lv_at hl 0 rfl) ?_
    refine getF (v := .ref (qm 1)) hx hb ht hown hK hP iTX10 0 1 rfl rfl (by decide) fl_RX10_20 rfl dX10_feed_61 ?_
    refine getF (v := .int x16) hx hb ht hown hK hP iTX9 3 1 rfl rfl (by decide) fl_RX10_84 rfl dX10_feed_64 ?_
    exact retDi (x16, g17) hx hb hr hlk hP hD hS dX10_feed_67 (⟨show (0 : Int) ≤ x16.toInt ∧ x16.toInt ≤ 900 by omega, trivial⟩) (Nat.le_of_ble_eq_true rfl) (Nat.le_of_ble_eq_true rfl)
  · have zc3 := nleK rfl (show (900 : Int32).toInt = 900 by decide) c3
    refine lv_iconst (v := (-1)) hx hb dX10_feed_16 (by decide) ?_
    exact retDi ((Fmt 1), (Amt 0)) hx hb hr hlk hP hD hS dX10_feed_17 (⟨hImt.1 1, trivial⟩) (Nat.le_of_ble_eq_true rfl) (Nat.le_of_ble_eq_true rfl)

set_option maxRecDepth 100000 in
set_option maxHeartbeats 16000000 in
theorem sX10_end (l : Launch) (G : va_G) (cs : Nat → ClassId) (adm : Nat) (qm : Nat → Nat) (Fm : Nat → Int32) (Am : Nat → Nat → Int32) (Bm : Nat → Nat → Int64) (Dm : Int64) (hIm : IX10 Fm Am) (qmt : Nat → Nat) (Fmt : Nat → Int32) (Amt : Nat → Nat → Int32) (Bmt : Nat → Nat → Int64) (Dmt : Int64) (hImt : IX9 Fmt Amt) (a1 : Int32) : ∀ sz : Nat, Met l yX10_end (wk yX10_end cX10_end 2 (some .int)) (rmk 0 0 0) (PreD G (TY cs) [.ref adm, .int a1] ((uX10 cs adm qm Fm Am Bm Dm) ++ (uX9 cs (qm 1) qmt Fmt Amt Bmt Dmt)) sz) ((QDi G (fun (r : Int32) (u : Int32) => ((0 : Int) ≤ u.toInt ∧ u.toInt ≤ 900) ∧ (True)) (fun u : Int32 => ((uX10 cs adm qm Fm Am Bm Dm) ++ (uX9 cs (qm 1) qmt (upd Fmt 1 u) Amt Bmt Dmt)))) (va_A ((uX10 cs adm qm Fm Am Bm Dm) ++ (uX9 cs (qm 1) qmt Fmt Amt Bmt Dmt)) sz)) 0 0 (va_A ((uX10 cs adm qm Fm Am Bm Dm) ++ (uX9 cs (qm 1) qmt Fmt Amt Bmt Dmt)) sz) := by
  refine mkD (Qc := (QDi G (fun (r : Int32) (u : Int32) => ((0 : Int) ≤ u.toInt ∧ u.toInt ≤ 900) ∧ (True)) (fun u : Int32 => ((uX10 cs adm qm Fm Am Bm Dm) ++ (uX9 cs (qm 1) qmt (upd Fmt 1 u) Amt Bmt Dmt))))) (by decide) (by simp [lg_sl, Value.category]) ?_
  intro p e s m args below meth c ls A0 hx hb hml hr hlk hown hmn ht hK hP hD hS hA hl
  have hl : lv_has ls 2 [(0, .ref adm), (1, .int a1)] := hl
  refine lv_iload_n hx hb dX10_end_0 rfl (lv_at hl 1 rfl) ?_
  refine lv_if_lt (tgt := 15) hx hb dX10_end_1 (by decide) (fun c1 => ?_) (fun c1 => ?_)
  · have zc1 := ltK rfl (show (0 : Int32).toInt = 0 by decide) c1
    refine lv_iconst (v := (-1)) hx hb dX10_end_15 (by decide) ?_
    exact retDi (Fmt 1) hx hb hr hlk hP hD hS dX10_end_16 (⟨hImt.1 1, trivial⟩) (Nat.le_of_ble_eq_true rfl) (Nat.le_of_ble_eq_true rfl)
  · have zc1 := nltK rfl (show (0 : Int32).toInt = 0 by decide) c1
    refine lv_iload_n hx hb dX10_end_4 rfl (lv_at hl 1 rfl) ?_
    refine lv_aload_n hx hb dX10_end_5 rfl (lv_at hl 0 rfl) ?_
    refine getF (v := .ref (qm 1)) hx hb ht hown hK hP iTX10 0 1 rfl rfl (by decide) fl_RX10_20 rfl dX10_end_6 ?_
    refine getF (v := .int (Fmt 1)) hx hb ht hown hK hP iTX9 3 1 rfl rfl (by decide) fl_RX10_84 rfl dX10_end_9 ?_
    have zf2 : (0 : Int) ≤ (Fmt 1).toInt ∧ (Fmt 1).toInt ≤ 900 := hImt.1 1
    refine lv_icmp_le (tgt := 17) hx hb dX10_end_12 (by decide) (fun c3 => ?_) (fun c3 => ?_)
    · have zc3 := leK rfl rfl c3
      refine lv_aload_n hx hb dX10_end_17 rfl (lv_at hl 0 rfl) ?_
      refine getF (v := .ref (qm 1)) hx hb ht hown hK hP iTX10 0 1 rfl rfl (by decide) fl_RX10_20 rfl dX10_end_18 ?_
      refine lv_iload_n hx hb dX10_end_21 rfl (lv_at hl 1 rfl) ?_
      refine putD hx hb ht hown hK hP hD hS iTX9 tyX9 tyX9_ok nmX9 3 1 rfl rfl (by decide) fl_RX10_84 rfl rfl rfl (Nat.le_of_ble_eq_true rfl) dX10_end_22 (fun H locs hP hD hS => ?_)
      have hP : va_P G vwCl ((uX10 cs adm qm Fm Am Bm Dm) ++ (uX9 cs (qm 1) qmt (upd Fmt 1 a1) Amt Bmt Dmt)) H := hP
      have hD : va_D A0 ((uX10 cs adm qm Fm Am Bm Dm) ++ (uX9 cs (qm 1) qmt (upd Fmt 1 a1) Amt Bmt Dmt)) := hD
      refine lv_iload_n hx hb dX10_end_25 rfl (lv_at hl 1 rfl) ?_
      exact retDi a1 hx hb hr hlk hP hD hS dX10_end_26 (⟨show (0 : Int) ≤ a1.toInt ∧ a1.toInt ≤ 900 by omega, trivial⟩) (Nat.le_of_ble_eq_true rfl) (Nat.le_of_ble_eq_true rfl)
    · have zc3 := nleK rfl rfl c3
      refine lv_iconst (v := (-1)) hx hb dX10_end_15 (by decide) ?_
      exact retDi (Fmt 1) hx hb hr hlk hP hD hS dX10_end_16 (⟨hImt.1 1, trivial⟩) (Nat.le_of_ble_eq_true rfl) (Nat.le_of_ble_eq_true rfl)

set_option maxRecDepth 100000 in
set_option maxHeartbeats 16000000 in
theorem sX10_house (l : Launch) (G : va_G) (cs : Nat → ClassId) (sd : Nat → Nat × Nat) (adm : Nat) (qm : Nat → Nat) (Fm : Nat → Int32) (Am : Nat → Nat → Int32) (Bm : Nat → Nat → Int64) (Dm : Int64) (hIm : IX10 Fm Am) (Fmr : Nat → Int32) (Amr : Nat → Nat → Int32) (Bmr : Nat → Nat → Int64) (Dmr : Int64) (hImr : IX6 Fmr Amr) (qmt : Nat → Nat) (Fmt : Nat → Int32) (Amt : Nat → Nat → Int32) (Bmt : Nat → Nat → Int64) (Dmt : Int64) (hImt : IX9 Fmt Amt) (qmd : Nat → Nat) (Fmd : Nat → Int32) (Amd : Nat → Nat → Int32) (Bmd : Nat → Nat → Int64) (Dmd : Int64) (hImd : IX3 Fmd Amd) (qms : Nat → Nat) (Fms : Nat → Int32) (Ams : Nat → Nat → Int32) (Bms : Nat → Nat → Int64) (Dms : Int64) (hIms : IX8 Fms Ams) (qmh : Nat → Nat) (Fmh : Nat → Int32) (Amh : Nat → Nat → Int32) (Bmh : Nat → Nat → Int64) (Dmh : Int64) (hImh : IX3 Fmh Amh) (qmn : Nat → Nat) (Fmn : Nat → Int32) (Amn : Nat → Nat → Int32) (Bmn : Nat → Nat → Int64) (Dmn : Int64) (hImn : IX5 Fmn Amn) : ∀ sz : Nat, Met l yX10_house (wk yX10_house cX10_house 1 (some .int)) (rmk 9 0 0) (PreDS SRR sd G (TY cs) [.ref adm] ((uX10 cs adm qm Fm Am Bm Dm) ++ ((uX6 cs (qm 0) (fun _ => qm 1) Fmr Amr Bmr Dmr) ++ ((uX9 cs (qm 1) qmt Fmt Amt Bmt Dmt) ++ ((uX3 cs (qm 2) qmd Fmd Amd Bmd Dmd) ++ ((uX8 cs (qm 3) qms Fms Ams Bms Dms) ++ ((uX3 cs (qms 0) qmh Fmh Amh Bmh Dmh) ++ (uX5 cs (qm 6) qmn Fmn Amn Bmn Dmn))))))) sz) ((QDi G (fun (r : Int32) (u : Int32 × Int32 × Int32 × Int32 × Int32 × Int32 × Int32 × Int32 × Int32 × Int32 × Int32 × Int32 × Int32 × Int32 × Int32 × Int32 × Int32 × Int32 × Int32 × Int32 × Int32 × Int32 × Int32 × Int32 × (Nat → Int32) × (Nat → Int32) × (Nat → Int32) × (Nat → Int32) × (Nat → Int32) × (Nat → Int32) × (Nat → Int32) × (Nat → Int32) × (Nat → Int32) × (Nat → Int32) × (Nat → Int32) × (Nat → Int32) × (Nat → Int32) × (Nat → Int32) × (Nat → Int32) × (Nat → Int32)) => ((0 : Int) ≤ u.2.2.2.2.2.1.toInt ∧ u.2.2.2.2.2.1.toInt ≤ 7) ∧ ((0 : Int) ≤ u.2.2.2.2.2.2.1.toInt ∧ u.2.2.2.2.2.2.1.toInt ≤ 6) ∧ ((0 : Int) ≤ u.2.2.2.2.2.2.2.2.2.2.2.2.1.toInt ∧ u.2.2.2.2.2.2.2.2.2.2.2.2.1.toInt ≤ 7) ∧ ((0 : Int) ≤ u.2.2.2.2.2.2.2.2.2.2.2.2.2.1.toInt ∧ u.2.2.2.2.2.2.2.2.2.2.2.2.2.1.toInt ≤ 6) ∧ ((0 : Int) ≤ u.2.2.2.2.2.2.2.2.2.2.2.2.2.2.2.2.1.toInt ∧ u.2.2.2.2.2.2.2.2.2.2.2.2.2.2.2.2.1.toInt ≤ 900) ∧ ((0 : Int) ≤ u.2.2.2.2.2.2.2.2.2.2.2.2.2.2.2.2.2.1.toInt ∧ u.2.2.2.2.2.2.2.2.2.2.2.2.2.2.2.2.2.1.toInt ≤ 4) ∧ ((0 : Int) ≤ u.2.2.2.2.2.2.2.2.2.2.2.2.2.2.2.2.2.2.1.toInt ∧ u.2.2.2.2.2.2.2.2.2.2.2.2.2.2.2.2.2.2.1.toInt ≤ 900) ∧ ((0 : Int) ≤ u.2.2.2.2.2.2.2.2.2.2.2.2.2.2.2.2.2.2.2.2.2.2.1.toInt ∧ u.2.2.2.2.2.2.2.2.2.2.2.2.2.2.2.2.2.2.2.2.2.2.1.toInt ≤ 60) ∧ ((0 : Int) ≤ u.2.2.2.2.2.2.2.2.2.2.2.2.2.2.2.2.2.2.2.2.2.2.2.1.toInt ∧ u.2.2.2.2.2.2.2.2.2.2.2.2.2.2.2.2.2.2.2.2.2.2.2.1.toInt ≤ 900) ∧ AJ (0) 127 u.2.2.2.2.2.2.2.2.2.2.2.2.2.2.2.2.2.2.2.2.2.2.2.2.2.2.2.1 ∧ AJ (0) 63 u.2.2.2.2.2.2.2.2.2.2.2.2.2.2.2.2.2.2.2.2.2.2.2.2.2.2.2.2.2.1 ∧ AJ (0) 127 u.2.2.2.2.2.2.2.2.2.2.2.2.2.2.2.2.2.2.2.2.2.2.2.2.2.2.2.2.2.2.2.2.2.2.1 ∧ AJ (0) 63 u.2.2.2.2.2.2.2.2.2.2.2.2.2.2.2.2.2.2.2.2.2.2.2.2.2.2.2.2.2.2.2.2.2.2.2.2.1 ∧ (True)) (fun u : Int32 × Int32 × Int32 × Int32 × Int32 × Int32 × Int32 × Int32 × Int32 × Int32 × Int32 × Int32 × Int32 × Int32 × Int32 × Int32 × Int32 × Int32 × Int32 × Int32 × Int32 × Int32 × Int32 × Int32 × (Nat → Int32) × (Nat → Int32) × (Nat → Int32) × (Nat → Int32) × (Nat → Int32) × (Nat → Int32) × (Nat → Int32) × (Nat → Int32) × (Nat → Int32) × (Nat → Int32) × (Nat → Int32) × (Nat → Int32) × (Nat → Int32) × (Nat → Int32) × (Nat → Int32) × (Nat → Int32) => ((uX10 cs adm qm Fm Am Bm Dm) ++ ((uX6 cs (qm 0) (fun _ => qm 1) (upd (upd (upd (upd (upd (upd Fmr 1 u.2.2.2.2.2.2.2.2.2.2.2.2.2.2.2.2.1) 2 u.2.2.2.2.2.2.2.2.2.2.2.2.2.2.2.2.2.1) 3 u.2.2.2.2.2.2.2.2.2.2.2.2.2.2.2.2.2.2.1) 4 u.2.2.2.2.2.2.2.2.2.2.2.2.2.2.2.2.2.2.2.1) 5 u.2.2.2.2.2.2.2.2.2.2.2.2.2.2.2.2.2.2.2.2.1) 6 u.2.2.2.2.2.2.2.2.2.2.2.2.2.2.2.2.2.2.2.2.2.1) Amr Bmr Dmr) ++ ((uX9 cs (qm 1) qmt (upd Fmt 1 u.2.2.2.2.2.2.2.2.2.2.2.2.2.2.2.2.2.2.2.2.2.2.2.1) Amt Bmt Dmt) ++ ((uX3 cs (qm 2) qmd (upd (upd (upd (upd (upd (upd (upd Fmd 0 u.1) 1 u.2.1) 2 u.2.2.1) 3 u.2.2.2.1) 4 u.2.2.2.2.1) 5 u.2.2.2.2.2.1) 6 u.2.2.2.2.2.2.1) (vA (vA (vA (vA (vA (vA (vA Amd 7 u.2.2.2.2.2.2.2.2.2.2.2.2.2.2.2.2.2.2.2.2.2.2.2.2.1) 8 u.2.2.2.2.2.2.2.2.2.2.2.2.2.2.2.2.2.2.2.2.2.2.2.2.2.1) 9 u.2.2.2.2.2.2.2.2.2.2.2.2.2.2.2.2.2.2.2.2.2.2.2.2.2.2.1) 10 u.2.2.2.2.2.2.2.2.2.2.2.2.2.2.2.2.2.2.2.2.2.2.2.2.2.2.2.1) 11 u.2.2.2.2.2.2.2.2.2.2.2.2.2.2.2.2.2.2.2.2.2.2.2.2.2.2.2.2.1) 12 u.2.2.2.2.2.2.2.2.2.2.2.2.2.2.2.2.2.2.2.2.2.2.2.2.2.2.2.2.2.1) 13 u.2.2.2.2.2.2.2.2.2.2.2.2.2.2.2.2.2.2.2.2.2.2.2.2.2.2.2.2.2.2.1) Bmd Dmd) ++ ((uX8 cs (qm 3) qms (upd Fms 2 u.2.2.2.2.2.2.2.2.2.2.2.2.2.2.2.2.2.2.2.2.2.2.1) Ams Bms Dms) ++ ((uX3 cs (qms 0) qmh (upd (upd (upd (upd (upd (upd (upd Fmh 0 u.2.2.2.2.2.2.2.1) 1 u.2.2.2.2.2.2.2.2.1) 2 u.2.2.2.2.2.2.2.2.2.1) 3 u.2.2.2.2.2.2.2.2.2.2.1) 4 u.2.2.2.2.2.2.2.2.2.2.2.1) 5 u.2.2.2.2.2.2.2.2.2.2.2.2.1) 6 u.2.2.2.2.2.2.2.2.2.2.2.2.2.1) (vA (vA (vA (vA (vA (vA (vA Amh 7 u.2.2.2.2.2.2.2.2.2.2.2.2.2.2.2.2.2.2.2.2.2.2.2.2.2.2.2.2.2.2.2.1) 8 u.2.2.2.2.2.2.2.2.2.2.2.2.2.2.2.2.2.2.2.2.2.2.2.2.2.2.2.2.2.2.2.2.1) 9 u.2.2.2.2.2.2.2.2.2.2.2.2.2.2.2.2.2.2.2.2.2.2.2.2.2.2.2.2.2.2.2.2.2.1) 10 u.2.2.2.2.2.2.2.2.2.2.2.2.2.2.2.2.2.2.2.2.2.2.2.2.2.2.2.2.2.2.2.2.2.2.1) 11 u.2.2.2.2.2.2.2.2.2.2.2.2.2.2.2.2.2.2.2.2.2.2.2.2.2.2.2.2.2.2.2.2.2.2.2.1) 12 u.2.2.2.2.2.2.2.2.2.2.2.2.2.2.2.2.2.2.2.2.2.2.2.2.2.2.2.2.2.2.2.2.2.2.2.2.1) 13 u.2.2.2.2.2.2.2.2.2.2.2.2.2.2.2.2.2.2.2.2.2.2.2.2.2.2.2.2.2.2.2.2.2.2.2.2.2.1) Bmh Dmh) ++ (uX5 cs (qm 6) qmn (upd (upd Fmn 2 u.2.2.2.2.2.2.2.2.2.2.2.2.2.2.1) 3 u.2.2.2.2.2.2.2.2.2.2.2.2.2.2.2.1) (vA (vA Amn 0 u.2.2.2.2.2.2.2.2.2.2.2.2.2.2.2.2.2.2.2.2.2.2.2.2.2.2.2.2.2.2.2.2.2.2.2.2.2.2.1) 1 u.2.2.2.2.2.2.2.2.2.2.2.2.2.2.2.2.2.2.2.2.2.2.2.2.2.2.2.2.2.2.2.2.2.2.2.2.2.2.2) Bmn Dmn))))))))) (va_A ((uX10 cs adm qm Fm Am Bm Dm) ++ ((uX6 cs (qm 0) (fun _ => qm 1) Fmr Amr Bmr Dmr) ++ ((uX9 cs (qm 1) qmt Fmt Amt Bmt Dmt) ++ ((uX3 cs (qm 2) qmd Fmd Amd Bmd Dmd) ++ ((uX8 cs (qm 3) qms Fms Ams Bms Dms) ++ ((uX3 cs (qms 0) qmh Fmh Amh Bmh Dmh) ++ (uX5 cs (qm 6) qmn Fmn Amn Bmn Dmn))))))) sz)) 0 0 (va_A ((uX10 cs adm qm Fm Am Bm Dm) ++ ((uX6 cs (qm 0) (fun _ => qm 1) Fmr Amr Bmr Dmr) ++ ((uX9 cs (qm 1) qmt Fmt Amt Bmt Dmt) ++ ((uX3 cs (qm 2) qmd Fmd Amd Bmd Dmd) ++ ((uX8 cs (qm 3) qms Fms Ams Bms Dms) ++ ((uX3 cs (qms 0) qmh Fmh Amh Bmh Dmh) ++ (uX5 cs (qm 6) qmn Fmn Amn Bmn Dmn))))))) sz) := by
  refine mkDS (Qc := (QDi G (fun (r : Int32) (u : Int32 × Int32 × Int32 × Int32 × Int32 × Int32 × Int32 × Int32 × Int32 × Int32 × Int32 × Int32 × Int32 × Int32 × Int32 × Int32 × Int32 × Int32 × Int32 × Int32 × Int32 × Int32 × Int32 × Int32 × (Nat → Int32) × (Nat → Int32) × (Nat → Int32) × (Nat → Int32) × (Nat → Int32) × (Nat → Int32) × (Nat → Int32) × (Nat → Int32) × (Nat → Int32) × (Nat → Int32) × (Nat → Int32) × (Nat → Int32) × (Nat → Int32) × (Nat → Int32) × (Nat → Int32) × (Nat → Int32)) => ((0 : Int) ≤ u.2.2.2.2.2.1.toInt ∧ u.2.2.2.2.2.1.toInt ≤ 7) ∧ ((0 : Int) ≤ u.2.2.2.2.2.2.1.toInt ∧ u.2.2.2.2.2.2.1.toInt ≤ 6) ∧ ((0 : Int) ≤ u.2.2.2.2.2.2.2.2.2.2.2.2.1.toInt ∧ u.2.2.2.2.2.2.2.2.2.2.2.2.1.toInt ≤ 7) ∧ ((0 : Int) ≤ u.2.2.2.2.2.2.2.2.2.2.2.2.2.1.toInt ∧ u.2.2.2.2.2.2.2.2.2.2.2.2.2.1.toInt ≤ 6) ∧ ((0 : Int) ≤ u.2.2.2.2.2.2.2.2.2.2.2.2.2.2.2.2.1.toInt ∧ u.2.2.2.2.2.2.2.2.2.2.2.2.2.2.2.2.1.toInt ≤ 900) ∧ ((0 : Int) ≤ u.2.2.2.2.2.2.2.2.2.2.2.2.2.2.2.2.2.1.toInt ∧ u.2.2.2.2.2.2.2.2.2.2.2.2.2.2.2.2.2.1.toInt ≤ 4) ∧ ((0 : Int) ≤ u.2.2.2.2.2.2.2.2.2.2.2.2.2.2.2.2.2.2.1.toInt ∧ u.2.2.2.2.2.2.2.2.2.2.2.2.2.2.2.2.2.2.1.toInt ≤ 900) ∧ ((0 : Int) ≤ u.2.2.2.2.2.2.2.2.2.2.2.2.2.2.2.2.2.2.2.2.2.2.1.toInt ∧ u.2.2.2.2.2.2.2.2.2.2.2.2.2.2.2.2.2.2.2.2.2.2.1.toInt ≤ 60) ∧ ((0 : Int) ≤ u.2.2.2.2.2.2.2.2.2.2.2.2.2.2.2.2.2.2.2.2.2.2.2.1.toInt ∧ u.2.2.2.2.2.2.2.2.2.2.2.2.2.2.2.2.2.2.2.2.2.2.2.1.toInt ≤ 900) ∧ AJ (0) 127 u.2.2.2.2.2.2.2.2.2.2.2.2.2.2.2.2.2.2.2.2.2.2.2.2.2.2.2.1 ∧ AJ (0) 63 u.2.2.2.2.2.2.2.2.2.2.2.2.2.2.2.2.2.2.2.2.2.2.2.2.2.2.2.2.2.1 ∧ AJ (0) 127 u.2.2.2.2.2.2.2.2.2.2.2.2.2.2.2.2.2.2.2.2.2.2.2.2.2.2.2.2.2.2.2.2.2.2.1 ∧ AJ (0) 63 u.2.2.2.2.2.2.2.2.2.2.2.2.2.2.2.2.2.2.2.2.2.2.2.2.2.2.2.2.2.2.2.2.2.2.2.2.1 ∧ (True)) (fun u : Int32 × Int32 × Int32 × Int32 × Int32 × Int32 × Int32 × Int32 × Int32 × Int32 × Int32 × Int32 × Int32 × Int32 × Int32 × Int32 × Int32 × Int32 × Int32 × Int32 × Int32 × Int32 × Int32 × Int32 × (Nat → Int32) × (Nat → Int32) × (Nat → Int32) × (Nat → Int32) × (Nat → Int32) × (Nat → Int32) × (Nat → Int32) × (Nat → Int32) × (Nat → Int32) × (Nat → Int32) × (Nat → Int32) × (Nat → Int32) × (Nat → Int32) × (Nat → Int32) × (Nat → Int32) × (Nat → Int32) => ((uX10 cs adm qm Fm Am Bm Dm) ++ ((uX6 cs (qm 0) (fun _ => qm 1) (upd (upd (upd (upd (upd (upd Fmr 1 u.2.2.2.2.2.2.2.2.2.2.2.2.2.2.2.2.1) 2 u.2.2.2.2.2.2.2.2.2.2.2.2.2.2.2.2.2.1) 3 u.2.2.2.2.2.2.2.2.2.2.2.2.2.2.2.2.2.2.1) 4 u.2.2.2.2.2.2.2.2.2.2.2.2.2.2.2.2.2.2.2.1) 5 u.2.2.2.2.2.2.2.2.2.2.2.2.2.2.2.2.2.2.2.2.1) 6 u.2.2.2.2.2.2.2.2.2.2.2.2.2.2.2.2.2.2.2.2.2.1) Amr Bmr Dmr) ++ ((uX9 cs (qm 1) qmt (upd Fmt 1 u.2.2.2.2.2.2.2.2.2.2.2.2.2.2.2.2.2.2.2.2.2.2.2.1) Amt Bmt Dmt) ++ ((uX3 cs (qm 2) qmd (upd (upd (upd (upd (upd (upd (upd Fmd 0 u.1) 1 u.2.1) 2 u.2.2.1) 3 u.2.2.2.1) 4 u.2.2.2.2.1) 5 u.2.2.2.2.2.1) 6 u.2.2.2.2.2.2.1) (vA (vA (vA (vA (vA (vA (vA Amd 7 u.2.2.2.2.2.2.2.2.2.2.2.2.2.2.2.2.2.2.2.2.2.2.2.2.1) 8 u.2.2.2.2.2.2.2.2.2.2.2.2.2.2.2.2.2.2.2.2.2.2.2.2.2.1) 9 u.2.2.2.2.2.2.2.2.2.2.2.2.2.2.2.2.2.2.2.2.2.2.2.2.2.2.1) 10 u.2.2.2.2.2.2.2.2.2.2.2.2.2.2.2.2.2.2.2.2.2.2.2.2.2.2.2.1) 11 u.2.2.2.2.2.2.2.2.2.2.2.2.2.2.2.2.2.2.2.2.2.2.2.2.2.2.2.2.1) 12 u.2.2.2.2.2.2.2.2.2.2.2.2.2.2.2.2.2.2.2.2.2.2.2.2.2.2.2.2.2.1) 13 u.2.2.2.2.2.2.2.2.2.2.2.2.2.2.2.2.2.2.2.2.2.2.2.2.2.2.2.2.2.2.1) Bmd Dmd) ++ ((uX8 cs (qm 3) qms (upd Fms 2 u.2.2.2.2.2.2.2.2.2.2.2.2.2.2.2.2.2.2.2.2.2.2.1) Ams Bms Dms) ++ ((uX3 cs (qms 0) qmh (upd (upd (upd (upd (upd (upd (upd Fmh 0 u.2.2.2.2.2.2.2.1) 1 u.2.2.2.2.2.2.2.2.1) 2 u.2.2.2.2.2.2.2.2.2.1) 3 u.2.2.2.2.2.2.2.2.2.2.1) 4 u.2.2.2.2.2.2.2.2.2.2.2.1) 5 u.2.2.2.2.2.2.2.2.2.2.2.2.1) 6 u.2.2.2.2.2.2.2.2.2.2.2.2.2.1) (vA (vA (vA (vA (vA (vA (vA Amh 7 u.2.2.2.2.2.2.2.2.2.2.2.2.2.2.2.2.2.2.2.2.2.2.2.2.2.2.2.2.2.2.2.1) 8 u.2.2.2.2.2.2.2.2.2.2.2.2.2.2.2.2.2.2.2.2.2.2.2.2.2.2.2.2.2.2.2.2.1) 9 u.2.2.2.2.2.2.2.2.2.2.2.2.2.2.2.2.2.2.2.2.2.2.2.2.2.2.2.2.2.2.2.2.2.1) 10 u.2.2.2.2.2.2.2.2.2.2.2.2.2.2.2.2.2.2.2.2.2.2.2.2.2.2.2.2.2.2.2.2.2.2.1) 11 u.2.2.2.2.2.2.2.2.2.2.2.2.2.2.2.2.2.2.2.2.2.2.2.2.2.2.2.2.2.2.2.2.2.2.2.1) 12 u.2.2.2.2.2.2.2.2.2.2.2.2.2.2.2.2.2.2.2.2.2.2.2.2.2.2.2.2.2.2.2.2.2.2.2.2.1) 13 u.2.2.2.2.2.2.2.2.2.2.2.2.2.2.2.2.2.2.2.2.2.2.2.2.2.2.2.2.2.2.2.2.2.2.2.2.2.1) Bmh Dmh) ++ (uX5 cs (qm 6) qmn (upd (upd Fmn 2 u.2.2.2.2.2.2.2.2.2.2.2.2.2.2.1) 3 u.2.2.2.2.2.2.2.2.2.2.2.2.2.2.2.1) (vA (vA Amn 0 u.2.2.2.2.2.2.2.2.2.2.2.2.2.2.2.2.2.2.2.2.2.2.2.2.2.2.2.2.2.2.2.2.2.2.2.2.2.2.1) 1 u.2.2.2.2.2.2.2.2.2.2.2.2.2.2.2.2.2.2.2.2.2.2.2.2.2.2.2.2.2.2.2.2.2.2.2.2.2.2.2) Bmn Dmn)))))))))) (by decide) (by simp [lg_sl, Value.category]) ?_
  intro p e s m args below meth c ls A0 hx hb hml hr hlk hown hmn ht hK hP hD hS hA hQ hl
  have hl : lv_has ls 1 [(0, .ref adm)] := hl
  refine lv_aload_n hx hb dX10_house_0 rfl (lv_at hl 0 rfl) ?_
  refine getF (v := .ref (qm 0)) hx hb ht hown hK hP iTX10 0 0 rfl rfl (by decide) fl_RX10_10 rfl dX10_house_1 ?_
  refine lv_aload_n hx hb dX10_house_4 rfl (lv_at hl 0 rfl) ?_
  refine getF (v := .ref (qm 2)) hx hb ht hown hK hP iTX10 0 2 rfl rfl (by decide) fl_RX10_24 rfl dX10_house_5 ?_
  refine behDi (wr := ((uX10 cs adm qm Fm Am Bm Dm) ++ ((uX8 cs (qm 3) qms Fms Ams Bms Dms) ++ ((uX3 cs (qms 0) qmh Fmh Amh Bmh Dmh) ++ (uX5 cs (qm 6) qmn Fmn Amn Bmn Dmn))))) (runVDS (As := [.ref (qm 2)]) (rest := []) ⟨hx, hb, hml, hown, ht⟩ (sX6_readHouse l G cs sd (qm 0) (fun _ => qm 1) Fmr Amr Bmr Dmr hImr qmt Fmt Amt Bmt Dmt hImt (qm 2) qmd Fmd Amd Bmd Dmd hImd ) okV_RX10_94 ⟨by decide, by decide⟩ hK hP hD hQ hS hA [3, 4, 5, 6, 7, 8, 9, 10, 11, 12, 13] rfl (by decide) rfl 3 rfl rfl hl.1 rfl (Nat.le_of_ble_eq_true rfl) dX10_house_8 ⟨(Nat.le_of_ble_eq_true rfl), (Nat.le_of_ble_eq_true rfl)⟩) hP hD hS hA [3, 4, 5, 6, 7, 8, 9, 10, 11, 12, 13] [0, 1, 2, 14, 15, 16, 17, 18, 19, 20, 21, 22, 23, 24, 25, 26] rfl rfl (by decide) (by decide) (fun r9 u H locs hu hP hD hS => ?_)
  obtain ⟨x1, x2, x3, x4, x5, x6, x7, x8, x9, x10, x11, x12, x13, g14, g15, g16, g17, g18, g19, g20⟩ := u
  obtain ⟨r21, rfl⟩ : ∃ z, z = r9 := ⟨_, rfl⟩
  obtain ⟨hbx6, hbx7, hbx8, hbx9, hbx10, hg17, hg19, hr21⟩ := hu
  have hbx6 : (0 : Int) ≤ x6.toInt ∧ x6.toInt ≤ 7 := hbx6
  have hbx7 : (0 : Int) ≤ x7.toInt ∧ x7.toInt ≤ 6 := hbx7
  have hbx8 : (0 : Int) ≤ x8.toInt ∧ x8.toInt ≤ 900 := hbx8
  have hbx9 : (0 : Int) ≤ x9.toInt ∧ x9.toInt ≤ 4 := hbx9
  have hbx10 : (0 : Int) ≤ x10.toInt ∧ x10.toInt ≤ 900 := hbx10
  have hg17 : AJ (0) 127 g17 := hg17
  have hg19 : AJ (0) 63 g19 := hg19
  have hr21 : (0 : Int) ≤ r21.toInt ∧ r21.toInt ≤ 1 := hr21
  have hP : va_P G vwCl ((uX10 cs adm qm Fm Am Bm Dm) ++ ((uX6 cs (qm 0) (fun _ => qm 1) (upd (upd (upd (upd (upd (upd Fmr 1 x8) 2 x9) 3 x10) 4 x11) 5 x12) 6 x13) Amr Bmr Dmr) ++ ((uX9 cs (qm 1) qmt Fmt Amt Bmt Dmt) ++ ((uX3 cs (qm 2) qmd (upd (upd (upd (upd (upd (upd (upd Fmd 0 x1) 1 x2) 2 x3) 3 x4) 4 x5) 5 x6) 6 x7) (vA (vA (vA (vA (vA (vA (vA Amd 7 g14) 8 g15) 9 g16) 10 g17) 11 g18) 12 g19) 13 g20) Bmd Dmd) ++ ((uX8 cs (qm 3) qms Fms Ams Bms Dms) ++ ((uX3 cs (qms 0) qmh Fmh Amh Bmh Dmh) ++ (uX5 cs (qm 6) qmn Fmn Amn Bmn Dmn))))))) H := hP.sub [0, 1, 2, 16, 17, 18, 19, 20, 21, 22, 23, 24, 25, 26, 3, 4, 5, 6, 7, 8, 9, 10, 11, 12, 13, 14, 15] rfl
  have hD : va_D A0 ((uX10 cs adm qm Fm Am Bm Dm) ++ ((uX6 cs (qm 0) (fun _ => qm 1) (upd (upd (upd (upd (upd (upd Fmr 1 x8) 2 x9) 3 x10) 4 x11) 5 x12) 6 x13) Amr Bmr Dmr) ++ ((uX9 cs (qm 1) qmt Fmt Amt Bmt Dmt) ++ ((uX3 cs (qm 2) qmd (upd (upd (upd (upd (upd (upd (upd Fmd 0 x1) 1 x2) 2 x3) 3 x4) 4 x5) 5 x6) 6 x7) (vA (vA (vA (vA (vA (vA (vA Amd 7 g14) 8 g15) 9 g16) 10 g17) 11 g18) 12 g19) 13 g20) Bmd Dmd) ++ ((uX8 cs (qm 3) qms Fms Ams Bms Dms) ++ ((uX3 cs (qms 0) qmh Fmh Amh Bmh Dmh) ++ (uX5 cs (qm 6) qmn Fmn Amn Bmn Dmn))))))) := hD.sub [0, 1, 2, 16, 17, 18, 19, 20, 21, 22, 23, 24, 25, 26, 3, 4, 5, 6, 7, 8, 9, 10, 11, 12, 13, 14, 15] (by decide) rfl
  refine lv_if_ne (tgt := 17) hx hb dX10_house_11 (by decide) (fun c22 => ?_) (fun c22 => ?_)
  · have zc22 := neK rfl (show (0 : Int32).toInt = 0 by decide) c22
    refine lv_aload_n hx hb dX10_house_17 rfl (lv_at hl 0 rfl) ?_
    refine getF (v := .ref (qm 1)) hx hb ht hown hK hP iTX10 0 1 rfl rfl (by decide) fl_RX10_20 rfl dX10_house_18 ?_
    refine lv_iconst (v := 0) hx hb dX10_house_21 (by decide) ?_
    refine putD hx hb ht hown hK hP hD hS iTX9 tyX9 tyX9_ok nmX9 4 1 rfl rfl (by decide) fl_RX10_84 rfl rfl rfl (Nat.le_of_ble_eq_true rfl) dX10_house_22 (fun H locs hP hD hS => ?_)
    have hP : va_P G vwCl ((uX10 cs adm qm Fm Am Bm Dm) ++ ((uX6 cs (qm 0) (fun _ => qm 1) (upd (upd (upd (upd (upd (upd Fmr 1 x8) 2 x9) 3 x10) 4 x11) 5 x12) 6 x13) Amr Bmr Dmr) ++ ((uX9 cs (qm 1) qmt (upd Fmt 1 (0 : Int32)) Amt Bmt Dmt) ++ ((uX3 cs (qm 2) qmd (upd (upd (upd (upd (upd (upd (upd Fmd 0 x1) 1 x2) 2 x3) 3 x4) 4 x5) 5 x6) 6 x7) (vA (vA (vA (vA (vA (vA (vA Amd 7 g14) 8 g15) 9 g16) 10 g17) 11 g18) 12 g19) 13 g20) Bmd Dmd) ++ ((uX8 cs (qm 3) qms Fms Ams Bms Dms) ++ ((uX3 cs (qms 0) qmh Fmh Amh Bmh Dmh) ++ (uX5 cs (qm 6) qmn Fmn Amn Bmn Dmn))))))) H := hP
    have hD : va_D A0 ((uX10 cs adm qm Fm Am Bm Dm) ++ ((uX6 cs (qm 0) (fun _ => qm 1) (upd (upd (upd (upd (upd (upd Fmr 1 x8) 2 x9) 3 x10) 4 x11) 5 x12) 6 x13) Amr Bmr Dmr) ++ ((uX9 cs (qm 1) qmt (upd Fmt 1 (0 : Int32)) Amt Bmt Dmt) ++ ((uX3 cs (qm 2) qmd (upd (upd (upd (upd (upd (upd (upd Fmd 0 x1) 1 x2) 2 x3) 3 x4) 4 x5) 5 x6) 6 x7) (vA (vA (vA (vA (vA (vA (vA Amd 7 g14) 8 g15) 9 g16) 10 g17) 11 g18) 12 g19) 13 g20) Bmd Dmd) ++ ((uX8 cs (qm 3) qms Fms Ams Bms Dms) ++ ((uX3 cs (qms 0) qmh Fmh Amh Bmh Dmh) ++ (uX5 cs (qm 6) qmn Fmn Amn Bmn Dmn))))))) := hD
    refine lv_aload_n hx hb dX10_house_25 rfl (lv_at hl 0 rfl) ?_
    refine getF (v := .ref (qm 3)) hx hb ht hown hK hP iTX10 0 3 rfl rfl (by decide) fl_RX10_31 rfl dX10_house_26 ?_
    refine getF (v := .ref (qms 0)) hx hb ht hown hK hP iTX8 14 0 rfl rfl (by decide) fl_RX10_98 rfl dX10_house_29 ?_
    refine lv_aload_n hx hb dX10_house_32 rfl (lv_at hl 0 rfl) ?_
    refine getF (v := .ref (qm 2)) hx hb ht hown hK hP iTX10 0 2 rfl rfl (by decide) fl_RX10_24 rfl dX10_house_33 ?_
    refine behDw (wr := ((uX10 cs adm qm Fm Am Bm Dm) ++ ((uX6 cs (qm 0) (fun _ => qm 1) (upd (upd (upd (upd (upd (upd Fmr 1 x8) 2 x9) 3 x10) 4 x11) 5 x12) 6 x13) Amr Bmr Dmr) ++ ((uX9 cs (qm 1) qmt (upd Fmt 1 (0 : Int32)) Amt Bmt Dmt) ++ ((uX8 cs (qm 3) qms Fms Ams Bms Dms) ++ (uX5 cs (qm 6) qmn Fmn Amn Bmn Dmn)))))) (runVD (As := [.ref (qm 2)]) (rest := []) ⟨hx, hb, hml, hown, ht⟩ (sX3_copyFrom l G cs (qms 0) qmh Fmh Amh Bmh Dmh hImh (qm 2) qmd (upd (upd (upd (upd (upd (upd (upd Fmd 0 x1) 1 x2) 2 x3) 3 x4) 4 x5) 5 x6) 6 x7) (vA (vA (vA (vA (vA (vA (vA Amd 7 g14) 8 g15) 9 g16) 10 g17) 11 g18) 12 g19) 13 g20) Bmd Dmd (IB_arr (k := 13) (IB_arr (k := 12) (IB_arr (k := 11) (IB_arr (k := 10) (IB_arr (k := 9) (IB_arr (k := 8) (IB_arr (k := 7) (IB_put (k := 6) (IB_put (k := 5) (IB_put (k := 4) (IB_put (k := 3) (IB_put (k := 2) (IB_put (k := 1) (IB_put (k := 0) hImd (i32b _)) (i32b _)) (i32b _)) (i32b _)) (i32b _)) (show (0 : Int) ≤ x6.toInt ∧ x6.toInt ≤ 7 by omega)) (show (0 : Int) ≤ x7.toInt ∧ x7.toInt ≤ 6 by omega)) (AJ_full _)) (AJ_full _)) (AJ_full _)) hg17) (AJ_full _)) hg19) (AJ_full _)) ) okV_RX10_101 ⟨by decide, by decide⟩ hK hP hD [16, 17, 18, 19, 20, 21, 22, 23, 6, 7, 8, 9, 10, 11, 12, 13] rfl (by decide) rfl 16 rfl rfl hl.1 rfl (Nat.le_of_ble_eq_true rfl) dX10_house_36 ⟨(Nat.le_of_ble_eq_true rfl), (Nat.le_of_ble_eq_true rfl)⟩) hP hD hS hA [16, 17, 18, 19, 20, 21, 22, 23, 6, 7, 8, 9, 10, 11, 12, 13] [0, 1, 2, 3, 4, 5, 14, 15, 24, 25, 26] rfl rfl (by decide) (by decide) (fun u H locs hu hP hD hS => ?_)
    obtain ⟨x23, x24, x25, x26, x27, x28, x29, g30, g31, g32, g33, g34, g35, g36⟩ := u
    obtain ⟨hbx28, hbx29, hg33, hg35, hr37⟩ := hu
    have hbx28 : (0 : Int) ≤ x28.toInt ∧ x28.toInt ≤ 7 := hbx28
    have hbx29 : (0 : Int) ≤ x29.toInt ∧ x29.toInt ≤ 6 := hbx29
    have hg33 : AJ (0) 127 g33 := hg33
    have hg35 : AJ (0) 63 g35 := hg35
    have hP : va_P G vwCl ((uX10 cs adm qm Fm Am Bm Dm) ++ ((uX6 cs (qm 0) (fun _ => qm 1) (upd (upd (upd (upd (upd (upd Fmr 1 x8) 2 x9) 3 x10) 4 x11) 5 x12) 6 x13) Amr Bmr Dmr) ++ ((uX9 cs (qm 1) qmt (upd Fmt 1 (0 : Int32)) Amt Bmt Dmt) ++ ((uX3 cs (qm 2) qmd (upd (upd (upd (upd (upd (upd (upd Fmd 0 x1) 1 x2) 2 x3) 3 x4) 4 x5) 5 x6) 6 x7) (vA (vA (vA (vA (vA (vA (vA Amd 7 g14) 8 g15) 9 g16) 10 g17) 11 g18) 12 g19) 13 g20) Bmd Dmd) ++ ((uX8 cs (qm 3) qms Fms Ams Bms Dms) ++ ((uX3 cs (qms 0) qmh (upd (upd (upd (upd (upd (upd (upd Fmh 0 x23) 1 x24) 2 x25) 3 x26) 4 x27) 5 x28) 6 x29) (vA (vA (vA (vA (vA (vA (vA Amh 7 g30) 8 g31) 9 g32) 10 g33) 11 g34) 12 g35) 13 g36) Bmh Dmh) ++ (uX5 cs (qm 6) qmn Fmn Amn Bmn Dmn))))))) H := hP.sub [0, 1, 2, 3, 4, 5, 19, 20, 21, 22, 23, 24, 25, 26, 6, 7, 11, 12, 13, 14, 15, 16, 17, 18, 8, 9, 10] rfl
    have hD : va_D A0 ((uX10 cs adm qm Fm Am Bm Dm) ++ ((uX6 cs (qm 0) (fun _ => qm 1) (upd (upd (upd (upd (upd (upd Fmr 1 x8) 2 x9) 3 x10) 4 x11) 5 x12) 6 x13) Amr Bmr Dmr) ++ ((uX9 cs (qm 1) qmt (upd Fmt 1 (0 : Int32)) Amt Bmt Dmt) ++ ((uX3 cs (qm 2) qmd (upd (upd (upd (upd (upd (upd (upd Fmd 0 x1) 1 x2) 2 x3) 3 x4) 4 x5) 5 x6) 6 x7) (vA (vA (vA (vA (vA (vA (vA Amd 7 g14) 8 g15) 9 g16) 10 g17) 11 g18) 12 g19) 13 g20) Bmd Dmd) ++ ((uX8 cs (qm 3) qms Fms Ams Bms Dms) ++ ((uX3 cs (qms 0) qmh (upd (upd (upd (upd (upd (upd (upd Fmh 0 x23) 1 x24) 2 x25) 3 x26) 4 x27) 5 x28) 6 x29) (vA (vA (vA (vA (vA (vA (vA Amh 7 g30) 8 g31) 9 g32) 10 g33) 11 g34) 12 g35) 13 g36) Bmh Dmh) ++ (uX5 cs (qm 6) qmn Fmn Amn Bmn Dmn))))))) := hD.sub [0, 1, 2, 3, 4, 5, 19, 20, 21, 22, 23, 24, 25, 26, 6, 7, 11, 12, 13, 14, 15, 16, 17, 18, 8, 9, 10] (by decide) rfl
    refine lv_aload_n hx hb dX10_house_39 rfl (lv_at hl 0 rfl) ?_
    refine getF (v := .ref (qm 3)) hx hb ht hown hK hP iTX10 0 3 rfl rfl (by decide) fl_RX10_31 rfl dX10_house_40 ?_
    refine lv_iconst (v := 0) hx hb dX10_house_43 (by decide) ?_
    refine putD hx hb ht hown hK hP hD hS iTX8 tyX8 tyX8_ok nmX8 14 2 rfl rfl (by decide) fl_RX10_105 rfl rfl rfl (Nat.le_of_ble_eq_true rfl) dX10_house_44 (fun H locs hP hD hS => ?_)
    have hP : va_P G vwCl ((uX10 cs adm qm Fm Am Bm Dm) ++ ((uX6 cs (qm 0) (fun _ => qm 1) (upd (upd (upd (upd (upd (upd Fmr 1 x8) 2 x9) 3 x10) 4 x11) 5 x12) 6 x13) Amr Bmr Dmr) ++ ((uX9 cs (qm 1) qmt (upd Fmt 1 (0 : Int32)) Amt Bmt Dmt) ++ ((uX3 cs (qm 2) qmd (upd (upd (upd (upd (upd (upd (upd Fmd 0 x1) 1 x2) 2 x3) 3 x4) 4 x5) 5 x6) 6 x7) (vA (vA (vA (vA (vA (vA (vA Amd 7 g14) 8 g15) 9 g16) 10 g17) 11 g18) 12 g19) 13 g20) Bmd Dmd) ++ ((uX8 cs (qm 3) qms (upd Fms 2 (0 : Int32)) Ams Bms Dms) ++ ((uX3 cs (qms 0) qmh (upd (upd (upd (upd (upd (upd (upd Fmh 0 x23) 1 x24) 2 x25) 3 x26) 4 x27) 5 x28) 6 x29) (vA (vA (vA (vA (vA (vA (vA Amh 7 g30) 8 g31) 9 g32) 10 g33) 11 g34) 12 g35) 13 g36) Bmh Dmh) ++ (uX5 cs (qm 6) qmn Fmn Amn Bmn Dmn))))))) H := hP
    have hD : va_D A0 ((uX10 cs adm qm Fm Am Bm Dm) ++ ((uX6 cs (qm 0) (fun _ => qm 1) (upd (upd (upd (upd (upd (upd Fmr 1 x8) 2 x9) 3 x10) 4 x11) 5 x12) 6 x13) Amr Bmr Dmr) ++ ((uX9 cs (qm 1) qmt (upd Fmt 1 (0 : Int32)) Amt Bmt Dmt) ++ ((uX3 cs (qm 2) qmd (upd (upd (upd (upd (upd (upd (upd Fmd 0 x1) 1 x2) 2 x3) 3 x4) 4 x5) 5 x6) 6 x7) (vA (vA (vA (vA (vA (vA (vA Amd 7 g14) 8 g15) 9 g16) 10 g17) 11 g18) 12 g19) 13 g20) Bmd Dmd) ++ ((uX8 cs (qm 3) qms (upd Fms 2 (0 : Int32)) Ams Bms Dms) ++ ((uX3 cs (qms 0) qmh (upd (upd (upd (upd (upd (upd (upd Fmh 0 x23) 1 x24) 2 x25) 3 x26) 4 x27) 5 x28) 6 x29) (vA (vA (vA (vA (vA (vA (vA Amh 7 g30) 8 g31) 9 g32) 10 g33) 11 g34) 12 g35) 13 g36) Bmh Dmh) ++ (uX5 cs (qm 6) qmn Fmn Amn Bmn Dmn))))))) := hD
    refine lv_aload_n hx hb dX10_house_47 rfl (lv_at hl 0 rfl) ?_
    refine behDw (wr := ((uX6 cs (qm 0) (fun _ => qm 1) (upd (upd (upd (upd (upd (upd Fmr 1 x8) 2 x9) 3 x10) 4 x11) 5 x12) 6 x13) Amr Bmr Dmr) ++ ((uX9 cs (qm 1) qmt (upd Fmt 1 (0 : Int32)) Amt Bmt Dmt) ++ (uX3 cs (qm 2) qmd (upd (upd (upd (upd (upd (upd (upd Fmd 0 x1) 1 x2) 2 x3) 3 x4) 4 x5) 5 x6) 6 x7) (vA (vA (vA (vA (vA (vA (vA Amd 7 g14) 8 g15) 9 g16) 10 g17) 11 g18) 12 g19) 13 g20) Bmd Dmd)))) (runVD (As := []) (rest := []) ⟨hx, hb, hml, hown, ht⟩ (sX10_replay l G cs adm qm Fm Am Bm Dm hIm qms (upd Fms 2 (0 : Int32)) Ams Bms Dms (IB_put (k := 2) hIms (show (0 : Int) ≤ (0 : Int32).toInt ∧ (0 : Int32).toInt ≤ 60 by decide)) qmh (upd (upd (upd (upd (upd (upd (upd Fmh 0 x23) 1 x24) 2 x25) 3 x26) 4 x27) 5 x28) 6 x29) (vA (vA (vA (vA (vA (vA (vA Amh 7 g30) 8 g31) 9 g32) 10 g33) 11 g34) 12 g35) 13 g36) Bmh Dmh (IB_arr (k := 13) (IB_arr (k := 12) (IB_arr (k := 11) (IB_arr (k := 10) (IB_arr (k := 9) (IB_arr (k := 8) (IB_arr (k := 7) (IB_put (k := 6) (IB_put (k := 5) (IB_put (k := 4) (IB_put (k := 3) (IB_put (k := 2) (IB_put (k := 1) (IB_put (k := 0) hImh (i32b _)) (i32b _)) (i32b _)) (i32b _)) (i32b _)) (show (0 : Int) ≤ x28.toInt ∧ x28.toInt ≤ 7 by omega)) (show (0 : Int) ≤ x29.toInt ∧ x29.toInt ≤ 6 by omega)) (AJ_full _)) (AJ_full _)) (AJ_full _)) hg33) (AJ_full _)) hg35) (AJ_full _)) qmn Fmn Amn Bmn Dmn hImn ) okV_RX10_108 ⟨by decide, by decide⟩ hK hP hD [0, 1, 2, 14, 15, 16, 17, 18, 19, 20, 21, 22, 23, 24, 25, 26] rfl (by decide) rfl 0 rfl rfl hl.1 rfl (Nat.le_of_ble_eq_true rfl) dX10_house_48 ⟨(Nat.le_of_ble_eq_true rfl), (Nat.le_of_ble_eq_true rfl)⟩) hP hD hS hA [0, 1, 2, 14, 15, 16, 17, 18, 19, 20, 21, 22, 23, 24, 25, 26] [3, 4, 5, 6, 7, 8, 9, 10, 11, 12, 13] rfl rfl (by decide) (by decide) (fun u H locs hu hP hD hS => ?_)
    obtain ⟨x38, x39, g40, g41⟩ := u
    have hr42 := hu
    have hP : va_P G vwCl ((uX10 cs adm qm Fm Am Bm Dm) ++ ((uX6 cs (qm 0) (fun _ => qm 1) (upd (upd (upd (upd (upd (upd Fmr 1 x8) 2 x9) 3 x10) 4 x11) 5 x12) 6 x13) Amr Bmr Dmr) ++ ((uX9 cs (qm 1) qmt (upd Fmt 1 (0 : Int32)) Amt Bmt Dmt) ++ ((uX3 cs (qm 2) qmd (upd (upd (upd (upd (upd (upd (upd Fmd 0 x1) 1 x2) 2 x3) 3 x4) 4 x5) 5 x6) 6 x7) (vA (vA (vA (vA (vA (vA (vA Amd 7 g14) 8 g15) 9 g16) 10 g17) 11 g18) 12 g19) 13 g20) Bmd Dmd) ++ ((uX8 cs (qm 3) qms (upd Fms 2 (0 : Int32)) Ams Bms Dms) ++ ((uX3 cs (qms 0) qmh (upd (upd (upd (upd (upd (upd (upd Fmh 0 x23) 1 x24) 2 x25) 3 x26) 4 x27) 5 x28) 6 x29) (vA (vA (vA (vA (vA (vA (vA Amh 7 g30) 8 g31) 9 g32) 10 g33) 11 g34) 12 g35) 13 g36) Bmh Dmh) ++ (uX5 cs (qm 6) qmn (upd (upd Fmn 2 x38) 3 x39) (vA (vA Amn 0 g40) 1 g41) Bmn Dmn))))))) H := hP.sub [11, 12, 13, 0, 1, 2, 3, 4, 5, 6, 7, 8, 9, 10, 14, 15, 16, 17, 18, 19, 20, 21, 22, 23, 24, 25, 26] rfl
    have hD : va_D A0 ((uX10 cs adm qm Fm Am Bm Dm) ++ ((uX6 cs (qm 0) (fun _ => qm 1) (upd (upd (upd (upd (upd (upd Fmr 1 x8) 2 x9) 3 x10) 4 x11) 5 x12) 6 x13) Amr Bmr Dmr) ++ ((uX9 cs (qm 1) qmt (upd Fmt 1 (0 : Int32)) Amt Bmt Dmt) ++ ((uX3 cs (qm 2) qmd (upd (upd (upd (upd (upd (upd (upd Fmd 0 x1) 1 x2) 2 x3) 3 x4) 4 x5) 5 x6) 6 x7) (vA (vA (vA (vA (vA (vA (vA Amd 7 g14) 8 g15) 9 g16) 10 g17) 11 g18) 12 g19) 13 g20) Bmd Dmd) ++ ((uX8 cs (qm 3) qms (upd Fms 2 (0 : Int32)) Ams Bms Dms) ++ ((uX3 cs (qms 0) qmh (upd (upd (upd (upd (upd (upd (upd Fmh 0 x23) 1 x24) 2 x25) 3 x26) 4 x27) 5 x28) 6 x29) (vA (vA (vA (vA (vA (vA (vA Amh 7 g30) 8 g31) 9 g32) 10 g33) 11 g34) 12 g35) 13 g36) Bmh Dmh) ++ (uX5 cs (qm 6) qmn (upd (upd Fmn 2 x38) 3 x39) (vA (vA Amn 0 g40) 1 g41) Bmn Dmn))))))) := hD.sub [11, 12, 13, 0, 1, 2, 3, 4, 5, 6, 7, 8, 9, 10, 14, 15, 16, 17, 18, 19, 20, 21, 22, 23, 24, 25, 26] (by decide) rfl
    refine lv_aload_n hx hb dX10_house_51 rfl (lv_at hl 0 rfl) ?_
    refine getF (v := .ref (qm 3)) hx hb ht hown hK hP iTX10 0 3 rfl rfl (by decide) fl_RX10_31 rfl dX10_house_52 ?_
    refine getF (v := .ref (qms 0)) hx hb ht hown hK hP iTX8 14 0 rfl rfl (by decide) fl_RX10_98 rfl dX10_house_55 ?_
    refine getF (v := .int x23) hx hb ht hown hK hP iTX3 16 0 rfl rfl (by decide) fl_RX10_111 rfl dX10_house_58 ?_
    exact retDi (x1, x2, x3, x4, x5, x6, x7, x23, x24, x25, x26, x27, x28, x29, x38, x39, x8, x9, x10, x11, x12, x13, (0 : Int32), (0 : Int32), g14, g15, g16, g17, g18, g19, g20, g30, g31, g32, g33, g34, g35, g36, g40, g41) hx hb hr hlk hP hD hS dX10_house_61 (⟨show (0 : Int) ≤ x6.toInt ∧ x6.toInt ≤ 7 by omega, show (0 : Int) ≤ x7.toInt ∧ x7.toInt ≤ 6 by omega, show (0 : Int) ≤ x28.toInt ∧ x28.toInt ≤ 7 by omega, show (0 : Int) ≤ x29.toInt ∧ x29.toInt ≤ 6 by omega, show (0 : Int) ≤ x8.toInt ∧ x8.toInt ≤ 900 by omega, show (0 : Int) ≤ x9.toInt ∧ x9.toInt ≤ 4 by omega, show (0 : Int) ≤ x10.toInt ∧ x10.toInt ≤ 900 by omega, show (0 : Int) ≤ (0 : Int32).toInt ∧ (0 : Int32).toInt ≤ 60 by decide, show (0 : Int) ≤ (0 : Int32).toInt ∧ (0 : Int32).toInt ≤ 900 by decide, hg17, hg19, hg33, hg35, trivial⟩) (Nat.le_of_ble_eq_true rfl) (Nat.le_of_ble_eq_true rfl)
  · have zc22 := eqK rfl (show (0 : Int32).toInt = 0 by decide) c22
    refine lv_bipush (v := (-4)) hx hb dX10_house_14 (by decide) ?_
    exact retDi (x1, x2, x3, x4, x5, x6, x7, (Fmh 0), (Fmh 1), (Fmh 2), (Fmh 3), (Fmh 4), (Fmh 5), (Fmh 6), (Fmn 2), (Fmn 3), x8, x9, x10, x11, x12, x13, (Fms 2), (Fmt 1), g14, g15, g16, g17, g18, g19, g20, (Amh 7), (Amh 8), (Amh 9), (Amh 10), (Amh 11), (Amh 12), (Amh 13), (Amn 0), (Amn 1)) hx hb hr hlk hP hD hS dX10_house_16 (⟨show (0 : Int) ≤ x6.toInt ∧ x6.toInt ≤ 7 by omega, show (0 : Int) ≤ x7.toInt ∧ x7.toInt ≤ 6 by omega, hImh.1 5, hImh.1 6, show (0 : Int) ≤ x8.toInt ∧ x8.toInt ≤ 900 by omega, show (0 : Int) ≤ x9.toInt ∧ x9.toInt ≤ 4 by omega, show (0 : Int) ≤ x10.toInt ∧ x10.toInt ≤ 900 by omega, hIms.1 2, hImt.1 1, hg17, hg19, fun j => hImh.2 10 j, fun j => hImh.2 12 j, trivial⟩) (Nat.le_of_ble_eq_true rfl) (Nat.le_of_ble_eq_true rfl)

set_option maxRecDepth 100000 in
set_option maxHeartbeats 16000000 in
theorem sX10_fault (l : Launch) (G : va_G) (cs : Nat → ClassId) (adm : Nat) (qm : Nat → Nat) (Fm : Nat → Int32) (Am : Nat → Nat → Int32) (Bm : Nat → Nat → Int64) (Dm : Int64) (hIm : IX10 Fm Am) (Fmr : Nat → Int32) (Amr : Nat → Nat → Int32) (Bmr : Nat → Nat → Int64) (Dmr : Int64) (hImr : IX6 Fmr Amr) (a1 : Int32) : ∀ sz : Nat, Met l yX10_fault (wk yX10_fault cX10_fault 2 (some .int)) (rmk 0 0 0) (PreP G (TY cs) [.ref adm, .int a1] ((uX10 cs adm qm Fm Am Bm Dm) ++ (uX6 cs (qm 0) (fun _ => qm 1) Fmr Amr Bmr Dmr)) sz) (QRi (fun r : Int32 => True) sz) 0 0 (fun q => sz ≤ q) := by
  refine mkP (Qc := QRi (fun r : Int32 => True)) (by decide) (by simp [lg_sl, Value.category]) ?_
  intro p e s m args below meth c ls hx hb hml hr hlk hown ht hK hP hS hl
  have hl : lv_has ls 2 [(0, .ref adm), (1, .int a1)] := hl
  refine lv_iload_n hx hb dX10_fault_0 rfl (lv_at hl 1 rfl) ?_
  rcases csN2 a1 with hN | hN | rfl | rfl
  · refine lv_lookup (off := 43) (tgt := 44) hx hb dX10_fault_1 (by decide) ((lv_osw (nK (b := (0 : Int32)) (by omega : ¬ a1.toInt = 0)) (by decide)).trans ((lv_osw (nK (b := (1 : Int32)) (by omega : ¬ a1.toInt = 1)) (by decide)).trans rfl)) (by decide) ?_
    refine lv_iconst (v := (-1)) hx hb dX10_fault_44 (by decide) ?_
    exact retRi hx hb hr hlk hS dX10_fault_45 (trivial)
  · refine lv_lookup (off := 43) (tgt := 44) hx hb dX10_fault_1 (by decide) ((lv_osw (nK (b := (0 : Int32)) (by omega : ¬ a1.toInt = 0)) (by decide)).trans ((lv_osw (nK (b := (1 : Int32)) (by omega : ¬ a1.toInt = 1)) (by decide)).trans rfl)) (by decide) ?_
    refine lv_iconst (v := (-1)) hx hb dX10_fault_44 (by decide) ?_
    exact retRi hx hb hr hlk hS dX10_fault_45 (trivial)
  · refine lv_lookup (off := 27) (tgt := 28) hx hb dX10_fault_1 (by decide) (by decide) (by decide) ?_
    refine lv_aload_n hx hb dX10_fault_28 rfl (lv_at hl 0 rfl) ?_
    refine getF (v := .ref (qm 0)) hx hb ht hown hK hP iTX10 0 0 rfl rfl (by decide) fl_RX10_10 rfl dX10_fault_29 ?_
    refine getF (v := .int (Fmr 5)) hx hb ht hown hK hP iTX6 3 5 rfl rfl (by decide) fl_RX10_114 rfl dX10_fault_32 ?_
    exact retRi hx hb hr hlk hS dX10_fault_35 (trivial)
  · refine lv_lookup (off := 35) (tgt := 36) hx hb dX10_fault_1 (by decide) (by decide) (by decide) ?_
    refine lv_aload_n hx hb dX10_fault_36 rfl (lv_at hl 0 rfl) ?_
    refine getF (v := .ref (qm 0)) hx hb ht hown hK hP iTX10 0 0 rfl rfl (by decide) fl_RX10_10 rfl dX10_fault_37 ?_
    refine getF (v := .int (Fmr 6)) hx hb ht hown hK hP iTX6 3 6 rfl rfl (by decide) fl_RX10_117 rfl dX10_fault_40 ?_
    exact retRi hx hb hr hlk hS dX10_fault_43 (trivial)

set_option maxRecDepth 100000 in
set_option maxHeartbeats 16000000 in
theorem sX10_room_0 (l : Launch) (G : va_G) (cs : Nat → ClassId) (adm : Nat) (qm : Nat → Nat) (Fm : Nat → Int32) (Am : Nat → Nat → Int32) (Bm : Nat → Nat → Int64) (Dm : Int64) (hIm : IX10 Fm Am) (qms : Nat → Nat) (Fms : Nat → Int32) (Ams : Nat → Nat → Int32) (Bms : Nat → Nat → Int64) (Dms : Int64) (hIms : IX8 Fms Ams) (qmh : Nat → Nat) (Fmh : Nat → Int32) (Amh : Nat → Nat → Int32) (Bmh : Nat → Nat → Int64) (Dmh : Int64) (hImh : IX3 Fmh Amh) (a1 : Int32) : ∀ sz : Nat, Met l yX10_room (wk yX10_room cX10_room 3 (some .int)) (rmk 2 0 0) (PreP G (TY cs) [.ref adm, .int a1, .int 0] ((uX10 cs adm qm Fm Am Bm Dm) ++ ((uX8 cs (qm 3) qms Fms Ams Bms Dms) ++ (uX3 cs (qms 0) qmh Fmh Amh Bmh Dmh))) sz) (QRi (fun r : Int32 => True) sz) 0 0 (fun q => sz ≤ q) := by
  refine mkP (Qc := QRi (fun r : Int32 => True)) (by decide) (by simp [lg_sl, Value.category]) ?_
  intro p e s m args below meth c ls hx hb hml hr hlk hown ht hK hP hS hl
  have hl : lv_has ls 3 [(0, .ref adm), (1, .int a1), (2, .int 0)] := hl
  refine lv_aload_n hx hb dX10_room_0 rfl (lv_at hl 0 rfl) ?_
  refine lv_iload_n hx hb dX10_room_1 rfl (lv_at hl 1 rfl) ?_
  refine behR (runVP (As := [.int a1]) (rest := []) ⟨hx, hb, hml, hown, ht⟩ (sX10_isRoom l G cs adm qm Fm Am Bm Dm hIm qms Fms Ams Bms Dms hIms qmh Fmh Amh Bmh Dmh hImh a1 ) okV_RX10_120 ⟨by decide, by decide⟩ hK hP [0, 1, 2, 3, 4, 5, 6, 7, 8, 9, 10, 11, 12] rfl 0 rfl rfl hl.1 rfl (Nat.le_of_ble_eq_true rfl) dX10_room_2 ⟨by decide, by decide⟩) hP hS (fun _ h => h) (fun r1 H locs hr1 hP hS => ?_)
  have hr1 : (r1.toInt = 1 ∧ 0 ≤ a1.toInt ∧ a1.toInt < (Fmh 5).toInt ∧ a1.toInt ≤ 6) ∨ r1.toInt = 0 := hr1
  refine lv_if_eq (tgt := 17) hx hb dX10_room_5 (by decide) (fun c2 => ?_) (fun c2 => ?_)
  · have zc2 := eqK rfl (show (0 : Int32).toInt = 0 by decide) c2
    refine lv_bipush (v := (-2)) hx hb dX10_room_17 (by decide) ?_
    exact retRi hx hb hr hlk hS dX10_room_19 (trivial)
  · have zc2 := neK rfl (show (0 : Int32).toInt = 0 by decide) c2
    refine lv_iload_n hx hb dX10_room_8 rfl (lv_at hl 2 rfl) ?_
    refine lv_if_lt (tgt := 17) hx hb dX10_room_9 (by decide) (fun c3 => False.elim (by revert c3; decide)) (fun c3 => ?_)
    refine lv_iload_n hx hb dX10_room_12 rfl (lv_at hl 2 rfl) ?_
    refine lv_iconst (v := 3) hx hb dX10_room_13 (by decide) ?_
    refine lv_icmp_le (tgt := 20) hx hb dX10_room_14 (by decide) (fun c4 => ?_) (fun c4 => False.elim (by revert c4; decide))
    refine lv_aload_n hx hb dX10_room_20 rfl (lv_at hl 0 rfl) ?_
    refine getF (v := .ref (qm 3)) hx hb ht hown hK hP iTX10 0 3 rfl rfl (by decide) fl_RX10_31 rfl dX10_room_21 ?_
    refine getF (v := .ref (qms 0)) hx hb ht hown hK hP iTX8 3 0 rfl rfl (by decide) fl_RX10_98 rfl dX10_room_24 ?_
    refine lv_iload_n hx hb dX10_room_27 rfl (lv_at hl 2 rfl) ?_
    refine behRr (runVP (As := [.int 0]) (rest := []) ⟨hx, hb, hml, hown, ht⟩ (sX3_column_0 l G cs (qms 0) qmh Fmh Amh Bmh Dmh hImh ) okV_RX10_124 ⟨by decide, by decide⟩ hK hP [5, 6, 7, 8, 9, 10, 11, 12] rfl 5 rfl rfl hl.1 rfl (Nat.le_of_ble_eq_true rfl) dX10_room_28 ⟨by decide, by decide⟩) hP hS (fun _ h => h) (fun H locs hP hS => ?_)
    refine lv_iload_n hx hb dX10_room_31 rfl (lv_at hl 1 rfl) ?_
    refine va_iald hx hb hK.1 hP 6 0 rfl rfl (inK rfl (by omega) (by decide)) dX10_room_32 ?_
    refine lv_topi (fun v5 ev5 => ?_)
    exact retRi hx hb hr hlk hS dX10_room_33 (trivial)

