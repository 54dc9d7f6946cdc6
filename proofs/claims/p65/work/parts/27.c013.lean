set_option maxRecDepth 100000 in
set_option maxHeartbeats 16000000 in
theorem sX6_readLine (l : Launch) (G : va_G) (cs : Nat → ClassId) (sd : Nat → Nat × Nat) (adt : Nat) (qt : Nat → Nat) (Ft : Nat → Int32) (At : Nat → Nat → Int32) (Bt : Nat → Nat → Int64) (Dt : Int64) (hIt : IX6 Ft At) (qtp : Nat → Nat) (Ftp : Nat → Int32) (Atp : Nat → Nat → Int32) (Btp : Nat → Nat → Int64) (Dtp : Int64) (hItp : IX9 Ftp Atp) (adh : Nat) (qh : Nat → Nat) (Fh : Nat → Int32) (Ah : Nat → Nat → Int32) (Bh : Nat → Nat → Int64) (Dh : Int64) (hIh : IX3 Fh Ah) : ∀ sz : Nat, Met l yX6_readLine (wk yX6_readLine cX6_readLine 4 (some .boolean)) (rmk 7 0 0) (PreDS SRR sd G (TY cs) [.ref adt, .ref adh] ((uX6 cs adt qt Ft At Bt Dt) ++ ((uX9 cs (qt 0) qtp Ftp Atp Btp Dtp) ++ (uX3 cs adh qh Fh Ah Bh Dh))) sz) ((QDi G (fun (r : Int32) (u : Int32 × Int32 × Int32 × Int32 × Int32 × Int32 × Int32 × Int32 × Int32 × Int32 × Int32 × Int32 × Int32 × (Nat → Int32) × (Nat → Int32) × (Nat → Int32) × (Nat → Int32) × (Nat → Int32) × (Nat → Int32) × (Nat → Int32)) => ((0 : Int) ≤ u.2.2.2.2.2.1.toInt ∧ u.2.2.2.2.2.1.toInt ≤ 7) ∧ ((0 : Int) ≤ u.2.2.2.2.2.2.1.toInt ∧ u.2.2.2.2.2.2.1.toInt ≤ 6) ∧ ((0 : Int) ≤ u.2.2.2.2.2.2.2.1.toInt ∧ u.2.2.2.2.2.2.2.1.toInt ≤ 900) ∧ ((0 : Int) ≤ u.2.2.2.2.2.2.2.2.1.toInt ∧ u.2.2.2.2.2.2.2.2.1.toInt ≤ 4) ∧ ((0 : Int) ≤ u.2.2.2.2.2.2.2.2.2.1.toInt ∧ u.2.2.2.2.2.2.2.2.2.1.toInt ≤ 900) ∧ AJ (0) 127 u.2.2.2.2.2.2.2.2.2.2.2.2.2.2.2.2.1 ∧ AJ (0) 63 u.2.2.2.2.2.2.2.2.2.2.2.2.2.2.2.2.2.2.1 ∧ ((0 : Int) ≤ r.toInt ∧ r.toInt ≤ 1)) (fun u : Int32 × Int32 × Int32 × Int32 × Int32 × Int32 × Int32 × Int32 × Int32 × Int32 × Int32 × Int32 × Int32 × (Nat → Int32) × (Nat → Int32) × (Nat → Int32) × (Nat → Int32) × (Nat → Int32) × (Nat → Int32) × (Nat → Int32) => ((wX6 cs adt qt (upd (upd (upd (upd (upd (upd Ft 1 u.2.2.2.2.2.2.2.1) 2 u.2.2.2.2.2.2.2.2.1) 3 u.2.2.2.2.2.2.2.2.2.1) 4 u.2.2.2.2.2.2.2.2.2.2.1) 5 u.2.2.2.2.2.2.2.2.2.2.2.1) 6 u.2.2.2.2.2.2.2.2.2.2.2.2.1) At Bt Dt) ++ ((uX9 cs (qt 0) qtp Ftp Atp Btp Dtp) ++ (wX3 cs adh qh (upd (upd (upd (upd (upd (upd (upd Fh 0 u.1) 1 u.2.1) 2 u.2.2.1) 3 u.2.2.2.1) 4 u.2.2.2.2.1) 5 u.2.2.2.2.2.1) 6 u.2.2.2.2.2.2.1) (vA (vA (vA (vA (vA (vA (vA Ah 7 u.2.2.2.2.2.2.2.2.2.2.2.2.2.1) 8 u.2.2.2.2.2.2.2.2.2.2.2.2.2.2.1) 9 u.2.2.2.2.2.2.2.2.2.2.2.2.2.2.2.1) 10 u.2.2.2.2.2.2.2.2.2.2.2.2.2.2.2.2.1) 11 u.2.2.2.2.2.2.2.2.2.2.2.2.2.2.2.2.2.1) 12 u.2.2.2.2.2.2.2.2.2.2.2.2.2.2.2.2.2.2.1) 13 u.2.2.2.2.2.2.2.2.2.2.2.2.2.2.2.2.2.2.2) Bh Dh))))) (va_A ((uX6 cs adt qt Ft At Bt Dt) ++ ((uX9 cs (qt 0) qtp Ftp Atp Btp Dtp) ++ (uX3 cs adh qh Fh Ah Bh Dh))) sz)) 0 0 (va_A ((uX6 cs adt qt Ft At Bt Dt) ++ ((uX9 cs (qt 0) qtp Ftp Atp Btp Dtp) ++ (uX3 cs adh qh Fh Ah Bh Dh))) sz) := by
  refine mkDS (Qc := (QDi G (fun (r : Int32) (u : Int32 × Int32 × Int32 × Int32 × Int32 × Int32 × Int32 × Int32 × Int32 × Int32 × Int32 × Int32 × Int32 × (Nat → Int32) × (Nat → Int32) × (Nat → Int32) × (Nat → Int32) × (Nat → Int32) × (Nat → Int32) × (Nat → Int32)) => ((0 : Int) ≤ u.2.2.2.2.2.1.toInt ∧ u.2.2.2.2.2.1.toInt ≤ 7) ∧ ((0 : Int) ≤ u.2.2.2.2.2.2.1.toInt ∧ u.2.2.2.2.2.2.1.toInt ≤ 6) ∧ ((0 : Int) ≤ u.2.2.2.2.2.2.2.1.toInt ∧ u.2.2.2.2.2.2.2.1.toInt ≤ 900) ∧ ((0 : Int) ≤ u.2.2.2.2.2.2.2.2.1.toInt ∧ u.2.2.2.2.2.2.2.2.1.toInt ≤ 4) ∧ ((0 : Int) ≤ u.2.2.2.2.2.2.2.2.2.1.toInt ∧ u.2.2.2.2.2.2.2.2.2.1.toInt ≤ 900) ∧ AJ (0) 127 u.2.2.2.2.2.2.2.2.2.2.2.2.2.2.2.2.1 ∧ AJ (0) 63 u.2.2.2.2.2.2.2.2.2.2.2.2.2.2.2.2.2.2.1 ∧ ((0 : Int) ≤ r.toInt ∧ r.toInt ≤ 1)) (fun u : Int32 × Int32 × Int32 × Int32 × Int32 × Int32 × Int32 × Int32 × Int32 × Int32 × Int32 × Int32 × Int32 × (Nat → Int32) × (Nat → Int32) × (Nat → Int32) × (Nat → Int32) × (Nat → Int32) × (Nat → Int32) × (Nat → Int32) => ((wX6 cs adt qt (upd (upd (upd (upd (upd (upd Ft 1 u.2.2.2.2.2.2.2.1) 2 u.2.2.2.2.2.2.2.2.1) 3 u.2.2.2.2.2.2.2.2.2.1) 4 u.2.2.2.2.2.2.2.2.2.2.1) 5 u.2.2.2.2.2.2.2.2.2.2.2.1) 6 u.2.2.2.2.2.2.2.2.2.2.2.2.1) At Bt Dt) ++ ((uX9 cs (qt 0) qtp Ftp Atp Btp Dtp) ++ (wX3 cs adh qh (upd (upd (upd (upd (upd (upd (upd Fh 0 u.1) 1 u.2.1) 2 u.2.2.1) 3 u.2.2.2.1) 4 u.2.2.2.2.1) 5 u.2.2.2.2.2.1) 6 u.2.2.2.2.2.2.1) (vA (vA (vA (vA (vA (vA (vA Ah 7 u.2.2.2.2.2.2.2.2.2.2.2.2.2.1) 8 u.2.2.2.2.2.2.2.2.2.2.2.2.2.2.1) 9 u.2.2.2.2.2.2.2.2.2.2.2.2.2.2.2.1) 10 u.2.2.2.2.2.2.2.2.2.2.2.2.2.2.2.2.1) 11 u.2.2.2.2.2.2.2.2.2.2.2.2.2.2.2.2.2.1) 12 u.2.2.2.2.2.2.2.2.2.2.2.2.2.2.2.2.2.2.1) 13 u.2.2.2.2.2.2.2.2.2.2.2.2.2.2.2.2.2.2.2) Bh Dh)))))) (by decide) (by simp [lg_sl, Value.category]) ?_
  intro p e s m args below meth c ls A0 hx hb hml hr hlk hown hmn ht hK hP hD hS hA hQ hl
  have hl : lv_has ls 4 [(0, .ref adt), (1, .ref adh)] := hl
  refine lv_aload_n hx hb dX6_readLine_0 rfl (lv_at hl 1 rfl) ?_
  refine getF (v := .int (Fh 0)) hx hb ht hown hK hP iTX3 3 0 rfl rfl (by decide) fl_RX6_43 rfl dX6_readLine_1 ?_
  have B12 : ∀ (s12_0 : Int32) (H : Heap) (locs : List Loc) (ls : Array Slot), (0 : Int) ≤ s12_0.toInt ∧ s12_0.toInt ≤ 1 → va_P G vwCl ((uX6 cs adt qt Ft At Bt Dt) ++ ((uX9 cs (qt 0) qtp Ftp Atp Btp Dtp) ++ (uX3 cs adh qh Fh Ah Bh Dh))) H → va_D A0 ((uX6 cs adt qt Ft At Bt Dt) ++ ((uX9 cs (qt 0) qtp Ftp Atp Btp Dtp) ++ (uX3 cs adh qh Fh Ah Bh Dh))) → va_S A0 s.heap H locs → lv_has ls 4 [(0, .ref adt), (1, .ref adh)] → W p l e (rmk 7 0 0) s m args below meth c H locs 0 0 (MQ below ((QDi G (fun (r : Int32) (u : Int32 × Int32 × Int32 × Int32 × Int32 × Int32 × Int32 × Int32 × Int32 × Int32 × Int32 × Int32 × Int32 × (Nat → Int32) × (Nat → Int32) × (Nat → Int32) × (Nat → Int32) × (Nat → Int32) × (Nat → Int32) × (Nat → Int32)) => ((0 : Int) ≤ u.2.2.2.2.2.1.toInt ∧ u.2.2.2.2.2.1.toInt ≤ 7) ∧ ((0 : Int) ≤ u.2.2.2.2.2.2.1.toInt ∧ u.2.2.2.2.2.2.1.toInt ≤ 6) ∧ ((0 : Int) ≤ u.2.2.2.2.2.2.2.1.toInt ∧ u.2.2.2.2.2.2.2.1.toInt ≤ 900) ∧ ((0 : Int) ≤ u.2.2.2.2.2.2.2.2.1.toInt ∧ u.2.2.2.2.2.2.2.2.1.toInt ≤ 4) ∧ ((0 : Int) ≤ u.2.2.2.2.2.2.2.2.2.1.toInt ∧ u.2.2.2.2.2.2.2.2.2.1.toInt ≤ 900) ∧ AJ (0) 127 u.2.2.2.2.2.2.2.2.2.2.2.2.2.2.2.2.1 ∧ AJ (0) 63 u.2.2.2.2.2.2.2.2.2.2.2.2.2.2.2.2.2.2.1 ∧ ((0 : Int) ≤ r.toInt ∧ r.toInt ≤ 1)) (fun u : Int32 × Int32 × Int32 × Int32 × Int32 × Int32 × Int32 × Int32 × Int32 × Int32 × Int32 × Int32 × Int32 × (Nat → Int32) × (Nat → Int32) × (Nat → Int32) × (Nat → Int32) × (Nat → Int32) × (Nat → Int32) × (Nat → Int32) => ((wX6 cs adt qt (upd (upd (upd (upd (upd (upd Ft 1 u.2.2.2.2.2.2.2.1) 2 u.2.2.2.2.2.2.2.2.1) 3 u.2.2.2.2.2.2.2.2.2.1) 4 u.2.2.2.2.2.2.2.2.2.2.1) 5 u.2.2.2.2.2.2.2.2.2.2.2.1) 6 u.2.2.2.2.2.2.2.2.2.2.2.2.1) At Bt Dt) ++ ((uX9 cs (qt 0) qtp Ftp Atp Btp Dtp) ++ (wX3 cs adh qh (upd (upd (upd (upd (upd (upd (upd Fh 0 u.1) 1 u.2.1) 2 u.2.2.1) 3 u.2.2.2.1) 4 u.2.2.2.2.1) 5 u.2.2.2.2.2.1) 6 u.2.2.2.2.2.2.1) (vA (vA (vA (vA (vA (vA (vA Ah 7 u.2.2.2.2.2.2.2.2.2.2.2.2.2.1) 8 u.2.2.2.2.2.2.2.2.2.2.2.2.2.2.1) 9 u.2.2.2.2.2.2.2.2.2.2.2.2.2.2.2.1) 10 u.2.2.2.2.2.2.2.2.2.2.2.2.2.2.2.2.1) 11 u.2.2.2.2.2.2.2.2.2.2.2.2.2.2.2.2.2.1) 12 u.2.2.2.2.2.2.2.2.2.2.2.2.2.2.2.2.2.2.1) 13 u.2.2.2.2.2.2.2.2.2.2.2.2.2.2.2.2.2.2.2) Bh Dh))))) A0) args s 0 0 A0) (F0 m 12 ls [.int s12_0]) := by
    intro s12_0 H locs ls hs12_0 hP hD hS hl
    refine lv_istore_n (lv' := [(2, .int s12_0), (0, .ref adt), (1, .ref adh)]) hx hb dX6_readLine_12 rfl hl (by decide) rfl (fun ls hl => ?_)
    refine lv_iload_n hx hb dX6_readLine_13 rfl (lv_at hl 0 rfl) ?_
    refine lv_aload_n hx hb dX6_readLine_14 rfl (lv_at hl 1 rfl) ?_
    have hz7001 : vk_R "CallForBrown$Reader" 46 "house" (sd 0).1 s := hQ.2.2.2 ("CallForBrown$Reader", 46, "house", 0) (List.mem_of_getElem? (i := 0) rfl)
    refine va_ldcS hx hb hown hz7001 dX6_readLine_15 ?_
    refine behR (runVPS (As := [.ref ((sd 0).1)]) (rest := [.int s12_0]) ⟨hx, hb, hml, hown, ht⟩ (sX6_isWord l G cs sd adt qt Ft At Bt Dt hIt qtp Ftp Atp Btp Dtp hItp 0 (by decide) ) okV_RX6_48 ⟨by decide, by decide⟩ hK hP hQ hS hA [0, 1, 2] rfl 0 rfl rfl hl.1 rfl (Nat.le_of_ble_eq_true rfl) dX6_readLine_17 ⟨by decide, by decide⟩) hP hS hA (fun r7002 H locs hr7002 hP hS => ?_)
    have hr7002 : (0 : Int) ≤ r7002.toInt ∧ r7002.toInt ≤ 1 := hr7002
    have B123 : ∀ (x123_3 : Int32) (fh1_123 : Int32) (fh2_123 : Int32) (fh3_123 : Int32) (fh4_123 : Int32) (fh5_123 : Int32) (fh6_123 : Int32) (ft1_123 : Int32) (ft2_123 : Int32) (ft3_123 : Int32) (ft4_123 : Int32) (ft5_123 : Int32) (ft6_123 : Int32) (ah7_123 : (Nat → Int32)) (ah8_123 : (Nat → Int32)) (ah9_123 : (Nat → Int32)) (ah10_123 : (Nat → Int32)) (ah11_123 : (Nat → Int32)) (ah12_123 : (Nat → Int32)) (ah13_123 : (Nat → Int32)) (H : Heap) (locs : List Loc) (ls : Array Slot), (0 : Int) ≤ x123_3.toInt ∧ x123_3.toInt ≤ 1 → (0 : Int) ≤ fh5_123.toInt ∧ fh5_123.toInt ≤ 7 → (0 : Int) ≤ fh6_123.toInt ∧ fh6_123.toInt ≤ 6 → (0 : Int) ≤ ft1_123.toInt ∧ ft1_123.toInt ≤ 900 → (0 : Int) ≤ ft2_123.toInt ∧ ft2_123.toInt ≤ 4 → (0 : Int) ≤ ft3_123.toInt ∧ ft3_123.toInt ≤ 900 → AJ (0) 127 ah10_123 → AJ (0) 63 ah12_123 → va_P G vwCl ((uX6 cs adt qt (upv 6 ft6_123 (upv 5 ft5_123 (upv 4 ft4_123 (upv 3 ft3_123 (upv 2 ft2_123 (upv 1 ft1_123 Ft)))))) At Bt Dt) ++ ((uX9 cs (qt 0) qtp Ftp Atp Btp Dtp) ++ (uX3 cs adh qh (upv 6 fh6_123 (upv 5 fh5_123 (upv 4 fh4_123 (upv 3 fh3_123 (upv 2 fh2_123 (upv 1 fh1_123 Fh)))))) (vB 13 ah13_123 (vB 12 ah12_123 (vB 11 ah11_123 (vB 10 ah10_123 (vB 9 ah9_123 (vB 8 ah8_123 (vB 7 ah7_123 Ah))))))) Bh Dh))) H → va_D A0 ((uX6 cs adt qt (upv 6 ft6_123 (upv 5 ft5_123 (upv 4 ft4_123 (upv 3 ft3_123 (upv 2 ft2_123 (upv 1 ft1_123 Ft)))))) At Bt Dt) ++ ((uX9 cs (qt 0) qtp Ftp Atp Btp Dtp) ++ (uX3 cs adh qh (upv 6 fh6_123 (upv 5 fh5_123 (upv 4 fh4_123 (upv 3 fh3_123 (upv 2 fh2_123 (upv 1 fh1_123 Fh)))))) (vB 13 ah13_123 (vB 12 ah12_123 (vB 11 ah11_123 (vB 10 ah10_123 (vB 9 ah9_123 (vB 8 ah8_123 (vB 7 ah7_123 Ah))))))) Bh Dh))) → va_S A0 s.heap H locs → lv_has ls 4 [(0, .ref adt), (1, .ref adh), (3, .int x123_3)] → W p l e (rmk 7 0 0) s m args below meth c H locs 0 0 (MQ below ((QDi G (fun (r : Int32) (u : Int32 × Int32 × Int32 × Int32 × Int32 × Int32 × Int32 × Int32 × Int32 × Int32 × Int32 × Int32 × Int32 × (Nat → Int32) × (Nat → Int32) × (Nat → Int32) × (Nat → Int32) × (Nat → Int32) × (Nat → Int32) × (Nat → Int32)) => ((0 : Int) ≤ u.2.2.2.2.2.1.toInt ∧ u.2.2.2.2.2.1.toInt ≤ 7) ∧ ((0 : Int) ≤ u.2.2.2.2.2.2.1.toInt ∧ u.2.2.2.2.2.2.1.toInt ≤ 6) ∧ ((0 : Int) ≤ u.2.2.2.2.2.2.2.1.toInt ∧ u.2.2.2.2.2.2.2.1.toInt ≤ 900) ∧ ((0 : Int) ≤ u.2.2.2.2.2.2.2.2.1.toInt ∧ u.2.2.2.2.2.2.2.2.1.toInt ≤ 4) ∧ ((0 : Int) ≤ u.2.2.2.2.2.2.2.2.2.1.toInt ∧ u.2.2.2.2.2.2.2.2.2.1.toInt ≤ 900) ∧ AJ (0) 127 u.2.2.2.2.2.2.2.2.2.2.2.2.2.2.2.2.1 ∧ AJ (0) 63 u.2.2.2.2.2.2.2.2.2.2.2.2.2.2.2.2.2.2.1 ∧ ((0 : Int) ≤ r.toInt ∧ r.toInt ≤ 1)) (fun u : Int32 × Int32 × Int32 × Int32 × Int32 × Int32 × Int32 × Int32 × Int32 × Int32 × Int32 × Int32 × Int32 × (Nat → Int32) × (Nat → Int32) × (Nat → Int32) × (Nat → Int32) × (Nat → Int32) × (Nat → Int32) × (Nat → Int32) => ((wX6 cs adt qt (upd (upd (upd (upd (upd (upd Ft 1 u.2.2.2.2.2.2.2.1) 2 u.2.2.2.2.2.2.2.2.1) 3 u.2.2.2.2.2.2.2.2.2.1) 4 u.2.2.2.2.2.2.2.2.2.2.1) 5 u.2.2.2.2.2.2.2.2.2.2.2.1) 6 u.2.2.2.2.2.2.2.2.2.2.2.2.1) At Bt Dt) ++ ((uX9 cs (qt 0) qtp Ftp Atp Btp Dtp) ++ (wX3 cs adh qh (upd (upd (upd (upd (upd (upd (upd Fh 0 u.1) 1 u.2.1) 2 u.2.2.1) 3 u.2.2.2.1) 4 u.2.2.2.2.1) 5 u.2.2.2.2.2.1) 6 u.2.2.2.2.2.2.1) (vA (vA (vA (vA (vA (vA (vA Ah 7 u.2.2.2.2.2.2.2.2.2.2.2.2.2.1) 8 u.2.2.2.2.2.2.2.2.2.2.2.2.2.2.1) 9 u.2.2.2.2.2.2.2.2.2.2.2.2.2.2.2.1) 10 u.2.2.2.2.2.2.2.2.2.2.2.2.2.2.2.2.1) 11 u.2.2.2.2.2.2.2.2.2.2.2.2.2.2.2.2.2.1) 12 u.2.2.2.2.2.2.2.2.2.2.2.2.2.2.2.2.2.2.1) 13 u.2.2.2.2.2.2.2.2.2.2.2.2.2.2.2.2.2.2.2) Bh Dh))))) A0) args s 0 0 A0) (F0 m 123 ls []) := by
      intro x123_3 fh1_123 fh2_123 fh3_123 fh4_123 fh5_123 fh6_123 ft1_123 ft2_123 ft3_123 ft4_123 ft5_123 ft6_123 ah7_123 ah8_123 ah9_123 ah10_123 ah11_123 ah12_123 ah13_123 H locs ls hx123_3 hfh5_123 hfh6_123 hft1_123 hft2_123 hft3_123 hah10_123 hah12_123 hP hD hS hl
      refine lv_iload_n hx hb dX6_readLine_123 rfl (lv_at hl 2 rfl) ?_
      refine lv_if_eq (tgt := 134) hx hb dX6_readLine_124 (by decide) (fun c65001 => ?_) (fun c65001 => ?_)
      · have zc65001 := eqK rfl (show (0 : Int32).toInt = 0 by decide) c65001
        refine lv_iconst (v := 0) hx hb dX6_readLine_134 (by decide) ?_
        exact retDz ((Fh 0), fh1_123, fh2_123, fh3_123, fh4_123, fh5_123, fh6_123, ft1_123, ft2_123, ft3_123, ft4_123, ft5_123, ft6_123, ah7_123, ah8_123, ah9_123, ah10_123, ah11_123, ah12_123, ah13_123) hx hb hr hlk hP hD hS dX6_readLine_135 (rfl) (⟨show (0 : Int) ≤ fh5_123.toInt ∧ fh5_123.toInt ≤ 7 by omega, show (0 : Int) ≤ fh6_123.toInt ∧ fh6_123.toInt ≤ 6 by omega, show (0 : Int) ≤ ft1_123.toInt ∧ ft1_123.toInt ≤ 900 by omega, show (0 : Int) ≤ ft2_123.toInt ∧ ft2_123.toInt ≤ 4 by omega, show (0 : Int) ≤ ft3_123.toInt ∧ ft3_123.toInt ≤ 900 by omega, hah10_123, hah12_123, show (0 : Int) ≤ (0 : Int32).toInt ∧ (0 : Int32).toInt ≤ 1 by have kk : (0 : Int32).toInt = 0 := (by decide); omega⟩) (Nat.le_of_ble_eq_true rfl) (Nat.le_of_ble_eq_true rfl)
      · have zc65001 := neK rfl (show (0 : Int32).toInt = 0 by decide) c65001
        refine lv_aload_n hx hb dX6_readLine_127 rfl (lv_at hl 0 rfl) ?_
        refine behDi (wr := (uX3 cs adh qh (upv 6 fh6_123 (upv 5 fh5_123 (upv 4 fh4_123 (upv 3 fh3_123 (upv 2 fh2_123 (upv 1 fh1_123 Fh)))))) (vB 13 ah13_123 (vB 12 ah12_123 (vB 11 ah11_123 (vB 10 ah10_123 (vB 9 ah9_123 (vB 8 ah8_123 (vB 7 ah7_123 Ah))))))) Bh Dh)) (runVD (As := []) (rest := []) ⟨hx, hb, hml, hown, ht⟩ (sX6_takeSign l G cs adt qt (upv 6 ft6_123 (upv 5 ft5_123 (upv 4 ft4_123 (upv 3 ft3_123 (upv 2 ft2_123 (upv 1 ft1_123 Ft)))))) At Bt Dt (IB_pv (k := 6) (IB_pv (k := 5) (IB_pv (k := 4) (IB_pv (k := 3) (IB_pv (k := 2) (IB_pv (k := 1) hIt (show (0 : Int) ≤ ft1_123.toInt ∧ ft1_123.toInt ≤ 900 by omega)) (show (0 : Int) ≤ ft2_123.toInt ∧ ft2_123.toInt ≤ 4 by omega)) (show (0 : Int) ≤ ft3_123.toInt ∧ ft3_123.toInt ≤ 900 by omega)) (i32b _)) (i32b _)) (i32b _)) qtp Ftp Atp Btp Dtp hItp ) okV_RX6_79 ⟨by decide, by decide⟩ hK hP hD [0, 1, 2] rfl (by decide) rfl 0 rfl rfl hl.1 rfl (Nat.le_of_ble_eq_true rfl) dX6_readLine_128 ⟨(Nat.le_of_ble_eq_true rfl), (Nat.le_of_ble_eq_true rfl)⟩) hP hD hS hA [0, 1, 2] [3, 4, 5, 6, 7, 8, 9, 10] rfl rfl (by decide) (by decide) (fun r9 u H locs hu hP hD hS => ?_)
        obtain ⟨x65002, x65003, x65004, x65005, x65006, x65007⟩ := u
        obtain ⟨r65008, rfl⟩ : ∃ z, z = r9 := ⟨_, rfl⟩
        obtain ⟨hbx65002, hbx65003, hbx65004, hr65008⟩ := hu
        have hbx65002 : (0 : Int) ≤ x65002.toInt ∧ x65002.toInt ≤ 900 := hbx65002
        have hbx65003 : (0 : Int) ≤ x65003.toInt ∧ x65003.toInt ≤ 4 := hbx65003
        have hbx65004 : (0 : Int) ≤ x65004.toInt ∧ x65004.toInt ≤ 900 := hbx65004
        have hr65008 : (0 : Int) ≤ r65008.toInt ∧ r65008.toInt ≤ 1 := hr65008
        have hP : va_P G vwCl ((uX6 cs adt qt (upv 6 x65007 (upv 5 x65006 (upv 4 x65005 (upv 3 x65004 (upv 2 x65003 (upv 1 x65002 Ft)))))) At Bt Dt) ++ ((uX9 cs (qt 0) qtp Ftp Atp Btp Dtp) ++ (uX3 cs adh qh (upv 6 fh6_123 (upv 5 fh5_123 (upv 4 fh4_123 (upv 3 fh3_123 (upv 2 fh2_123 (upv 1 fh1_123 Fh)))))) (vB 13 ah13_123 (vB 12 ah12_123 (vB 11 ah11_123 (vB 10 ah10_123 (vB 9 ah9_123 (vB 8 ah8_123 (vB 7 ah7_123 Ah))))))) Bh Dh))) H := hP.sub [8, 9, 10, 0, 1, 2, 3, 4, 5, 6, 7] rfl
        have hD : va_D A0 ((uX6 cs adt qt (upv 6 x65007 (upv 5 x65006 (upv 4 x65005 (upv 3 x65004 (upv 2 x65003 (upv 1 x65002 Ft)))))) At Bt Dt) ++ ((uX9 cs (qt 0) qtp Ftp Atp Btp Dtp) ++ (uX3 cs adh qh (upv 6 fh6_123 (upv 5 fh5_123 (upv 4 fh4_123 (upv 3 fh3_123 (upv 2 fh2_123 (upv 1 fh1_123 Fh)))))) (vB 13 ah13_123 (vB 12 ah12_123 (vB 11 ah11_123 (vB 10 ah10_123 (vB 9 ah9_123 (vB 8 ah8_123 (vB 7 ah7_123 Ah))))))) Bh Dh))) := hD.sub [8, 9, 10, 0, 1, 2, 3, 4, 5, 6, 7] (by decide) rfl
        refine lv_if_ne (tgt := 136) hx hb dX6_readLine_131 (by decide) (fun c65009 => ?_) (fun c65009 => ?_)
        · have zc65009 := neK rfl (show (0 : Int32).toInt = 0 by decide) c65009
          refine lv_aload_n hx hb dX6_readLine_136 rfl (lv_at hl 1 rfl) ?_
          refine lv_dup hx hb dX6_readLine_137 rfl ?_
          refine getF (v := .int (Fh 0)) hx hb ht hown hK hP iTX3 3 0 rfl rfl (by decide) fl_RX6_43 rfl dX6_readLine_138 ?_
          refine lv_iconst (v := 1) hx hb dX6_readLine_141 (by decide) ?_
          refine lv_iadd hx hb dX6_readLine_142 ?_
          refine lv_topi (fun v65010 ev65010 => ?_)
          refine putD hx hb ht hown hK hP hD hS iTX3 tyX3 tyX3_ok nmX3 3 0 rfl rfl (by decide) fl_RX6_43 rfl rfl rfl (Nat.le_of_ble_eq_true rfl) dX6_readLine_143 (fun H locs hP hD hS => ?_)
          have hP : va_P G vwCl ((uX6 cs adt qt (upv 6 x65007 (upv 5 x65006 (upv 4 x65005 (upv 3 x65004 (upv 2 x65003 (upv 1 x65002 Ft)))))) At Bt Dt) ++ ((uX9 cs (qt 0) qtp Ftp Atp Btp Dtp) ++ (uX3 cs adh qh (upv 6 fh6_123 (upv 5 fh5_123 (upv 4 fh4_123 (upv 3 fh3_123 (upv 2 fh2_123 (upv 1 fh1_123 (upv 0 v65010 Fh))))))) (vB 13 ah13_123 (vB 12 ah12_123 (vB 11 ah11_123 (vB 10 ah10_123 (vB 9 ah9_123 (vB 8 ah8_123 (vB 7 ah7_123 Ah))))))) Bh Dh))) H := hP
          have hD : va_D A0 ((uX6 cs adt qt (upv 6 x65007 (upv 5 x65006 (upv 4 x65005 (upv 3 x65004 (upv 2 x65003 (upv 1 x65002 Ft)))))) At Bt Dt) ++ ((uX9 cs (qt 0) qtp Ftp Atp Btp Dtp) ++ (uX3 cs adh qh (upv 6 fh6_123 (upv 5 fh5_123 (upv 4 fh4_123 (upv 3 fh3_123 (upv 2 fh2_123 (upv 1 fh1_123 (upv 0 v65010 Fh))))))) (vB 13 ah13_123 (vB 12 ah12_123 (vB 11 ah11_123 (vB 10 ah10_123 (vB 9 ah9_123 (vB 8 ah8_123 (vB 7 ah7_123 Ah))))))) Bh Dh))) := hD
          refine lv_iconst (v := 1) hx hb dX6_readLine_146 (by decide) ?_
          exact retDz (v65010, fh1_123, fh2_123, fh3_123, fh4_123, fh5_123, fh6_123, x65002, x65003, x65004, x65005, x65006, x65007, ah7_123, ah8_123, ah9_123, ah10_123, ah11_123, ah12_123, ah13_123) hx hb hr hlk hP hD hS dX6_readLine_147 (rfl) (⟨show (0 : Int) ≤ fh5_123.toInt ∧ fh5_123.toInt ≤ 7 by omega, show (0 : Int) ≤ fh6_123.toInt ∧ fh6_123.toInt ≤ 6 by omega, show (0 : Int) ≤ x65002.toInt ∧ x65002.toInt ≤ 900 by omega, show (0 : Int) ≤ x65003.toInt ∧ x65003.toInt ≤ 4 by omega, show (0 : Int) ≤ x65004.toInt ∧ x65004.toInt ≤ 900 by omega, hah10_123, hah12_123, show (0 : Int) ≤ (1 : Int32).toInt ∧ (1 : Int32).toInt ≤ 1 by have kk : (1 : Int32).toInt = 1 := (by decide); omega⟩) (Nat.le_of_ble_eq_true rfl) (Nat.le_of_ble_eq_true rfl)
        · have zc65009 := eqK rfl (show (0 : Int32).toInt = 0 by decide) c65009
          refine lv_iconst (v := 0) hx hb dX6_readLine_134 (by decide) ?_
          exact retDz ((Fh 0), fh1_123, fh2_123, fh3_123, fh4_123, fh5_123, fh6_123, x65002, x65003, x65004, x65005, x65006, x65007, ah7_123, ah8_123, ah9_123, ah10_123, ah11_123, ah12_123, ah13_123) hx hb hr hlk hP hD hS dX6_readLine_135 (rfl) (⟨show (0 : Int) ≤ fh5_123.toInt ∧ fh5_123.toInt ≤ 7 by omega, show (0 : Int) ≤ fh6_123.toInt ∧ fh6_123.toInt ≤ 6 by omega, show (0 : Int) ≤ x65002.toInt ∧ x65002.toInt ≤ 900 by omega, show (0 : Int) ≤ x65003.toInt ∧ x65003.toInt ≤ 4 by omega, show (0 : Int) ≤ x65004.toInt ∧ x65004.toInt ≤ 900 by omega, hah10_123, hah12_123, show (0 : Int) ≤ (0 : Int32).toInt ∧ (0 : Int32).toInt ≤ 1 by have kk : (0 : Int32).toInt = 0 := (by decide); omega⟩) (Nat.le_of_ble_eq_true rfl) (Nat.le_of_ble_eq_true rfl)
    refine lv_icmp_eq (tgt := 32) hx hb dX6_readLine_20 (by decide) (fun c7003 => ?_) (fun c7003 => ?_)
    · have zc7003 := eqK rfl rfl c7003
      refine lv_iload_n hx hb dX6_readLine_32 rfl (lv_at hl 0 rfl) ?_
      refine lv_if_eq (tgt := 45) hx hb dX6_readLine_33 (by decide) (fun c7004 => ?_) (fun c7004 => ?_)
      · have zc7004 := eqK rfl (show (0 : Int32).toInt = 0 by decide) c7004
        refine lv_aload_n hx hb dX6_readLine_45 rfl (lv_at hl 1 rfl) ?_
        have hz7005 : vk_R "CallForBrown$Reader" 59 "room" (sd 5).1 s := hQ.2.2.2 ("CallForBrown$Reader", 59, "room", 5) (List.mem_of_getElem? (i := 5) rfl)
        refine va_ldcS hx hb hown hz7005 dX6_readLine_46 ?_
        refine behR (runVPS (As := [.ref ((sd 5).1)]) (rest := []) ⟨hx, hb, hml, hown, ht⟩ (sX6_isWord l G cs sd adt qt Ft At Bt Dt hIt qtp Ftp Atp Btp Dtp hItp 5 (by decide) ) okV_RX6_48 ⟨by decide, by decide⟩ hK hP hQ hS hA [0, 1, 2] rfl 0 rfl rfl hl.1 rfl (Nat.le_of_ble_eq_true rfl) dX6_readLine_48 ⟨by decide, by decide⟩) hP hS hA (fun r7006 H locs hr7006 hP hS => ?_)
        have hr7006 : (0 : Int) ≤ r7006.toInt ∧ r7006.toInt ≤ 1 := hr7006
        refine lv_if_eq (tgt := 63) hx hb dX6_readLine_51 (by decide) (fun c7007 => ?_) (fun c7007 => ?_)
        · have zc7007 := eqK rfl (show (0 : Int32).toInt = 0 by decide) c7007
          refine lv_aload_n hx hb dX6_readLine_63 rfl (lv_at hl 1 rfl) ?_
          have hz7008 : vk_R "CallForBrown$Reader" 64 "door" (sd 9).1 s := hQ.2.2.2 ("CallForBrown$Reader", 64, "door", 9) (List.mem_of_getElem? (i := 9) rfl)
          refine va_ldcS hx hb hown hz7008 dX6_readLine_64 ?_
          refine behR (runVPS (As := [.ref ((sd 9).1)]) (rest := []) ⟨hx, hb, hml, hown, ht⟩ (sX6_isWord l G cs sd adt qt Ft At Bt Dt hIt qtp Ftp Atp Btp Dtp hItp 9 (by decide) ) okV_RX6_48 ⟨by decide, by decide⟩ hK hP hQ hS hA [0, 1, 2] rfl 0 rfl rfl hl.1 rfl (Nat.le_of_ble_eq_true rfl) dX6_readLine_66 ⟨by decide, by decide⟩) hP hS hA (fun r7009 H locs hr7009 hP hS => ?_)
          have hr7009 : (0 : Int) ≤ r7009.toInt ∧ r7009.toInt ≤ 1 := hr7009
          refine lv_if_eq (tgt := 81) hx hb dX6_readLine_69 (by decide) (fun c7010 => ?_) (fun c7010 => ?_)
          · have zc7010 := eqK rfl (show (0 : Int32).toInt = 0 by decide) c7010
            refine lv_aload_n hx hb dX6_readLine_81 rfl (lv_at hl 1 rfl) ?_
            have hz7011 : vk_R "CallForBrown$Reader" 69 "man" (sd 10).1 s := hQ.2.2.2 ("CallForBrown$Reader", 69, "man", 10) (List.mem_of_getElem? (i := 10) rfl)
            refine va_ldcS hx hb hown hz7011 dX6_readLine_82 ?_
            refine behR (runVPS (As := [.ref ((sd 10).1)]) (rest := []) ⟨hx, hb, hml, hown, ht⟩ (sX6_isWord l G cs sd adt qt Ft At Bt Dt hIt qtp Ftp Atp Btp Dtp hItp 10 (by decide) ) okV_RX6_48 ⟨by decide, by decide⟩ hK hP hQ hS hA [0, 1, 2] rfl 0 rfl rfl hl.1 rfl (Nat.le_of_ble_eq_true rfl) dX6_readLine_84 ⟨by decide, by decide⟩) hP hS hA (fun r7012 H locs hr7012 hP hS => ?_)
            have hr7012 : (0 : Int) ≤ r7012.toInt ∧ r7012.toInt ≤ 1 := hr7012
            refine lv_if_eq (tgt := 99) hx hb dX6_readLine_87 (by decide) (fun c7013 => ?_) (fun c7013 => ?_)
            · have zc7013 := eqK rfl (show (0 : Int32).toInt = 0 by decide) c7013
              refine lv_aload_n hx hb dX6_readLine_99 rfl (lv_at hl 1 rfl) ?_
              have hz7014 : vk_R "CallForBrown$Reader" 74 "slate" (sd 13).1 s := hQ.2.2.2 ("CallForBrown$Reader", 74, "slate", 13) (List.mem_of_getElem? (i := 13) rfl)
              refine va_ldcS hx hb hown hz7014 dX6_readLine_100 ?_
              refine behR (runVPS (As := [.ref ((sd 13).1)]) (rest := []) ⟨hx, hb, hml, hown, ht⟩ (sX6_isWord l G cs sd adt qt Ft At Bt Dt hIt qtp Ftp Atp Btp Dtp hItp 13 (by decide) ) okV_RX6_48 ⟨by decide, by decide⟩ hK hP hQ hS hA [0, 1, 2] rfl 0 rfl rfl hl.1 rfl (Nat.le_of_ble_eq_true rfl) dX6_readLine_102 ⟨by decide, by decide⟩) hP hS hA (fun r7015 H locs hr7015 hP hS => ?_)
              have hr7015 : (0 : Int) ≤ r7015.toInt ∧ r7015.toInt ≤ 1 := hr7015
              refine lv_if_eq (tgt := 117) hx hb dX6_readLine_105 (by decide) (fun c7016 => ?_) (fun c7016 => ?_)
              · have zc7016 := eqK rfl (show (0 : Int32).toInt = 0 by decide) c7016
                refine lv_aload_n hx hb dX6_readLine_117 rfl (lv_at hl 1 rfl) ?_
                refine lv_iconst (v := 1) hx hb dX6_readLine_118 (by decide) ?_
                refine behDi (wr := (uX3 cs adh qh Fh Ah Bh Dh)) (runVD (As := [.int 1]) (rest := []) ⟨hx, hb, hml, hown, ht⟩ (sX6_fail l G cs adt qt Ft At Bt Dt hIt qtp Ftp Atp Btp Dtp hItp 1 ) okV_RX6_52 ⟨by decide, by decide⟩ hK hP hD [0, 1, 2] rfl (by decide) rfl 0 rfl rfl hl.1 rfl (Nat.le_of_ble_eq_true rfl) dX6_readLine_119 ⟨(Nat.le_of_ble_eq_true rfl), (Nat.le_of_ble_eq_true rfl)⟩) hP hD hS hA [0, 1, 2] [3, 4, 5, 6, 7, 8, 9, 10] rfl rfl (by decide) (by decide) (fun r9 u H locs hu hP hD hS => ?_)
                obtain ⟨x7017, x7018⟩ := u
                have kk7020 : (1 : Int32).toInt = 1 := by decide
                obtain ⟨r7019, rfl⟩ : ∃ z, z = r9 := ⟨_, rfl⟩
                have hr7019 := hu
                have hr7019 : r7019.toInt = 0 := hr7019
                have hP : va_P G vwCl ((uX6 cs adt qt (upv 6 x7018 (upv 5 x7017 Ft)) At Bt Dt) ++ ((uX9 cs (qt 0) qtp Ftp Atp Btp Dtp) ++ (uX3 cs adh qh Fh Ah Bh Dh))) H := hP.sub [8, 9, 10, 0, 1, 2, 3, 4, 5, 6, 7] rfl
                have hD : va_D A0 ((uX6 cs adt qt (upv 6 x7018 (upv 5 x7017 Ft)) At Bt Dt) ++ ((uX9 cs (qt 0) qtp Ftp Atp Btp Dtp) ++ (uX3 cs adh qh Fh Ah Bh Dh))) := hD.sub [8, 9, 10, 0, 1, 2, 3, 4, 5, 6, 7] (by decide) rfl
                refine lv_istore_n (lv' := [(3, .int r7019), (2, .int s12_0), (0, .ref adt), (1, .ref adh)]) hx hb dX6_readLine_122 rfl hl (by decide) rfl (fun ls hl => ?_)
                exact B123 r7019 (Fh 1) (Fh 2) (Fh 3) (Fh 4) (Fh 5) (Fh 6) (Ft 1) (Ft 2) (Ft 3) (Ft 4) x7017 x7018 (Ah 7) (Ah 8) (Ah 9) (Ah 10) (Ah 11) (Ah 12) (Ah 13) H locs ls (by omega) (hIh.1 5) (hIh.1 6) (hIt.1 1) (hIt.1 2) (hIt.1 3) (fun j => hIh.2 10 j) (fun j => hIh.2 12 j) hP hD hS (lv_sub hl [2, 3, 0] rfl)
              · have zc7016 := neK rfl (show (0 : Int32).toInt = 0 by decide) c7016
                refine lv_aload_n hx hb dX6_readLine_108 rfl (lv_at hl 1 rfl) ?_
                refine lv_aload_n hx hb dX6_readLine_109 rfl (lv_at hl 2 rfl) ?_
                refine behDi (wr := ([] : va_W)) (runVDS (As := [.ref adh]) (rest := []) ⟨hx, hb, hml, hown, ht⟩ (sX6_readSlate l G cs sd adt qt Ft At Bt Dt hIt qtp Ftp Atp Btp Dtp hItp adh qh Fh Ah Bh Dh hIh ) okV_RX6_76 ⟨by decide, by decide⟩ hK hP hD hQ hS hA [0, 1, 2, 3, 4, 5, 6, 7, 8, 9, 10] rfl (by decide) rfl 0 rfl rfl hl.1 rfl (Nat.le_of_ble_eq_true rfl) dX6_readLine_110 ⟨(Nat.le_of_ble_eq_true rfl), (Nat.le_of_ble_eq_true rfl)⟩) hP hD hS hA [0, 1, 2, 3, 4, 5, 6, 7, 8, 9, 10] [] rfl rfl (by decide) (by decide) (fun r9 u H locs hu hP hD hS => ?_)
                obtain ⟨x7021, x7022, x7023, x7024, x7025, x7026, g7027⟩ := u
                obtain ⟨r7028, rfl⟩ : ∃ z, z = r9 := ⟨_, rfl⟩
                obtain ⟨hbx7021, hbx7022, hbx7023, hr7028⟩ := hu
                have hbx7021 : (0 : Int) ≤ x7021.toInt ∧ x7021.toInt ≤ 900 := hbx7021
                have hbx7022 : (0 : Int) ≤ x7022.toInt ∧ x7022.toInt ≤ 4 := hbx7022
                have hbx7023 : (0 : Int) ≤ x7023.toInt ∧ x7023.toInt ≤ 900 := hbx7023
                have hr7028 : (0 : Int) ≤ r7028.toInt ∧ r7028.toInt ≤ 1 := hr7028
                have hP : va_P G vwCl ((uX6 cs adt qt (upv 6 x7026 (upv 5 x7025 (upv 4 x7024 (upv 3 x7023 (upv 2 x7022 (upv 1 x7021 Ft)))))) At Bt Dt) ++ ((uX9 cs (qt 0) qtp Ftp Atp Btp Dtp) ++ (uX3 cs adh qh Fh (vB 13 g7027 Ah) Bh Dh))) H := hP.sub [0, 1, 2, 3, 4, 5, 6, 7, 8, 9, 10] rfl
                have hD : va_D A0 ((uX6 cs adt qt (upv 6 x7026 (upv 5 x7025 (upv 4 x7024 (upv 3 x7023 (upv 2 x7022 (upv 1 x7021 Ft)))))) At Bt Dt) ++ ((uX9 cs (qt 0) qtp Ftp Atp Btp Dtp) ++ (uX3 cs adh qh Fh (vB 13 g7027 Ah) Bh Dh))) := hD.sub [0, 1, 2, 3, 4, 5, 6, 7, 8, 9, 10] (by decide) rfl
                refine lv_istore_n (lv' := [(3, .int r7028), (2, .int s12_0), (0, .ref adt), (1, .ref adh)]) hx hb dX6_readLine_113 rfl hl (by decide) rfl (fun ls hl => ?_)
                refine lv_goto (tgt := 123) hx hb dX6_readLine_114 (by decide) ?_
                exact B123 r7028 (Fh 1) (Fh 2) (Fh 3) (Fh 4) (Fh 5) (Fh 6) x7021 x7022 x7023 x7024 x7025 x7026 (Ah 7) (Ah 8) (Ah 9) (Ah 10) (Ah 11) (Ah 12) g7027 H locs ls (by omega) (hIh.1 5) (hIh.1 6) (by omega) (by omega) (by omega) (fun j => hIh.2 10 j) (fun j => hIh.2 12 j) hP hD hS (lv_sub hl [2, 3, 0] rfl)
            · have zc7013 := neK rfl (show (0 : Int32).toInt = 0 by decide) c7013
              refine lv_aload_n hx hb dX6_readLine_90 rfl (lv_at hl 1 rfl) ?_
              refine lv_aload_n hx hb dX6_readLine_91 rfl (lv_at hl 2 rfl) ?_
              refine behDi (wr := ([] : va_W)) (runVDS (As := [.ref adh]) (rest := []) ⟨hx, hb, hml, hown, ht⟩ (sX6_readMan l G cs sd adt qt Ft At Bt Dt hIt qtp Ftp Atp Btp Dtp hItp adh qh Fh Ah Bh Dh hIh ) okV_RX6_71 ⟨by decide, by decide⟩ hK hP hD hQ hS hA [0, 1, 2, 3, 4, 5, 6, 7, 8, 9, 10] rfl (by decide) rfl 0 rfl rfl hl.1 rfl (Nat.le_of_ble_eq_true rfl) dX6_readLine_92 ⟨(Nat.le_of_ble_eq_true rfl), (Nat.le_of_ble_eq_true rfl)⟩) hP hD hS hA [0, 1, 2, 3, 4, 5, 6, 7, 8, 9, 10] [] rfl rfl (by decide) (by decide) (fun r9 u H locs hu hP hD hS => ?_)
              obtain ⟨x7029, x7030, x7031, x7032, x7033, x7034, x7035, g7036, g7037, g7038⟩ := u
              obtain ⟨r7039, rfl⟩ : ∃ z, z = r9 := ⟨_, rfl⟩
              obtain ⟨hbx7029, hbx7030, hbx7031, hbx7032, hg7037, hr7039⟩ := hu
              have hbx7029 : (0 : Int) ≤ x7029.toInt ∧ x7029.toInt ≤ 6 := hbx7029
              have hbx7030 : (0 : Int) ≤ x7030.toInt ∧ x7030.toInt ≤ 900 := hbx7030
              have hbx7031 : (0 : Int) ≤ x7031.toInt ∧ x7031.toInt ≤ 4 := hbx7031
              have hbx7032 : (0 : Int) ≤ x7032.toInt ∧ x7032.toInt ≤ 900 := hbx7032
              have hg7037 : AJ (0) 63 g7037 := hg7037
              have hr7039 : (0 : Int) ≤ r7039.toInt ∧ r7039.toInt ≤ 1 := hr7039
              have hP : va_P G vwCl ((uX6 cs adt qt (upv 6 x7035 (upv 5 x7034 (upv 4 x7033 (upv 3 x7032 (upv 2 x7031 (upv 1 x7030 Ft)))))) At Bt Dt) ++ ((uX9 cs (qt 0) qtp Ftp Atp Btp Dtp) ++ (uX3 cs adh qh (upv 6 x7029 Fh) (vB 13 g7038 (vB 12 g7037 (vB 11 g7036 Ah))) Bh Dh))) H := hP.sub [0, 1, 2, 3, 4, 5, 6, 7, 8, 9, 10] rfl
              have hD : va_D A0 ((uX6 cs adt qt (upv 6 x7035 (upv 5 x7034 (upv 4 x7033 (upv 3 x7032 (upv 2 x7031 (upv 1 x7030 Ft)))))) At Bt Dt) ++ ((uX9 cs (qt 0) qtp Ftp Atp Btp Dtp) ++ (uX3 cs adh qh (upv 6 x7029 Fh) (vB 13 g7038 (vB 12 g7037 (vB 11 g7036 Ah))) Bh Dh))) := hD.sub [0, 1, 2, 3, 4, 5, 6, 7, 8, 9, 10] (by decide) rfl
              refine lv_istore_n (lv' := [(3, .int r7039), (2, .int s12_0), (0, .ref adt), (1, .ref adh)]) hx hb dX6_readLine_95 rfl hl (by decide) rfl (fun ls hl => ?_)
              refine lv_goto (tgt := 123) hx hb dX6_readLine_96 (by decide) ?_
              exact B123 r7039 (Fh 1) (Fh 2) (Fh 3) (Fh 4) (Fh 5) x7029 x7030 x7031 x7032 x7033 x7034 x7035 (Ah 7) (Ah 8) (Ah 9) (Ah 10) g7036 g7037 g7038 H locs ls (by omega) (hIh.1 5) (by omega) (by omega) (by omega) (by omega) (fun j => hIh.2 10 j) hg7037 hP hD hS (lv_sub hl [2, 3, 0] rfl)
          · have zc7010 := neK rfl (show (0 : Int32).toInt = 0 by decide) c7010
            refine lv_aload_n hx hb dX6_readLine_72 rfl (lv_at hl 1 rfl) ?_
            refine lv_aload_n hx hb dX6_readLine_73 rfl (lv_at hl 2 rfl) ?_
            refine behDi (wr := ([] : va_W)) (runVD (As := [.ref adh]) (rest := []) ⟨hx, hb, hml, hown, ht⟩ (sX6_readDoor l G cs adt qt Ft At Bt Dt hIt qtp Ftp Atp Btp Dtp hItp adh qh Fh Ah Bh Dh hIh ) okV_RX6_66 ⟨by decide, by decide⟩ hK hP hD [0, 1, 2, 3, 4, 5, 6, 7, 8, 9, 10] rfl (by decide) rfl 0 rfl rfl hl.1 rfl (Nat.le_of_ble_eq_true rfl) dX6_readLine_74 ⟨(Nat.le_of_ble_eq_true rfl), (Nat.le_of_ble_eq_true rfl)⟩) hP hD hS hA [0, 1, 2, 3, 4, 5, 6, 7, 8, 9, 10] [] rfl rfl (by decide) (by decide) (fun r9 u H locs hu hP hD hS => ?_)
            obtain ⟨x7040, x7041, x7042, x7043, x7044, x7045, g7046⟩ := u
            obtain ⟨r7047, rfl⟩ : ∃ z, z = r9 := ⟨_, rfl⟩
            obtain ⟨hbx7040, hbx7041, hbx7042, hg7046, hr7047⟩ := hu
            have hbx7040 : (0 : Int) ≤ x7040.toInt ∧ x7040.toInt ≤ 900 := hbx7040
            have hbx7041 : (0 : Int) ≤ x7041.toInt ∧ x7041.toInt ≤ 4 := hbx7041
            have hbx7042 : (0 : Int) ≤ x7042.toInt ∧ x7042.toInt ≤ 900 := hbx7042
            have hg7046 : AJ (0) 127 g7046 := hg7046
            have hr7047 : (0 : Int) ≤ r7047.toInt ∧ r7047.toInt ≤ 1 := hr7047
            have hP : va_P G vwCl ((uX6 cs adt qt (upv 6 x7045 (upv 5 x7044 (upv 4 x7043 (upv 3 x7042 (upv 2 x7041 (upv 1 x7040 Ft)))))) At Bt Dt) ++ ((uX9 cs (qt 0) qtp Ftp Atp Btp Dtp) ++ (uX3 cs adh qh Fh (vB 10 g7046 Ah) Bh Dh))) H := hP.sub [0, 1, 2, 3, 4, 5, 6, 7, 8, 9, 10] rfl
            have hD : va_D A0 ((uX6 cs adt qt (upv 6 x7045 (upv 5 x7044 (upv 4 x7043 (upv 3 x7042 (upv 2 x7041 (upv 1 x7040 Ft)))))) At Bt Dt) ++ ((uX9 cs (qt 0) qtp Ftp Atp Btp Dtp) ++ (uX3 cs adh qh Fh (vB 10 g7046 Ah) Bh Dh))) := hD.sub [0, 1, 2, 3, 4, 5, 6, 7, 8, 9, 10] (by decide) rfl
            refine lv_istore_n (lv' := [(3, .int r7047), (2, .int s12_0), (0, .ref adt), (1, .ref adh)]) hx hb dX6_readLine_77 rfl hl (by decide) rfl (fun ls hl => ?_)
            refine lv_goto (tgt := 123) hx hb dX6_readLine_78 (by decide) ?_
            exact B123 r7047 (Fh 1) (Fh 2) (Fh 3) (Fh 4) (Fh 5) (Fh 6) x7040 x7041 x7042 x7043 x7044 x7045 (Ah 7) (Ah 8) (Ah 9) g7046 (Ah 11) (Ah 12) (Ah 13) H locs ls (by omega) (hIh.1 5) (hIh.1 6) (by omega) (by omega) (by omega) hg7046 (fun j => hIh.2 12 j) hP hD hS (lv_sub hl [2, 3, 0] rfl)
        · have zc7007 := neK rfl (show (0 : Int32).toInt = 0 by decide) c7007
          refine lv_aload_n hx hb dX6_readLine_54 rfl (lv_at hl 1 rfl) ?_
          refine lv_aload_n hx hb dX6_readLine_55 rfl (lv_at hl 2 rfl) ?_
          refine behDi (wr := ([] : va_W)) (runVDS (As := [.ref adh]) (rest := []) ⟨hx, hb, hml, hown, ht⟩ (sX6_readRoom l G cs sd adt qt Ft At Bt Dt hIt qtp Ftp Atp Btp Dtp hItp adh qh Fh Ah Bh Dh hIh ) okV_RX6_61 ⟨by decide, by decide⟩ hK hP hD hQ hS hA [0, 1, 2, 3, 4, 5, 6, 7, 8, 9, 10] rfl (by decide) rfl 0 rfl rfl hl.1 rfl (Nat.le_of_ble_eq_true rfl) dX6_readLine_56 ⟨(Nat.le_of_ble_eq_true rfl), (Nat.le_of_ble_eq_true rfl)⟩) hP hD hS hA [0, 1, 2, 3, 4, 5, 6, 7, 8, 9, 10] [] rfl rfl (by decide) (by decide) (fun r9 u H locs hu hP hD hS => ?_)
          obtain ⟨x7048, x7049, x7050, x7051, x7052, x7053, x7054, g7055, g7056, g7057, g7058⟩ := u
          obtain ⟨r7059, rfl⟩ : ∃ z, z = r9 := ⟨_, rfl⟩
          obtain ⟨hbx7048, hbx7049, hbx7050, hbx7051, hg7058, hr7059⟩ := hu
          have hbx7048 : (0 : Int) ≤ x7048.toInt ∧ x7048.toInt ≤ 7 := hbx7048
          have hbx7049 : (0 : Int) ≤ x7049.toInt ∧ x7049.toInt ≤ 900 := hbx7049
          have hbx7050 : (0 : Int) ≤ x7050.toInt ∧ x7050.toInt ≤ 4 := hbx7050
          have hbx7051 : (0 : Int) ≤ x7051.toInt ∧ x7051.toInt ≤ 900 := hbx7051
          have hg7058 : AJ (0) 127 g7058 := hg7058
          have hr7059 : (0 : Int) ≤ r7059.toInt ∧ r7059.toInt ≤ 1 := hr7059
          have hP : va_P G vwCl ((uX6 cs adt qt (upv 6 x7054 (upv 5 x7053 (upv 4 x7052 (upv 3 x7051 (upv 2 x7050 (upv 1 x7049 Ft)))))) At Bt Dt) ++ ((uX9 cs (qt 0) qtp Ftp Atp Btp Dtp) ++ (uX3 cs adh qh (upv 5 x7048 Fh) (vB 10 g7058 (vB 9 g7057 (vB 8 g7056 (vB 7 g7055 Ah)))) Bh Dh))) H := hP.sub [0, 1, 2, 3, 4, 5, 6, 7, 8, 9, 10] rfl
          have hD : va_D A0 ((uX6 cs adt qt (upv 6 x7054 (upv 5 x7053 (upv 4 x7052 (upv 3 x7051 (upv 2 x7050 (upv 1 x7049 Ft)))))) At Bt Dt) ++ ((uX9 cs (qt 0) qtp Ftp Atp Btp Dtp) ++ (uX3 cs adh qh (upv 5 x7048 Fh) (vB 10 g7058 (vB 9 g7057 (vB 8 g7056 (vB 7 g7055 Ah)))) Bh Dh))) := hD.sub [0, 1, 2, 3, 4, 5, 6, 7, 8, 9, 10] (by decide) rfl
          refine lv_istore_n (lv' := [(3, .int r7059), (2, .int s12_0), (0, .ref adt), (1, .ref adh)]) hx hb dX6_readLine_59 rfl hl (by decide) rfl (fun ls hl => ?_)
          refine lv_goto (tgt := 123) hx hb dX6_readLine_60 (by decide) ?_
          exact B123 r7059 (Fh 1) (Fh 2) (Fh 3) (Fh 4) x7048 (Fh 6) x7049 x7050 x7051 x7052 x7053 x7054 g7055 g7056 g7057 g7058 (Ah 11) (Ah 12) (Ah 13) H locs ls (by omega) (by omega) (hIh.1 6) (by omega) (by omega) (by omega) hg7058 (fun j => hIh.2 12 j) hP hD hS (lv_sub hl [2, 3, 0] rfl)
      · have zc7004 := neK rfl (show (0 : Int32).toInt = 0 by decide) c7004
        refine lv_aload_n hx hb dX6_readLine_36 rfl (lv_at hl 1 rfl) ?_
        refine lv_aload_n hx hb dX6_readLine_37 rfl (lv_at hl 2 rfl) ?_
        refine behDi (wr := ([] : va_W)) (runVDS (As := [.ref adh]) (rest := []) ⟨hx, hb, hml, hown, ht⟩ (sX6_readFirst l G cs sd adt qt Ft At Bt Dt hIt qtp Ftp Atp Btp Dtp hItp adh qh Fh Ah Bh Dh hIh ) okV_RX6_56 ⟨by decide, by decide⟩ hK hP hD hQ hS hA [0, 1, 2, 3, 4, 5, 6, 7, 8, 9, 10] rfl (by decide) rfl 0 rfl rfl hl.1 rfl (Nat.le_of_ble_eq_true rfl) dX6_readLine_38 ⟨(Nat.le_of_ble_eq_true rfl), (Nat.le_of_ble_eq_true rfl)⟩) hP hD hS hA [0, 1, 2, 3, 4, 5, 6, 7, 8, 9, 10] [] rfl rfl (by decide) (by decide) (fun r9 u H locs hu hP hD hS => ?_)
        obtain ⟨x7060, x7061, x7062, x7063, x7064, x7065, x7066, x7067, x7068, x7069⟩ := u
        obtain ⟨r7070, rfl⟩ : ∃ z, z = r9 := ⟨_, rfl⟩
        obtain ⟨hbx7064, hbx7065, hbx7066, hr7070⟩ := hu
        have hbx7064 : (0 : Int) ≤ x7064.toInt ∧ x7064.toInt ≤ 900 := hbx7064
        have hbx7065 : (0 : Int) ≤ x7065.toInt ∧ x7065.toInt ≤ 4 := hbx7065
        have hbx7066 : (0 : Int) ≤ x7066.toInt ∧ x7066.toInt ≤ 900 := hbx7066
        have hr7070 : (0 : Int) ≤ r7070.toInt ∧ r7070.toInt ≤ 1 := hr7070
        have hP : va_P G vwCl ((uX6 cs adt qt (upv 6 x7069 (upv 5 x7068 (upv 4 x7067 (upv 3 x7066 (upv 2 x7065 (upv 1 x7064 Ft)))))) At Bt Dt) ++ ((uX9 cs (qt 0) qtp Ftp Atp Btp Dtp) ++ (uX3 cs adh qh (upv 4 x7063 (upv 3 x7062 (upv 2 x7061 (upv 1 x7060 Fh)))) Ah Bh Dh))) H := hP.sub [0, 1, 2, 3, 4, 5, 6, 7, 8, 9, 10] rfl
        have hD : va_D A0 ((uX6 cs adt qt (upv 6 x7069 (upv 5 x7068 (upv 4 x7067 (upv 3 x7066 (upv 2 x7065 (upv 1 x7064 Ft)))))) At Bt Dt) ++ ((uX9 cs (qt 0) qtp Ftp Atp Btp Dtp) ++ (uX3 cs adh qh (upv 4 x7063 (upv 3 x7062 (upv 2 x7061 (upv 1 x7060 Fh)))) Ah Bh Dh))) := hD.sub [0, 1, 2, 3, 4, 5, 6, 7, 8, 9, 10] (by decide) rfl
        refine lv_istore_n (lv' := [(3, .int r7070), (2, .int s12_0), (0, .ref adt), (1, .ref adh)]) hx hb dX6_readLine_41 rfl hl (by decide) rfl (fun ls hl => ?_)
        refine lv_goto (tgt := 123) hx hb dX6_readLine_42 (by decide) ?_
        exact B123 r7070 x7060 x7061 x7062 x7063 (Fh 5) (Fh 6) x7064 x7065 x7066 x7067 x7068 x7069 (Ah 7) (Ah 8) (Ah 9) (Ah 10) (Ah 11) (Ah 12) (Ah 13) H locs ls (by omega) (hIh.1 5) (hIh.1 6) (by omega) (by omega) (by omega) (fun j => hIh.2 10 j) (fun j => hIh.2 12 j) hP hD hS (lv_sub hl [2, 3, 0] rfl)
    · have zc7003 := neK rfl rfl c7003
      refine lv_aload_n hx hb dX6_readLine_23 rfl (lv_at hl 1 rfl) ?_
      refine lv_iconst (v := 1) hx hb dX6_readLine_24 (by decide) ?_
      refine behDi (wr := (uX3 cs adh qh Fh Ah Bh Dh)) (runVD (As := [.int 1]) (rest := []) ⟨hx, hb, hml, hown, ht⟩ (sX6_fail l G cs adt qt Ft At Bt Dt hIt qtp Ftp Atp Btp Dtp hItp 1 ) okV_RX6_52 ⟨by decide, by decide⟩ hK hP hD [0, 1, 2] rfl (by decide) rfl 0 rfl rfl hl.1 rfl (Nat.le_of_ble_eq_true rfl) dX6_readLine_25 ⟨(Nat.le_of_ble_eq_true rfl), (Nat.le_of_ble_eq_true rfl)⟩) hP hD hS hA [0, 1, 2] [3, 4, 5, 6, 7, 8, 9, 10] rfl rfl (by decide) (by decide) (fun r9 u H locs hu hP hD hS => ?_)
      obtain ⟨x7071, x7072⟩ := u
      have kk7074 : (1 : Int32).toInt = 1 := by decide
      obtain ⟨r7073, rfl⟩ : ∃ z, z = r9 := ⟨_, rfl⟩
      have hr7073 := hu
      have hr7073 : r7073.toInt = 0 := hr7073
      have hP : va_P G vwCl ((uX6 cs adt qt (upv 6 x7072 (upv 5 x7071 Ft)) At Bt Dt) ++ ((uX9 cs (qt 0) qtp Ftp Atp Btp Dtp) ++ (uX3 cs adh qh Fh Ah Bh Dh))) H := hP.sub [8, 9, 10, 0, 1, 2, 3, 4, 5, 6, 7] rfl
      have hD : va_D A0 ((uX6 cs adt qt (upv 6 x7072 (upv 5 x7071 Ft)) At Bt Dt) ++ ((uX9 cs (qt 0) qtp Ftp Atp Btp Dtp) ++ (uX3 cs adh qh Fh Ah Bh Dh))) := hD.sub [8, 9, 10, 0, 1, 2, 3, 4, 5, 6, 7] (by decide) rfl
      refine lv_istore_n (lv' := [(3, .int r7073), (2, .int s12_0), (0, .ref adt), (1, .ref adh)]) hx hb dX6_readLine_28 rfl hl (by decide) rfl (fun ls hl => ?_)
      refine lv_goto (tgt := 123) hx hb dX6_readLine_29 (by decide) ?_
      exact B123 r7073 (Fh 1) (Fh 2) (Fh 3) (Fh 4) (Fh 5) (Fh 6) (Ft 1) (Ft 2) (Ft 3) (Ft 4) x7071 x7072 (Ah 7) (Ah 8) (Ah 9) (Ah 10) (Ah 11) (Ah 12) (Ah 13) H locs ls (by omega) (hIh.1 5) (hIh.1 6) (hIt.1 1) (hIt.1 2) (hIt.1 3) (fun j => hIh.2 10 j) (fun j => hIh.2 12 j) hP hD hS (lv_sub hl [2, 3, 0] rfl)
  refine lv_if_ne (tgt := 11) hx hb dX6_readLine_4 (by decide) (fun c1 => ?_) (fun c1 => ?_)
  · have zc1 := neK rfl (show (0 : Int32).toInt = 0 by decide) c1
    refine lv_iconst (v := 0) hx hb dX6_readLine_11 (by decide) ?_
    exact B12 0 s.heap [] ls (by decide) hP hD hS (lv_sub hl [0, 1] rfl)
  · have zc1 := eqK rfl (show (0 : Int32).toInt = 0 by decide) c1
    refine lv_iconst (v := 1) hx hb dX6_readLine_7 (by decide) ?_
    refine lv_goto (tgt := 12) hx hb dX6_readLine_8 (by decide) ?_
    exact B12 1 s.heap [] ls (by decide) hP hD hS (lv_sub hl [0, 1] rfl)

