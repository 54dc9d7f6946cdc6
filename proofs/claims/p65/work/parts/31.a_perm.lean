/-! worlds as rows of units: a call's units are taken out and put back whole -/
theorem PW {D : va_G} {cl : List vw_C} {ws ws' : va_W} {H : Heap} (h : va_P D cl ws H) (hm : ∀ q ∈ ws', q ∈ ws) : va_P D cl ws' H := fun k q hq => by
  obtain ⟨i, hi⟩ := List.getElem?_of_mem (hm q (List.mem_of_getElem? hq))
  exact h i q hi
theorem PWp {D : va_G} {cl : List vw_C} {ws ws' : va_W} {H : Heap} (hp : ws.Perm ws') (h : va_P D cl ws H) : va_P D cl ws' H := PW h (fun _ hq => hp.mem_iff.mpr hq)
theorem DWi {A : Nat → Prop} {ws : va_W} : va_D A ws ↔ ws.Pairwise (fun p q => ¬ p.1 = q.1) ∧ ∀ q ∈ ws, A q.1 := by
  constructor
  · intro h
    refine ⟨List.pairwise_iff_getElem.mpr (fun i j hi hj hij e => ?_), fun q hq => ?_⟩
    · have := h.1 i j _ _ (List.getElem?_eq_getElem hi) (List.getElem?_eq_getElem hj) e
      omega
    · obtain ⟨k, hk⟩ := List.getElem?_of_mem hq
      exact h.2 k q hk
  · intro h
    refine ⟨fun i j p q hi hj e => ?_, fun k q hk => h.2 q (List.mem_of_getElem? hk)⟩
    obtain ⟨hi', ei⟩ := List.getElem?_eq_some_iff.mp hi
    obtain ⟨hj', ej⟩ := List.getElem?_eq_some_iff.mp hj
    have hp := List.pairwise_iff_getElem.mp h.1
    rcases Nat.lt_trichotomy i j with h1 | h1 | h1
    · exact absurd (by rw [ei, ej]; exact e) (hp i j hi' hj' h1)
    · exact h1
    · exact absurd (by rw [ei, ej]; exact e.symm) (hp j i hj' hi' h1)
theorem DWp {A : Nat → Prop} {ws ws' : va_W} (hp : ws.Perm ws') (h : va_D A ws) : va_D A ws' := by
  obtain ⟨h1, h2⟩ := DWi.mp h
  exact DWi.mpr ⟨hp.pairwise h1 (fun q e => q e.symm), fun q hq => h2 q (hp.mem_iff.mpr hq)⟩
theorem DWl {A : Nat → Prop} {ws wr : va_W} (h : va_D A (ws ++ wr)) : va_D A ws := by
  obtain ⟨h1, h2⟩ := DWi.mp h
  exact DWi.mpr ⟨(List.pairwise_append.mp h1).1, fun q hq => h2 q (List.mem_append_left _ hq)⟩
theorem PWl {D : va_G} {cl : List vw_C} {ws wr : va_W} {H : Heap} (h : va_P D cl (ws ++ wr) H) : va_P D cl ws H := PW h (fun _ hq => List.mem_append_left _ hq)
def catW : List va_W → va_W
  | [] => []
  | [a] => a
  | a :: b :: l => a ++ catW (b :: l)
theorem catW_flat : ∀ us : List va_W, catW us = us.flatten
  | [] => rfl
  | [a] => by show a = [a].flatten; simp
  | a :: b :: l => by show a ++ catW (b :: l) = _; rw [catW_flat (b :: l)]; rfl
theorem rngF {α : Type} : ∀ us : List α, (List.range us.length).filterMap (fun i => us[i]?) = us
  | [] => rfl
  | a :: l => by
    rw [List.length_cons, List.range_succ_eq_map, List.filterMap_cons, List.filterMap_map]
    show a :: (List.range l.length).filterMap (fun i => (a :: l)[i + 1]?) = _
    have h := rngF l
    simp only [List.getElem?_cons_succ]
    rw [h]
theorem permU {α : Type} (us : List α) (is : List Nat) (h : is.Perm (List.range us.length)) : (is.filterMap (fun i => us[i]?)).Perm us := by
  have h1 := h.filterMap (fun i => us[i]?)
  rw [rngF] at h1
  exact h1
def pk (us : List va_W) (is : List Nat) : List va_W := is.filterMap (fun i => us[i]?)
theorem permI {us : List va_W} (ic ir : List Nat) (n : Nat) (hn : us.length = n) (h : (ic ++ ir).Perm (List.range n)) : (catW us).Perm (catW (pk us ic) ++ catW (pk us ir)) := by
  have h1 := permU us (ic ++ ir) (by rw [hn]; exact h)
  rw [List.filterMap_append] at h1
  rw [catW_flat, catW_flat, catW_flat, ← List.flatten_append]
  exact h1.symm.flatten
theorem ndN : ∀ l : List Nat, l.Nodup → va_nd l = true
  | [], _ => rfl
  | a :: l, h => by
    obtain ⟨h1, h2⟩ := List.nodup_cons.mp h
    show (decide (a ∉ l) && va_nd l) = true
    rw [ndN l h2, decide_eq_true h1]
    rfl
theorem rngL {α : Type} (wd wr : List α) : (List.range wd.length).map (fun i => (wd ++ wr)[i]?) = wd.map some := by
  apply List.ext_getElem (by simp)
  intro i h1 h2
  have hi : i < wd.length := by simpa using h2
  simp [List.getElem?_append_left hi, List.getElem?_eq_getElem hi]
theorem rngR {α : Type} (wd wr : List α) : ((List.range wr.length).map (fun i => i + wd.length)).map (fun i => (wd ++ wr)[i]?) = wr.map some := by
  apply List.ext_getElem (by simp)
  intro i h1 h2
  have hi : i < wr.length := by simpa using h2
  simp [List.getElem?_append_right, List.getElem?_eq_getElem hi]
theorem rngN (n k : Nat) : va_nd ((List.range n).map (fun i => i + k)) = true := ndN _ (by
  unfold List.Nodup
  rw [List.pairwise_map]
  exact (List.nodup_range (n := n)).imp (fun h e => h (by omega)))
theorem rngN0 (n : Nat) : va_nd (List.range n) = true := ndN _ List.nodup_range
theorem rngM {α : Type} (wd : List α) : (List.range wd.length).map (fun i => wd[i]?) = wd.map some := by
  apply List.ext_getElem (by simp)
  intro i h1 h2
  have hi : i < wd.length := by simpa using h2
  simp [List.getElem?_eq_getElem hi]
section PermLaw
variable {p : Program} {l : Launch} {e : Env} {R : Room} {s : State} {m : MethodId} {args : Array Value} {below : List Frame} {meth : Method} {c : Code} {H : Heap} {locs : List Loc} {cells slots mc ms : Nat} {Q : State → Prop}
variable {cc : ByteArray} {pc : Nat} {ls : Array Slot} {rest st0 : List Value} {G : va_G} {A : Nat → Prop} {wr wd : va_W} {H0 : Heap}
theorem rngD {n k i : Nat} (h : i ∈ (List.range n).map (fun i => i + k)) : i ∉ List.range k := fun h2 => by
  obtain ⟨j, _, rfl⟩ := List.mem_map.mp h
  have := List.mem_range.mp h2
  omega
theorem behDiP {S : Type} {post : Int32 → S → Prop} {wd' : S → va_W} {a : Array Value} (hr : va_Run p l e R s m args below meth c H locs cells slots mc ms (F0 m pc ls st0) rest (QDi G post wd' (va_A wd H.size) a) (va_A wd H.size)) (hP : va_P G vwCl (wd ++ wr) H) (hD : va_D A (wd ++ wr)) (hS : va_S A H0 H locs) (hA : ∀ q : Nat, H0.size ≤ q → A q)
    (kk : ∀ (r : Int32) (u : S) (H1 : Heap) (locs1 : List Loc), post r u → va_P G vwCl (wr ++ wd' u) H1 → va_D A (wr ++ wd' u) → va_S A H0 H1 locs1 → W p l e R s m args below meth c H1 locs1 (cells + mc) (slots + ms) Q (F0 m (pc + 3) ls (.int r :: rest))) : W p l e R s m args below meth c H locs cells slots Q (F0 m pc ls st0) :=
  behDi (wr := wr) hr hP hD hS hA (List.range wd.length) ((List.range wr.length).map (fun i => i + wd.length)) (rngL _ _) (rngR _ _) (rngN _ _) (fun _ h => rngD h) kk
end PermLaw
