/-! two worlds side by side: a call changes one of them -/
section
variable {p : Program} {l : Launch} {e : Env} {R : Room} {s : State} {m : MethodId} {args : Array Value} {below : List Frame} {meth : Method} {c : Code} {H H1 : Heap} {locs : List Loc} {cells slots : Nat} {Q : State → Prop} {pc : Nat} {ls : Array Slot} {st rest : List Value} {D : va_G} {cl : List vw_C} {w0 w1 w2 : va_W} {A : Nat → Prop} {tys : List (ClassId × FieldType)} {a : Array Value}
theorem ap_l {k : Nat} {q : Nat × va_E} (h : w0[k]? = some q) : (w0 ++ w2)[k]? = some q := by
  have hk : k < w0.length := (List.getElem?_eq_some_iff.mp h).1
  rw [List.getElem?_append_left hk]; exact h
theorem ap_r {k : Nat} {q : Nat × va_E} (h : w2[k]? = some q) : (w0 ++ w2)[w0.length + k]? = some q := by
  rw [List.getElem?_append_right (Nat.le_add_right _ _), Nat.add_sub_cancel_left]; exact h
theorem pl_l (h : va_P D cl (w0 ++ w2) H) : va_P D cl w0 H := fun k q hk => h k q (ap_l hk)
theorem pl_r (h : va_P D cl (w0 ++ w2) H) : va_P D cl w2 H := fun k q hk => h (w0.length + k) q (ap_r hk)
theorem dl_l (h : va_D A (w0 ++ w2)) : va_D A w0 := ⟨fun i j p q h1 h2 e => h.1 i j p q (ap_l h1) (ap_l h2) e, fun k q hk => h.2 k q (ap_l hk)⟩
theorem dl_r (h : va_D A (w0 ++ w2)) : va_D A w2 := ⟨fun i j p q h1 h2 e => by have := h.1 _ _ p q (ap_r (w0 := w0) h1) (ap_r (w0 := w0) h2) e; omega, fun k q hk => h.2 _ q (ap_r (w0 := w0) hk)⟩
theorem dl_x (h : va_D A (w0 ++ w2)) {i j : Nat} {p q : Nat × va_E} (h1 : w0[i]? = some p) (h2 : w2[j]? = some q) : p.1 ≠ q.1 := fun e => by
  have hk : i < w0.length := (List.getElem?_eq_some_iff.mp h1).1
  have := h.1 _ _ p q (ap_l (w2 := w2) h1) (ap_r (w0 := w0) h2) e
  omega
theorem fr_out (hx : ∀ (i j : Nat) (p q : Nat × va_E), w0[i]? = some p → w2[j]? = some q → p.1 ≠ q.1) (hP : va_P D cl w2 H) {k : Nat} {q : Nat × va_E} (hk : w2[k]? = some q) : ¬ va_A w0 H.size q.1 := fun h => h.elim (fun ⟨i, e, hi⟩ => hx i k _ _ hi hk rfl) (fun h => absurd (hP k q hk).lt (Nat.not_lt.mpr h))
theorem fr_l (hP : va_P D cl (w0 ++ w2) H) (hD : va_D A (w0 ++ w2)) (hF : ∀ q, va_A w0 H.size q → A q) (hk : ∀ q : Nat, q < H.size → ¬ va_A w0 H.size q → H1[q]? = H[q]?) (hP1 : va_P D cl w1 H1) (hD1 : va_D (va_A w0 H.size) w1) : va_P D cl (w1 ++ w2) H1 ∧ va_D A (w1 ++ w2) := by
  have ho : ∀ (k : Nat) (q : Nat × va_E), w2[k]? = some q → ¬ va_A w0 H.size q.1 := fun k q h => fr_out (fun i j p q h1 h2 => dl_x hD h1 h2) (pl_r hP) h
  refine ⟨hP1.app ((pl_r hP).kept (fun k q h => hk q.1 ((pl_r hP) k q h).lt (ho k q h))), va_D.app (hD1.weaken (fun k q _ h => hF q.1 h)) (dl_r hD) (fun i j p q h1 h2 e => ho j q h2 (e ▸ hD1.2 i p h1))⟩
theorem fr_r (hP : va_P D cl (w2 ++ w0) H) (hD : va_D A (w2 ++ w0)) (hF : ∀ q, va_A w0 H.size q → A q) (hk : ∀ q : Nat, q < H.size → ¬ va_A w0 H.size q → H1[q]? = H[q]?) (hP1 : va_P D cl w1 H1) (hD1 : va_D (va_A w0 H.size) w1) : va_P D cl (w2 ++ w1) H1 ∧ va_D A (w2 ++ w1) := by
  have ho : ∀ (k : Nat) (q : Nat × va_E), w2[k]? = some q → ¬ va_A w0 H.size q.1 := fun k q h => fr_out (fun i j p q h1 h2 e => dl_x hD h2 h1 e.symm) (pl_l hP) h
  refine ⟨((pl_l hP).kept (fun k q h => hk q.1 ((pl_l hP) k q h).lt (ho k q h))).app hP1, va_D.app (dl_l hD) (hD1.weaken (fun k q _ h => hF q.1 h)) (fun i j p q h1 h2 e => ho i p h1 (e ▸ hD1.2 j q h2))⟩
theorem clw_i {U : Type} {w : U → va_W} {pr : U → Int32} {F : U} (hr : va_Run p l e R s m args below meth c H locs cells slots 0 0 (F0 m pc ls st) rest (va_Qi (fun r (u : U) => r = pr u ∧ u = F) (fun u t => va_P D cl (w u) t.heap ∧ va_K D cl tys t ∧ va_D (va_A w0 H.size) (w u)) (va_A w0 H.size) a) (va_A w0 H.size)) (hA : ∀ q : Nat, s.heap.size ≤ q → A q) (hD : va_D A (w0 ++ w2)) (hP : va_P D cl (w0 ++ w2) H) (hS : va_S A s.heap H locs) (kk : ∀ (o : U) (H1 : Heap) (locs1 : List Loc), o = F → va_P D cl (w o ++ w2) H1 → va_D A (w o ++ w2) → va_S A s.heap H1 locs1 → W p l e R s m args below meth c H1 locs1 cells slots Q (F0 m (pc + 3) ls (.int (pr o) :: rest))) : W p l e R s m args below meth c H locs cells slots Q (F0 m pc ls st) := by
  have hF := fr_A (dl_l hD) hS hA
  refine va_calli hr hS (fun q _ h => hF q h) hF (fun r u t H1 locs1 ht hvm hw hB hz hk hS1 => ?_)
  have hw : r = pr u ∧ u = F := hw
  obtain ⟨hP1, -, hD1⟩ := hB
  rw [ht] at hP1
  obtain ⟨hP2, hD2⟩ := fr_l hP hD hF hk hP1 hD1
  rw [hw.1]
  exact kk u H1 locs1 hw.2 hP2 hD2 hS1
theorem clw_v {U : Type} {w : U → va_W} {F : U} (hr : va_Run p l e R s m args below meth c H locs cells slots 0 0 (F0 m pc ls st) rest (va_Qv (fun (u : U) => u = F) (fun u t => va_P D cl (w u) t.heap ∧ va_K D cl tys t ∧ va_D (va_A w0 H.size) (w u)) (va_A w0 H.size) a) (va_A w0 H.size)) (hA : ∀ q : Nat, s.heap.size ≤ q → A q) (hD : va_D A (w0 ++ w2)) (hP : va_P D cl (w0 ++ w2) H) (hS : va_S A s.heap H locs) (kk : ∀ (o : U) (H1 : Heap) (locs1 : List Loc), o = F → va_P D cl (w o ++ w2) H1 → va_D A (w o ++ w2) → va_S A s.heap H1 locs1 → W p l e R s m args below meth c H1 locs1 cells slots Q (F0 m (pc + 3) ls rest)) : W p l e R s m args below meth c H locs cells slots Q (F0 m pc ls st) := by
  have hF := fr_A (dl_l hD) hS hA
  refine va_callv hr hS (fun q _ h => hF q h) hF (fun u t H1 locs1 ht hvm hw hB hz hk hS1 => ?_)
  have hw : u = F := hw
  obtain ⟨hP1, -, hD1⟩ := hB
  rw [ht] at hP1
  obtain ⟨hP2, hD2⟩ := fr_l hP hD hF hk hP1 hD1
  exact kk u H1 locs1 hw hP2 hD2 hS1
theorem crw_i {U : Type} {w : U → va_W} {pr : U → Int32} {F : U} (hr : va_Run p l e R s m args below meth c H locs cells slots 0 0 (F0 m pc ls st) rest (va_Qi (fun r (u : U) => r = pr u ∧ u = F) (fun u t => va_P D cl (w u) t.heap ∧ va_K D cl tys t ∧ va_D (va_A w0 H.size) (w u)) (va_A w0 H.size) a) (va_A w0 H.size)) (hA : ∀ q : Nat, s.heap.size ≤ q → A q) (hD : va_D A (w2 ++ w0)) (hP : va_P D cl (w2 ++ w0) H) (hS : va_S A s.heap H locs) (kk : ∀ (o : U) (H1 : Heap) (locs1 : List Loc), o = F → va_P D cl (w2 ++ w o) H1 → va_D A (w2 ++ w o) → va_S A s.heap H1 locs1 → W p l e R s m args below meth c H1 locs1 cells slots Q (F0 m (pc + 3) ls (.int (pr o) :: rest))) : W p l e R s m args below meth c H locs cells slots Q (F0 m pc ls st) := by
  have hF := fr_A (dl_r hD) hS hA
  refine va_calli hr hS (fun q _ h => hF q h) hF (fun r u t H1 locs1 ht hvm hw hB hz hk hS1 => ?_)
  have hw : r = pr u ∧ u = F := hw
  obtain ⟨hP1, -, hD1⟩ := hB
  rw [ht] at hP1
  obtain ⟨hP2, hD2⟩ := fr_r hP hD hF hk hP1 hD1
  rw [hw.1]
  exact kk u H1 locs1 hw.2 hP2 hD2 hS1
theorem crw_v {U : Type} {w : U → va_W} {F : U} (hr : va_Run p l e R s m args below meth c H locs cells slots 0 0 (F0 m pc ls st) rest (va_Qv (fun (u : U) => u = F) (fun u t => va_P D cl (w u) t.heap ∧ va_K D cl tys t ∧ va_D (va_A w0 H.size) (w u)) (va_A w0 H.size) a) (va_A w0 H.size)) (hA : ∀ q : Nat, s.heap.size ≤ q → A q) (hD : va_D A (w2 ++ w0)) (hP : va_P D cl (w2 ++ w0) H) (hS : va_S A s.heap H locs) (kk : ∀ (o : U) (H1 : Heap) (locs1 : List Loc), o = F → va_P D cl (w2 ++ w o) H1 → va_D A (w2 ++ w o) → va_S A s.heap H1 locs1 → W p l e R s m args below meth c H1 locs1 cells slots Q (F0 m (pc + 3) ls rest)) : W p l e R s m args below meth c H locs cells slots Q (F0 m pc ls st) := by
  have hF := fr_A (dl_r hD) hS hA
  refine va_callv hr hS (fun q _ h => hF q h) hF (fun u t H1 locs1 ht hvm hw hB hz hk hS1 => ?_)
  have hw : u = F := hw
  obtain ⟨hP1, -, hD1⟩ := hB
  rw [ht] at hP1
  obtain ⟨hP2, hD2⟩ := fr_r hP hD hF hk hP1 hD1
  exact kk u H1 locs1 hw hP2 hD2 hS1
theorem clr_i {v : Int32} (hr : va_Run p l e R s m args below meth c H locs cells slots 0 0 (F0 m pc ls st) rest (va_Qi (fun r (_ : Unit) => r = v) (fun _ t => va_P D cl w0 t.heap ∧ va_K D cl tys t ∧ va_D (va_A w0 H.size) w0) (va_A w0 H.size) a) (va_A w0 H.size)) (hA : ∀ q : Nat, s.heap.size ≤ q → A q) (hD : va_D A (w0 ++ w2)) (hP : va_P D cl (w0 ++ w2) H) (hS : va_S A s.heap H locs) (kk : ∀ (H1 : Heap) (locs1 : List Loc), va_P D cl (w0 ++ w2) H1 → va_D A (w0 ++ w2) → va_S A s.heap H1 locs1 → W p l e R s m args below meth c H1 locs1 cells slots Q (F0 m (pc + 3) ls (.int v :: rest))) : W p l e R s m args below meth c H locs cells slots Q (F0 m pc ls st) := by
  have hF := fr_A (dl_l hD) hS hA
  refine va_calli hr hS (fun q _ h => hF q h) hF (fun r u t H1 locs1 ht hvm hw hB hz hk hS1 => ?_)
  have hw : r = v := hw
  obtain ⟨hP1, -, hD1⟩ := hB
  rw [ht] at hP1
  obtain ⟨hP2, hD2⟩ := fr_l hP hD hF hk hP1 hD1
  rw [hw]
  exact kk H1 locs1 hP2 hD2 hS1
theorem crr_i {v : Int32} (hr : va_Run p l e R s m args below meth c H locs cells slots 0 0 (F0 m pc ls st) rest (va_Qi (fun r (_ : Unit) => r = v) (fun _ t => va_P D cl w0 t.heap ∧ va_K D cl tys t ∧ va_D (va_A w0 H.size) w0) (va_A w0 H.size) a) (va_A w0 H.size)) (hA : ∀ q : Nat, s.heap.size ≤ q → A q) (hD : va_D A (w2 ++ w0)) (hP : va_P D cl (w2 ++ w0) H) (hS : va_S A s.heap H locs) (kk : ∀ (H1 : Heap) (locs1 : List Loc), va_P D cl (w2 ++ w0) H1 → va_D A (w2 ++ w0) → va_S A s.heap H1 locs1 → W p l e R s m args below meth c H1 locs1 cells slots Q (F0 m (pc + 3) ls (.int v :: rest))) : W p l e R s m args below meth c H locs cells slots Q (F0 m pc ls st) := by
  have hF := fr_A (dl_r hD) hS hA
  refine va_calli hr hS (fun q _ h => hF q h) hF (fun r u t H1 locs1 ht hvm hw hB hz hk hS1 => ?_)
  have hw : r = v := hw
  obtain ⟨hP1, -, hD1⟩ := hB
  rw [ht] at hP1
  obtain ⟨hP2, hD2⟩ := fr_r hP hD hF hk hP1 hD1
  rw [hw]
  exact kk H1 locs1 hP2 hD2 hS1
end
set_option maxRecDepth 20000 in
theorem gL_law_X1_rights : GoodIn lw_tbl (wsV RL 35 RX1 yX1_rights wsX1_rights) := goodIn_p _ [257] rfl (by decide +kernel)
set_option maxRecDepth 20000 in
theorem gL_law_X1_translate : GoodIn lw_tbl (wsV RL 40 RX1 yX1_translate wsX1_translate) := goodIn_p _ [261, 264, 268, 273, 277, 284, 288, 293, 298, 301, 304, 307, 310, 315] rfl (by decide +kernel)
set_option maxRecDepth 20000 in
theorem gL_law_X1_place : GoodIn lw_tbl (wsV RL 45 RX1 yX1_place wsX1_place) := goodIn_p _ [319] rfl (by decide +kernel)
set_option maxRecDepth 20000 in
theorem gL_law_X1_second : GoodIn lw_tbl (wsV RL 49 RX1 yX1_second wsX1_second) := goodIn_p _ [323] rfl (by decide +kernel)
set_option maxRecDepth 20000 in
theorem gL_law_X1_entry : GoodIn lw_tbl (wsV RL 54 RX1 yX1_entry wsX1_entry) := goodIn_p _ [327] rfl (by decide +kernel)
set_option maxRecDepth 20000 in
theorem gL_law_X1_pages : GoodIn lw_tbl (wsV RL 59 RX1 yX1_pages wsX1_pages) := goodIn_p _ [331, 264, 268, 273, 277, 284, 288, 293, 298, 301, 304, 307, 310, 315] rfl (by decide +kernel)
