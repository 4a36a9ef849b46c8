/-! Rows of ours over the kit: a long compare with its branch in one row, joins of a diamond, calls by contract shapes. -/
theorem l3_cmp (x y : Int64) : (y < x ∧ lg_cmp x y = 1 ∧ ¬ x < y ∧ ¬ x = y) ∨ (x = y ∧ lg_cmp x y = 0 ∧ ¬ x < y ∧ ¬ y < x) ∨ (x < y ∧ lg_cmp x y = -1 ∧ ¬ y < x ∧ ¬ x = y) := by
  have e1 : x < y ↔ x.toInt < y.toInt := Int64.lt_iff_toInt_lt
  have e2 : y < x ↔ y.toInt < x.toInt := Int64.lt_iff_toInt_lt
  rcases Int.lt_trichotomy x.toInt y.toInt with h | h | h
  · have a1 : x < y := e1.mpr h
    have a2 : ¬ y < x := fun q => by have := e2.mp q; omega
    have a3 : ¬ x = y := fun q => by rw [q] at h; omega
    refine Or.inr (Or.inr ⟨a1, ?_, a2, a3⟩)
    unfold lg_cmp
    rw [if_neg a2, if_neg a3]
  · have a1 : x = y := Int64.toInt_inj.mp h
    have a2 : ¬ y < x := fun q => by have := e2.mp q; omega
    have a3 : ¬ x < y := fun q => by have := e1.mp q; omega
    refine Or.inr (Or.inl ⟨a1, ?_, a3, a2⟩)
    unfold lg_cmp
    rw [if_neg a2, if_pos a1]
  · have a1 : y < x := e2.mpr h
    have a2 : ¬ x < y := fun q => by have := e1.mp q; omega
    have a3 : ¬ x = y := fun q => by rw [q] at h; omega
    refine Or.inl ⟨a1, ?_, a2, a3⟩
    unfold lg_cmp
    rw [if_pos a1]
theorem lc_lt {x y : Int64} : lg_cmp x y < 0 ↔ x < y := by
  rcases l3_cmp x y with ⟨h1, h2, h3, h4⟩ | ⟨h1, h2, h3, h4⟩ | ⟨h1, h2, h3, h4⟩ <;> rw [h2]
  · exact ⟨fun h => absurd h (by decide), fun h => absurd h h3⟩
  · exact ⟨fun h => absurd h (by decide), fun h => absurd h h3⟩
  · exact ⟨fun _ => h1, fun _ => by decide⟩
theorem lc_ge {x y : Int64} : 0 ≤ lg_cmp x y ↔ ¬ x < y := by
  rcases l3_cmp x y with ⟨h1, h2, h3, h4⟩ | ⟨h1, h2, h3, h4⟩ | ⟨h1, h2, h3, h4⟩ <;> rw [h2]
  · exact ⟨fun _ => h3, fun _ => by decide⟩
  · exact ⟨fun _ => h3, fun _ => by decide⟩
  · exact ⟨fun h => absurd h (by decide), fun h => absurd h1 h⟩
theorem lc_gt {x y : Int64} : 0 < lg_cmp x y ↔ y < x := by
  rcases l3_cmp x y with ⟨h1, h2, h3, h4⟩ | ⟨h1, h2, h3, h4⟩ | ⟨h1, h2, h3, h4⟩ <;> rw [h2]
  · exact ⟨fun _ => h1, fun _ => by decide⟩
  · exact ⟨fun h => absurd h (by decide), fun h => absurd h h4⟩
  · exact ⟨fun h => absurd h (by decide), fun h => absurd h h3⟩
theorem lc_le {x y : Int64} : lg_cmp x y ≤ 0 ↔ ¬ y < x := by
  rcases l3_cmp x y with ⟨h1, h2, h3, h4⟩ | ⟨h1, h2, h3, h4⟩ | ⟨h1, h2, h3, h4⟩ <;> rw [h2]
  · exact ⟨fun h => absurd h (by decide), fun h => absurd h1 h⟩
  · exact ⟨fun _ => h4, fun _ => by decide⟩
  · exact ⟨fun _ => h3, fun _ => by decide⟩
theorem lc_eq {x y : Int64} : lg_cmp x y = 0 ↔ x = y := by
  rcases l3_cmp x y with ⟨h1, h2, h3, h4⟩ | ⟨h1, h2, h3, h4⟩ | ⟨h1, h2, h3, h4⟩ <;> rw [h2]
  · exact ⟨fun h => absurd h (by decide), fun h => absurd h h4⟩
  · exact ⟨fun _ => h1, fun _ => rfl⟩
  · exact ⟨fun h => absurd h (by decide), fun h => absurd h h4⟩
theorem ite01 {q : Prop} [Decidable q] {a b : Int32} (ha : a = 0 ∨ a = 1) (hb : b = 0 ∨ b = 1) : (if q then a else b) = 0 ∨ (if q then a else b) = 1 := by
  split
  · exact ha
  · exact hb
theorem nb_0 : narrow .boolean (.int 0) = .int 0 := rfl
theorem nb_1 : narrow .boolean (.int 1) = .int 1 := rfl
theorem nb_z {z : Int32} (h : z = 0 ∨ z = 1) : narrow .boolean (.int z) = .int z := by rcases h with rfl | rfl <;> rfl
theorem fb_z {z : Int32} (h : z = 0 ∨ z = 1) : fits .boolean (.int z) = true := by rcases h with rfl | rfl <;> rfl
def jlushr (x : Int64) (y : Int32) : Int64 := (x.toUInt64 >>> (y.toInt64.toUInt64 &&& Int64.toUInt64 63)).toInt64
def jlshl (x : Int64) (y : Int32) : Int64 := x <<< (y.toInt64 &&& 63)
def jlshr (x : Int64) (y : Int32) : Int64 := x >>> (y.toInt64 &&& 63)
def jiushr (x y : Int32) : Int32 := (x.toUInt32 >>> (y.toUInt32 &&& Int32.toUInt32 31)).toInt32
def jishl (x y : Int32) : Int32 := x <<< (y &&& 31)
def jishr (x y : Int32) : Int32 := x >>> (y &&& 31)
-- contract shapes: a pure static method (P), one that reads the world (R), one that changes it (W)
abbrev MPi (l : Launch) (y : MethodName) (ws : List Cond) (rm : Room) (av : List Value) (sz : Nat) (v : Int32) : Prop := Met l y ws rm (va_Pc av (fun U => U.heap.size = sz)) (va_Qi (fun r (_ : Unit) => r = v) (fun _ _ => True) (va_A [] sz)) 0 0 (va_A [] sz)
abbrev MPl (l : Launch) (y : MethodName) (ws : List Cond) (rm : Room) (av : List Value) (sz : Nat) (v : Int64) : Prop := Met l y ws rm (va_Pc av (fun U => U.heap.size = sz)) (va_Ql (fun r (_ : Unit) => r = v) (fun _ _ => True) (va_A [] sz)) 0 0 (va_A [] sz)
abbrev MRi (l : Launch) (y : MethodName) (ws : List Cond) (rm : Room) (D : va_G) (cl : List vw_C) (tys : List (ClassId × FieldType)) (av : List Value) (sz : Nat) (w0 : va_W) (v : Int32) : Prop := Met l y ws rm (va_Pc av (fun U => U.heap.size = sz ∧ va_P D cl w0 U.heap ∧ va_K D cl tys U ∧ va_D (fun _ => True) w0)) (va_Qi (fun r (_ : Unit) => r = v) (fun _ t => va_P D cl w0 t.heap ∧ va_K D cl tys t ∧ va_D (va_A w0 sz) w0) (va_A w0 sz)) 0 0 (va_A w0 sz)
abbrev MRl (l : Launch) (y : MethodName) (ws : List Cond) (rm : Room) (D : va_G) (cl : List vw_C) (tys : List (ClassId × FieldType)) (av : List Value) (sz : Nat) (w0 : va_W) (v : Int64) : Prop := Met l y ws rm (va_Pc av (fun U => U.heap.size = sz ∧ va_P D cl w0 U.heap ∧ va_K D cl tys U ∧ va_D (fun _ => True) w0)) (va_Ql (fun r (_ : Unit) => r = v) (fun _ t => va_P D cl w0 t.heap ∧ va_K D cl tys t ∧ va_D (va_A w0 sz) w0) (va_A w0 sz)) 0 0 (va_A w0 sz)
abbrev MWi {U : Type} (l : Launch) (y : MethodName) (ws : List Cond) (rm : Room) (D : va_G) (cl : List vw_C) (tys : List (ClassId × FieldType)) (av : List Value) (sz : Nat) (w0 : va_W) (w : U → va_W) (pr : U → Int32) (F : U) : Prop := Met l y ws rm (va_Pc av (fun U => U.heap.size = sz ∧ va_P D cl w0 U.heap ∧ va_K D cl tys U ∧ va_D (fun _ => True) w0)) (va_Qi (fun r (u : U) => r = pr u ∧ u = F) (fun u t => va_P D cl (w u) t.heap ∧ va_K D cl tys t ∧ va_D (va_A w0 sz) (w u)) (va_A w0 sz)) 0 0 (va_A w0 sz)
abbrev MWl {U : Type} (l : Launch) (y : MethodName) (ws : List Cond) (rm : Room) (D : va_G) (cl : List vw_C) (tys : List (ClassId × FieldType)) (av : List Value) (sz : Nat) (w0 : va_W) (w : U → va_W) (pr : U → Int64) (F : U) : Prop := Met l y ws rm (va_Pc av (fun U => U.heap.size = sz ∧ va_P D cl w0 U.heap ∧ va_K D cl tys U ∧ va_D (fun _ => True) w0)) (va_Ql (fun r (u : U) => r = pr u ∧ u = F) (fun u t => va_P D cl (w u) t.heap ∧ va_K D cl tys t ∧ va_D (va_A w0 sz) (w u)) (va_A w0 sz)) 0 0 (va_A w0 sz)
abbrev MWv {U : Type} (l : Launch) (y : MethodName) (ws : List Cond) (rm : Room) (D : va_G) (cl : List vw_C) (tys : List (ClassId × FieldType)) (av : List Value) (sz : Nat) (w0 : va_W) (w : U → va_W) (F : U) : Prop := Met l y ws rm (va_Pc av (fun U => U.heap.size = sz ∧ va_P D cl w0 U.heap ∧ va_K D cl tys U ∧ va_D (fun _ => True) w0)) (va_Qv (fun (u : U) => u = F) (fun u t => va_P D cl (w u) t.heap ∧ va_K D cl tys t ∧ va_D (va_A w0 sz) (w u)) (va_A w0 sz)) 0 0 (va_A w0 sz)
section
variable {p : Program} {l : Launch} {e : Env} {R : Room} {s : State} {m : MethodId} {args : Array Value} {below : List Frame} {meth : Method} {c : Code} {H : Heap} {locs : List Loc} {cells slots : Nat} {Q : State → Prop} {cc : ByteArray} {pc : Nat} {ls : Array Slot} {st rest : List Value} {D : va_G} {cl : List vw_C} {ws w0 : va_W} {A : Nat → Prop} {H0 : Heap} {tys : List (ClassId × FieldType)} {a : Array Value}
theorem lq_lt (hexec : p.tables.exec = Jvm.exec) (hb : c.code = cc) {x y : Int64} {off : Int} {tgt : Nat} (hd1 : decode cc pc = .ok (.lcmp, 1)) (hdg : decode cc (pc + 1) = .ok (.ifCond .lt off, 3)) (ht : ((pc + 1 : Nat) : Int) + off = (tgt : Int)) (kt : x < y → W p l e R s m args below meth c H locs cells slots Q (F0 m tgt ls rest)) (kf : ¬ x < y → W p l e R s m args below meth c H locs cells slots Q (F0 m (pc + 1 + 3) ls rest)) : W p l e R s m args below meth c H locs cells slots Q (F0 m pc ls (.long y :: .long x :: rest)) := W.lcmp hexec hb hd1 (lv_if_lt hexec hb hdg ht (fun h => kt (lc_lt.mp h)) (fun h => kf (fun h' => h (lc_lt.mpr h'))))
theorem lq_ge (hexec : p.tables.exec = Jvm.exec) (hb : c.code = cc) {x y : Int64} {off : Int} {tgt : Nat} (hd1 : decode cc pc = .ok (.lcmp, 1)) (hdg : decode cc (pc + 1) = .ok (.ifCond .ge off, 3)) (ht : ((pc + 1 : Nat) : Int) + off = (tgt : Int)) (kt : ¬ x < y → W p l e R s m args below meth c H locs cells slots Q (F0 m tgt ls rest)) (kf : x < y → W p l e R s m args below meth c H locs cells slots Q (F0 m (pc + 1 + 3) ls rest)) : W p l e R s m args below meth c H locs cells slots Q (F0 m pc ls (.long y :: .long x :: rest)) := W.lcmp hexec hb hd1 (lv_if_ge hexec hb hdg ht (fun h => kt (lc_ge.mp h)) (fun h => kf (Decidable.of_not_not (fun h' => h (lc_ge.mpr h')))))
theorem lq_gt (hexec : p.tables.exec = Jvm.exec) (hb : c.code = cc) {x y : Int64} {off : Int} {tgt : Nat} (hd1 : decode cc pc = .ok (.lcmp, 1)) (hdg : decode cc (pc + 1) = .ok (.ifCond .gt off, 3)) (ht : ((pc + 1 : Nat) : Int) + off = (tgt : Int)) (kt : y < x → W p l e R s m args below meth c H locs cells slots Q (F0 m tgt ls rest)) (kf : ¬ y < x → W p l e R s m args below meth c H locs cells slots Q (F0 m (pc + 1 + 3) ls rest)) : W p l e R s m args below meth c H locs cells slots Q (F0 m pc ls (.long y :: .long x :: rest)) := W.lcmp hexec hb hd1 (lv_if_gt hexec hb hdg ht (fun h => kt (lc_gt.mp h)) (fun h => kf (fun h' => h (lc_gt.mpr h'))))
theorem lq_le (hexec : p.tables.exec = Jvm.exec) (hb : c.code = cc) {x y : Int64} {off : Int} {tgt : Nat} (hd1 : decode cc pc = .ok (.lcmp, 1)) (hdg : decode cc (pc + 1) = .ok (.ifCond .le off, 3)) (ht : ((pc + 1 : Nat) : Int) + off = (tgt : Int)) (kt : ¬ y < x → W p l e R s m args below meth c H locs cells slots Q (F0 m tgt ls rest)) (kf : y < x → W p l e R s m args below meth c H locs cells slots Q (F0 m (pc + 1 + 3) ls rest)) : W p l e R s m args below meth c H locs cells slots Q (F0 m pc ls (.long y :: .long x :: rest)) := W.lcmp hexec hb hd1 (lv_if_le hexec hb hdg ht (fun h => kt (lc_le.mp h)) (fun h => kf (Decidable.of_not_not (fun h' => h (lc_le.mpr h')))))
theorem lq_eq (hexec : p.tables.exec = Jvm.exec) (hb : c.code = cc) {x y : Int64} {off : Int} {tgt : Nat} (hd1 : decode cc pc = .ok (.lcmp, 1)) (hdg : decode cc (pc + 1) = .ok (.ifCond .eq off, 3)) (ht : ((pc + 1 : Nat) : Int) + off = (tgt : Int)) (kt : x = y → W p l e R s m args below meth c H locs cells slots Q (F0 m tgt ls rest)) (kf : ¬ x = y → W p l e R s m args below meth c H locs cells slots Q (F0 m (pc + 1 + 3) ls rest)) : W p l e R s m args below meth c H locs cells slots Q (F0 m pc ls (.long y :: .long x :: rest)) := W.lcmp hexec hb hd1 (lv_if_eq hexec hb hdg ht (fun h => kt (lc_eq.mp h)) (fun h => kf (fun h' => h (lc_eq.mpr h'))))
theorem lq_ne (hexec : p.tables.exec = Jvm.exec) (hb : c.code = cc) {x y : Int64} {off : Int} {tgt : Nat} (hd1 : decode cc pc = .ok (.lcmp, 1)) (hdg : decode cc (pc + 1) = .ok (.ifCond .ne off, 3)) (ht : ((pc + 1 : Nat) : Int) + off = (tgt : Int)) (kt : ¬ x = y → W p l e R s m args below meth c H locs cells slots Q (F0 m tgt ls rest)) (kf : x = y → W p l e R s m args below meth c H locs cells slots Q (F0 m (pc + 1 + 3) ls rest)) : W p l e R s m args below meth c H locs cells slots Q (F0 m pc ls (.long y :: .long x :: rest)) := W.lcmp hexec hb hd1 (lv_if_ne hexec hb hdg ht (fun h => kt (fun h' => h (lc_eq.mpr h'))) (fun h => kf (lc_eq.mp h)))
/-- the end of a diamond: what comes behind it is proved once, for a named value -/
theorem lj_i {j : Nat} {z0 : Int32} (hP : va_P D cl ws H) (hS : va_S A H0 H locs) (tail : ∀ (H : Heap) (locs : List Loc), va_P D cl ws H → va_S A H0 H locs → ∀ z : Int32, z = z0 → W p l e R s m args below meth c H locs cells slots Q (F0 m j ls (.int z :: rest))) (arms : (∀ (H : Heap) (locs : List Loc), va_P D cl ws H → va_S A H0 H locs → W p l e R s m args below meth c H locs cells slots Q (F0 m j ls (.int z0 :: rest))) → W p l e R s m args below meth c H locs cells slots Q (F0 m pc ls st)) : W p l e R s m args below meth c H locs cells slots Q (F0 m pc ls st) := arms (fun H locs hP hS => tail H locs hP hS z0 rfl)
theorem lj_l {j : Nat} {z0 : Int64} (hP : va_P D cl ws H) (hS : va_S A H0 H locs) (tail : ∀ (H : Heap) (locs : List Loc), va_P D cl ws H → va_S A H0 H locs → ∀ z : Int64, z = z0 → W p l e R s m args below meth c H locs cells slots Q (F0 m j ls (.long z :: rest))) (arms : (∀ (H : Heap) (locs : List Loc), va_P D cl ws H → va_S A H0 H locs → W p l e R s m args below meth c H locs cells slots Q (F0 m j ls (.long z0 :: rest))) → W p l e R s m args below meth c H locs cells slots Q (F0 m pc ls st)) : W p l e R s m args below meth c H locs cells slots Q (F0 m pc ls st) := arms (fun H locs hP hS => tail H locs hP hS z0 rfl)
theorem fr_A {w : va_W} (hD : va_D A w) (hS : va_S A s.heap H locs) (hA : ∀ q : Nat, s.heap.size ≤ q → A q) : ∀ q, va_A w H.size q → A q := fun q h => h.elim (fun ⟨k, e, hk⟩ => hD.2 k (q, e) hk) (fun h => hA q (Nat.le_trans hS.1 h))
theorem fr_D : va_D A [] := ⟨fun i j p q h => by simp at h, fun k q h => by simp at h⟩
theorem cs_i {v : Int32} (hr : va_Run p l e R s m args below meth c H locs cells slots 0 0 (F0 m pc ls st) rest (va_Qi (fun r (_ : Unit) => r = v) (fun _ _ => True) (va_A [] H.size) a) (va_A [] H.size)) (hA : ∀ q : Nat, s.heap.size ≤ q → A q) (hP : va_P D cl ws H) (hS : va_S A s.heap H locs) (kk : ∀ (H1 : Heap) (locs1 : List Loc), va_P D cl ws H1 → va_S A s.heap H1 locs1 → W p l e R s m args below meth c H1 locs1 cells slots Q (F0 m (pc + 3) ls (.int v :: rest))) : W p l e R s m args below meth c H locs cells slots Q (F0 m pc ls st) := by
  have hF := fr_A (A := A) (w := []) fr_D hS hA
  refine va_calli hr hS (fun q _ h => hF q h) hF (fun r u t H1 locs1 ht hvm hw hB hz hk hS1 => ?_)
  have hw : r = v := hw
  rw [hw]
  exact kk H1 locs1 (hP.kept (fun k q hq => hk q.1 (hP k q hq).lt (fun h => h.elim (fun ⟨k, e, hk⟩ => by simp at hk) (fun h9 => absurd (hP k q hq).lt (Nat.not_lt.mpr h9))))) hS1
theorem cs_l {v : Int64} (hr : va_Run p l e R s m args below meth c H locs cells slots 0 0 (F0 m pc ls st) rest (va_Ql (fun r (_ : Unit) => r = v) (fun _ _ => True) (va_A [] H.size) a) (va_A [] H.size)) (hA : ∀ q : Nat, s.heap.size ≤ q → A q) (hP : va_P D cl ws H) (hS : va_S A s.heap H locs) (kk : ∀ (H1 : Heap) (locs1 : List Loc), va_P D cl ws H1 → va_S A s.heap H1 locs1 → W p l e R s m args below meth c H1 locs1 cells slots Q (F0 m (pc + 3) ls (.long v :: rest))) : W p l e R s m args below meth c H locs cells slots Q (F0 m pc ls st) := by
  have hF := fr_A (A := A) (w := []) fr_D hS hA
  refine va_calll hr hS (fun q _ h => hF q h) hF (fun r u t H1 locs1 ht hvm hw hB hz hk hS1 => ?_)
  have hw : r = v := hw
  rw [hw]
  exact kk H1 locs1 (hP.kept (fun k q hq => hk q.1 (hP k q hq).lt (fun h => h.elim (fun ⟨k, e, hk⟩ => by simp at hk) (fun h9 => absurd (hP k q hq).lt (Nat.not_lt.mpr h9))))) hS1
theorem cr_i {v : Int32} (hr : va_Run p l e R s m args below meth c H locs cells slots 0 0 (F0 m pc ls st) rest (va_Qi (fun r (_ : Unit) => r = v) (fun _ t => va_P D cl w0 t.heap ∧ va_K D cl tys t ∧ va_D (va_A w0 H.size) w0) (va_A w0 H.size) a) (va_A w0 H.size)) (hA : ∀ q : Nat, s.heap.size ≤ q → A q) (hD : va_D A w0) (_hP : va_P D cl w0 H) (hS : va_S A s.heap H locs) (kk : ∀ (H1 : Heap) (locs1 : List Loc), va_P D cl w0 H1 → va_S A s.heap H1 locs1 → W p l e R s m args below meth c H1 locs1 cells slots Q (F0 m (pc + 3) ls (.int v :: rest))) : W p l e R s m args below meth c H locs cells slots Q (F0 m pc ls st) := by
  have hF := fr_A hD hS hA
  refine va_calli hr hS (fun q _ h => hF q h) hF (fun r u t H1 locs1 ht hvm hw hB hz hk hS1 => ?_)
  have hw : r = v := hw
  rw [hw]
  obtain ⟨hP1, -, -⟩ := hB
  rw [ht] at hP1
  exact kk H1 locs1 hP1 hS1
theorem cr_l {v : Int64} (hr : va_Run p l e R s m args below meth c H locs cells slots 0 0 (F0 m pc ls st) rest (va_Ql (fun r (_ : Unit) => r = v) (fun _ t => va_P D cl w0 t.heap ∧ va_K D cl tys t ∧ va_D (va_A w0 H.size) w0) (va_A w0 H.size) a) (va_A w0 H.size)) (hA : ∀ q : Nat, s.heap.size ≤ q → A q) (hD : va_D A w0) (_hP : va_P D cl w0 H) (hS : va_S A s.heap H locs) (kk : ∀ (H1 : Heap) (locs1 : List Loc), va_P D cl w0 H1 → va_S A s.heap H1 locs1 → W p l e R s m args below meth c H1 locs1 cells slots Q (F0 m (pc + 3) ls (.long v :: rest))) : W p l e R s m args below meth c H locs cells slots Q (F0 m pc ls st) := by
  have hF := fr_A hD hS hA
  refine va_calll hr hS (fun q _ h => hF q h) hF (fun r u t H1 locs1 ht hvm hw hB hz hk hS1 => ?_)
  have hw : r = v := hw
  rw [hw]
  obtain ⟨hP1, -, -⟩ := hB
  rw [ht] at hP1
  exact kk H1 locs1 hP1 hS1
theorem cw_i {U : Type} {w : U → va_W} {pr : U → Int32} {F : U} (hr : va_Run p l e R s m args below meth c H locs cells slots 0 0 (F0 m pc ls st) rest (va_Qi (fun r (u : U) => r = pr u ∧ u = F) (fun u t => va_P D cl (w u) t.heap ∧ va_K D cl tys t ∧ va_D (va_A w0 H.size) (w u)) (va_A w0 H.size) a) (va_A w0 H.size)) (hA : ∀ q : Nat, s.heap.size ≤ q → A q) (hD : va_D A w0) (_hP : va_P D cl w0 H) (hS : va_S A s.heap H locs) (kk : ∀ (o : U) (H1 : Heap) (locs1 : List Loc), o = F → va_P D cl (w o) H1 → va_D A (w o) → va_S A s.heap H1 locs1 → W p l e R s m args below meth c H1 locs1 cells slots Q (F0 m (pc + 3) ls (.int (pr o) :: rest))) : W p l e R s m args below meth c H locs cells slots Q (F0 m pc ls st) := by
  have hF := fr_A hD hS hA
  refine va_calli hr hS (fun q _ h => hF q h) hF (fun r u t H1 locs1 ht hvm hw hB hz hk hS1 => ?_)
  have hw : r = pr u ∧ u = F := hw
  rw [hw.1]
  obtain ⟨hP1, -, hD1⟩ := hB
  rw [ht] at hP1
  exact kk u H1 locs1 hw.2 hP1 (hD1.weaken (fun k q hk h => hF q.1 h)) hS1
theorem cw_l {U : Type} {w : U → va_W} {pr : U → Int64} {F : U} (hr : va_Run p l e R s m args below meth c H locs cells slots 0 0 (F0 m pc ls st) rest (va_Ql (fun r (u : U) => r = pr u ∧ u = F) (fun u t => va_P D cl (w u) t.heap ∧ va_K D cl tys t ∧ va_D (va_A w0 H.size) (w u)) (va_A w0 H.size) a) (va_A w0 H.size)) (hA : ∀ q : Nat, s.heap.size ≤ q → A q) (hD : va_D A w0) (_hP : va_P D cl w0 H) (hS : va_S A s.heap H locs) (kk : ∀ (o : U) (H1 : Heap) (locs1 : List Loc), o = F → va_P D cl (w o) H1 → va_D A (w o) → va_S A s.heap H1 locs1 → W p l e R s m args below meth c H1 locs1 cells slots Q (F0 m (pc + 3) ls (.long (pr o) :: rest))) : W p l e R s m args below meth c H locs cells slots Q (F0 m pc ls st) := by
  have hF := fr_A hD hS hA
  refine va_calll hr hS (fun q _ h => hF q h) hF (fun r u t H1 locs1 ht hvm hw hB hz hk hS1 => ?_)
  have hw : r = pr u ∧ u = F := hw
  rw [hw.1]
  obtain ⟨hP1, -, hD1⟩ := hB
  rw [ht] at hP1
  exact kk u H1 locs1 hw.2 hP1 (hD1.weaken (fun k q hk h => hF q.1 h)) hS1
theorem cw_v {U : Type} {w : U → va_W} {F : U} (hr : va_Run p l e R s m args below meth c H locs cells slots 0 0 (F0 m pc ls st) rest (va_Qv (fun (u : U) => u = F) (fun u t => va_P D cl (w u) t.heap ∧ va_K D cl tys t ∧ va_D (va_A w0 H.size) (w u)) (va_A w0 H.size) a) (va_A w0 H.size)) (hA : ∀ q : Nat, s.heap.size ≤ q → A q) (hD : va_D A w0) (_hP : va_P D cl w0 H) (hS : va_S A s.heap H locs) (kk : ∀ (o : U) (H1 : Heap) (locs1 : List Loc), o = F → va_P D cl (w o) H1 → va_D A (w o) → va_S A s.heap H1 locs1 → W p l e R s m args below meth c H1 locs1 cells slots Q (F0 m (pc + 3) ls (rest))) : W p l e R s m args below meth c H locs cells slots Q (F0 m pc ls st) := by
  have hF := fr_A hD hS hA
  refine va_callv hr hS (fun q _ h => hF q h) hF (fun u t H1 locs1 ht hvm hw hB hz hk hS1 => ?_)
  have hw : u = F := hw
  obtain ⟨hP1, -, hD1⟩ := hB
  rw [ht] at hP1
  exact kk u H1 locs1 hw hP1 (hD1.weaken (fun k q hk h => hF q.1 h)) hS1
end
/-- an array's cell knows its contents below its length only -/
theorem vc_congr {cA : ClassId} {N : Nat} {f g : Nat → Int32} (h : ∀ j, j < N → f j = g j) : vp_cell cA (N, .inl f) = vp_cell cA (N, .inl g) := by
  show arrV cA N (fun j => .int (f j)) = arrV cA N (fun j => .int (g j))
  unfold arrV
  congr 1
  apply Array.ext
  · simp
  · intro i h1 h2
    simp only [Array.size_ofFn] at h1
    simp [h i h1]
/-- a loop at pc j, by a measure that falls -/
theorem lw_loop {p : Program} {l : Launch} {e : Env} {R : Room} {s : State} {m : MethodId} {args : Array Value} {below : List Frame} {meth : Method} {c : Code} {cells slots : Nat} {Q : State → Prop} {j : Nat} {st : List Value} {σ : Type} (Hp : σ → Heap) (Lc : σ → List Loc) (Ls : σ → Array Slot) (Inv : Nat → σ → Prop) (step : ∀ (n : Nat) (x : σ), Inv n x → (∀ (n' : Nat) (x' : σ), n' < n → Inv n' x' → W p l e R s m args below meth c (Hp x') (Lc x') cells slots Q (F0 m j (Ls x') st)) → W p l e R s m args below meth c (Hp x) (Lc x) cells slots Q (F0 m j (Ls x) st)) : ∀ (n : Nat) (x : σ), Inv n x → W p l e R s m args below meth c (Hp x) (Lc x) cells slots Q (F0 m j (Ls x) st) := by
  intro n
  induction n using Nat.strongRecOn with
  | _ n ih => exact fun x hx => step n x hx (fun n' x' hn hx' => ih n' hn x' hx')
