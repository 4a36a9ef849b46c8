theorem dw_mem {A : Nat → Prop} {h0 : Nat} {q_memory : Nat} {k_memory : ClassId} {v_atp : Int32} {v_vsAtp : Int32} {v_hgatp : Int32} {v_rights : Int32} {v_code : Int32} {v_found : Int64} {v_wanted : Int64} {v_ofEntry : Int32} {m_memory : Nat → Int32} {f : Nat → Int32} (h : va_D A (wm h0 q_memory k_memory v_atp v_vsAtp v_hgatp v_rights v_code v_found v_wanted v_ofEntry m_memory)) : va_D A (wm h0 q_memory k_memory v_atp v_vsAtp v_hgatp v_rights v_code v_found v_wanted v_ofEntry f) := by
  refine ⟨fun a b p q h1 h2 e => ?_, fun k q hk => ?_⟩
  · match a, b, h1, h2 with
    | 0, 0, _, _ => rfl
    | 0, 1, h1, h2 => cases h1; cases h2; exact h.1 0 1 _ _ rfl rfl e
    | 1, 0, h1, h2 => cases h1; cases h2; exact h.1 1 0 _ _ rfl rfl e
    | 1, 1, _, _ => rfl
    | a + 2, _, h1, _ => simp at h1
    | _, b + 2, _, h2 => simp at h2
  · match k, hk with
    | 0, hk => cases hk; exact h.2 0 _ rfl
    | 1, hk => cases hk; exact h.2 1 (q_memory, .inl (k_memory, 65536, .inl m_memory)) rfl
    | k + 2, hk => simp at hk
def fm_begin : Int32 × Int32 × Int32 × Int32 × Int32 × (Nat → Int32) := (0, 0, 0, 0, (-1), (fun _ => 0))
set_option maxHeartbeats 4000000 in
set_option maxRecDepth 100000 in
theorem ctm_begin (l : Launch) (dC : Nat → ClassId) (dI : Nat → Nat → Nat) (h0 : Nat) (q_memory : Nat) (k_memory : ClassId) (sz : Nat) (v_atp : Int32) (v_vsAtp : Int32) (v_hgatp : Int32) (v_rights : Int32) (v_code : Int32) (v_found : Int64) (v_wanted : Int64) (v_ofEntry : Int32) (m_memory : Nat → Int32) : MWv l yX1_begin wsX1_begin ({ frames := 0, cells := 0, slots := 0, locals := 0 }) (dC, dI) vwCl [(k_memory, .int)] [.ref h0] sz (wm h0 q_memory k_memory v_atp v_vsAtp v_hgatp v_rights v_code v_found v_wanted v_ofEntry m_memory) (fun u : Int32 × Int32 × Int32 × Int32 × Int32 × (Nat → Int32) => (wm h0 q_memory k_memory u.1 u.2.1 u.2.2.1 u.2.2.2.1 u.2.2.2.2.1 v_found v_wanted v_ofEntry u.2.2.2.2.2)) fm_begin := by
  refine Met.ofW (cc := cX1_begin) (maxL := 2) (ret := none) (by decide) rfl ?_
  intro p e s m args below meth c s₁ B hml hv
  obtain ⟨rfl, hsz, hP, hK, hD0⟩ := hv
  have hx := B.exec
  have hb := B.bytes
  have hr := B.returns
  have hts := atoms_spec (ws := wsX1_begin) B.pre
  have hown : s.vm.findClass RX1 = some m.cls := findClass_of_methodNamed B.named
  have hlocks := B.notSynchronized
  subst hsz
  have hwX : ∀ w ∈ u_ws RX1 TX1 9, w ∈ wsX1_begin := by decide +kernel
  have hD := hD0.self (sz := s.heap.size)
  generalize hAe : va_A (wm h0 q_memory k_memory v_atp v_vsAtp v_hgatp v_rights v_code v_found v_wanted v_ofEntry m_memory) s.heap.size = A at hD ⊢
  have hA : ∀ q : Nat, s.heap.size ≤ q → A q := fun q h => by rw [← hAe]; exact Or.inr h
  have hS : va_S A s.heap s.heap [] := va_S.rf
  have hP : va_P (dC, dI) vwCl (wm h0 q_memory k_memory v_atp v_vsAtp v_hgatp v_rights v_code v_found v_wanted v_ofEntry m_memory) s.heap := hP
  have hl := lv_entry ([.ref h0]) (n := 2) (Nat.le_of_ble_eq_true rfl)
  rw [lg_entry_eq]
  generalize (lg_sl ([.ref h0]) ++ List.replicate (2 - (lg_sl ([.ref h0])).length) Slot.unset).toArray = ls at hl ⊢
  have hl : lv_has ls 2 [(0, .ref h0)] := hl
  refine lv_iconst (v := 0) hx hb dX1_begin_0 (by decide) ?_
  refine lv_istore_n (lv' := [(1, .int 0), (0, .ref h0)]) hx hb dX1_begin_1 rfl hl (by decide) rfl (fun ls hl => ?_)
  refine lw_loop (σ := (Nat → Int32) × Heap × List Loc × Array Slot) (fun x => x.2.1) (fun x => x.2.2.1) (fun x => x.2.2.2) (fun n x => ∃ i : Nat, i + n = 65536 ∧ (∀ j, j < i → x.1 j = 0) ∧ va_P (dC, dI) vwCl (wm h0 q_memory k_memory v_atp v_vsAtp v_hgatp v_rights v_code v_found v_wanted v_ofEntry x.1) x.2.1 ∧ va_D A (wm h0 q_memory k_memory v_atp v_vsAtp v_hgatp v_rights v_code v_found v_wanted v_ofEntry x.1) ∧ va_S A s.heap x.2.1 x.2.2.1 ∧ lv_has x.2.2.2 2 [(1, .int (nI i)), (0, .ref h0)]) ?_ 65536 (m_memory, s.heap, [], ls) ⟨0, Nat.zero_add _, fun j hj => absurd hj (Nat.not_lt_zero j), hP, hD, hS, hl⟩
  intro n x hI ih
  obtain ⟨f, H, locs, ls⟩ := x
  obtain ⟨i, hin, hf, hP, hD, hS, hl⟩ := hI
  have hf : ∀ j, j < i → f j = 0 := hf
  have hP : va_P (dC, dI) vwCl (wm h0 q_memory k_memory v_atp v_vsAtp v_hgatp v_rights v_code v_found v_wanted v_ofEntry f) H := hP
  have hD : va_D A (wm h0 q_memory k_memory v_atp v_vsAtp v_hgatp v_rights v_code v_found v_wanted v_ofEntry f) := hD
  have hS : va_S A s.heap H locs := hS
  have hl : lv_has ls 2 [(1, .int (nI i)), (0, .ref h0)] := hl
  refine lv_iload_n hx hb dX1_begin_2 rfl (lv_at hl 0 rfl) ?_
  refine lv_ldc hx hb hown (hts (.constant RX1 7 65536) (by decide +kernel)) dX1_begin_3 ?_
  refine lv_icmp_ge (tgt := 21) hx hb dX1_begin_5 (by decide) (fun c_5 => ?_) (fun c_5 => ?_)
  · have hi : i = 65536 := by
      have := (nI_leI (a := 65536) (b := i) (by decide) (by omega)).mp c_5
      omega
    have hP : va_P (dC, dI) vwCl (wm h0 q_memory k_memory v_atp v_vsAtp v_hgatp v_rights v_code v_found v_wanted v_ofEntry ((fun _ => 0))) H := by
      intro k q hk
      match k, hk with
      | 0, hk => cases hk; exact hP 0 _ rfl
      | 1, hk =>
        cases hk
        have := hP 1 _ rfl
        show H[q_memory]? = some (vp_cell k_memory (65536, .inl (fun _ => 0)))
        rw [← vc_congr (f := f) (g := fun _ => 0) (fun j hj => hf j (by omega))]
        exact this
      | k + 2, hk => simp at hk
    have hD : va_D A (wm h0 q_memory k_memory v_atp v_vsAtp v_hgatp v_rights v_code v_found v_wanted v_ofEntry ((fun _ => 0))) := dw_mem hD
    refine lv_aload_n hx hb dX1_begin_21 rfl (lv_at hl 1 rfl) ?_
    refine lv_iconst (v := 0) hx hb dX1_begin_22 (by decide) ?_
    refine va_put (D := (dC, dI)) (ci := 1) (v := .int 0) (ty := .int) (C := RX1) (T := TX1) (N := 9) hx hb hts hwX tyX1 tyX1_ok nmX1 hown hK hP hD hS 0 rfl rfl 1 (by decide) (hts (.fieldLink RX1 18 "StageWalkerModel" "atp" "I") (by decide +kernel)) (fun _ h9 => h9) rfl (by decide +kernel) rfl rfl (Nat.le_of_ble_eq_true rfl) dX1_begin_23 (fun H locs hP hD hS => ?_)
    have hP : va_P (dC, dI) vwCl (wm h0 q_memory k_memory 0 v_vsAtp v_hgatp v_rights v_code v_found v_wanted v_ofEntry ((fun _ => 0))) H := hP
    have hD : va_D A (wm h0 q_memory k_memory 0 v_vsAtp v_hgatp v_rights v_code v_found v_wanted v_ofEntry ((fun _ => 0))) := hD
    refine lv_aload_n hx hb dX1_begin_26 rfl (lv_at hl 1 rfl) ?_
    refine lv_iconst (v := 0) hx hb dX1_begin_27 (by decide) ?_
    refine va_put (D := (dC, dI)) (ci := 1) (v := .int 0) (ty := .int) (C := RX1) (T := TX1) (N := 9) hx hb hts hwX tyX1 tyX1_ok nmX1 hown hK hP hD hS 0 rfl rfl 2 (by decide) (hts (.fieldLink RX1 21 "StageWalkerModel" "vsAtp" "I") (by decide +kernel)) (fun _ h9 => h9) rfl (by decide +kernel) rfl rfl (Nat.le_of_ble_eq_true rfl) dX1_begin_28 (fun H locs hP hD hS => ?_)
    have hP : va_P (dC, dI) vwCl (wm h0 q_memory k_memory 0 0 v_hgatp v_rights v_code v_found v_wanted v_ofEntry ((fun _ => 0))) H := hP
    have hD : va_D A (wm h0 q_memory k_memory 0 0 v_hgatp v_rights v_code v_found v_wanted v_ofEntry ((fun _ => 0))) := hD
    refine lv_aload_n hx hb dX1_begin_31 rfl (lv_at hl 1 rfl) ?_
    refine lv_iconst (v := 0) hx hb dX1_begin_32 (by decide) ?_
    refine va_put (D := (dC, dI)) (ci := 1) (v := .int 0) (ty := .int) (C := RX1) (T := TX1) (N := 9) hx hb hts hwX tyX1 tyX1_ok nmX1 hown hK hP hD hS 0 rfl rfl 3 (by decide) (hts (.fieldLink RX1 24 "StageWalkerModel" "hgatp" "I") (by decide +kernel)) (fun _ h9 => h9) rfl (by decide +kernel) rfl rfl (Nat.le_of_ble_eq_true rfl) dX1_begin_33 (fun H locs hP hD hS => ?_)
    have hP : va_P (dC, dI) vwCl (wm h0 q_memory k_memory 0 0 0 v_rights v_code v_found v_wanted v_ofEntry ((fun _ => 0))) H := hP
    have hD : va_D A (wm h0 q_memory k_memory 0 0 0 v_rights v_code v_found v_wanted v_ofEntry ((fun _ => 0))) := hD
    refine lv_aload_n hx hb dX1_begin_36 rfl (lv_at hl 1 rfl) ?_
    refine lv_iconst (v := 0) hx hb dX1_begin_37 (by decide) ?_
    refine va_put (D := (dC, dI)) (ci := 1) (v := .int 0) (ty := .int) (C := RX1) (T := TX1) (N := 9) hx hb hts hwX tyX1 tyX1_ok nmX1 hown hK hP hD hS 0 rfl rfl 4 (by decide) (hts (.fieldLink RX1 27 "StageWalkerModel" "rights" "I") (by decide +kernel)) (fun _ h9 => h9) rfl (by decide +kernel) rfl rfl (Nat.le_of_ble_eq_true rfl) dX1_begin_38 (fun H locs hP hD hS => ?_)
    have hP : va_P (dC, dI) vwCl (wm h0 q_memory k_memory 0 0 0 0 v_code v_found v_wanted v_ofEntry ((fun _ => 0))) H := hP
    have hD : va_D A (wm h0 q_memory k_memory 0 0 0 0 v_code v_found v_wanted v_ofEntry ((fun _ => 0))) := hD
    refine lv_aload_n hx hb dX1_begin_41 rfl (lv_at hl 1 rfl) ?_
    refine lv_iconst (v := -1) hx hb dX1_begin_42 (by decide) ?_
    refine va_put (D := (dC, dI)) (ci := 1) (v := .int ((-1))) (ty := .int) (C := RX1) (T := TX1) (N := 9) hx hb hts hwX tyX1 tyX1_ok nmX1 hown hK hP hD hS 0 rfl rfl 5 (by decide) (hts (.fieldLink RX1 14 "StageWalkerModel" "code" "I") (by decide +kernel)) (fun _ h9 => h9) rfl (by decide +kernel) rfl rfl (Nat.le_of_ble_eq_true rfl) dX1_begin_43 (fun H locs hP hD hS => ?_)
    have hP : va_P (dC, dI) vwCl (wm h0 q_memory k_memory 0 0 0 0 ((-1)) v_found v_wanted v_ofEntry ((fun _ => 0))) H := hP
    have hD : va_D A (wm h0 q_memory k_memory 0 0 0 0 ((-1)) v_found v_wanted v_ofEntry ((fun _ => 0))) := hD
    exact W.vret hx hb hr (fun t ht hW => ⟨⟨(0, 0, 0, 0, (-1), (fun _ => 0)), rfl, by rfl, by rw [ht]; exact hP, va_K.moved hW.alike hK, hD⟩, hS.F ht⟩) hS.2.2 dX1_begin_46
  · have hi : i < 65536 := by
      rcases Nat.lt_or_ge i 65536 with q | q
      · exact q
      · exact absurd ((nI_leI (a := 65536) (b := i) (by decide) (by omega)).mpr q) c_5
    refine lv_aload_n hx hb dX1_begin_8 rfl (lv_at hl 1 rfl) ?_
    refine va_get (D := (dC, dI)) (ci := 1) (v := .ref q_memory) (C := RX1) (T := TX1) (N := 9) hx hb hts hwX hown hK hP 0 rfl rfl 0 (by decide) (hts (.fieldLink RX1 8 "StageWalkerModel" "memory" "[I") (by decide +kernel)) (fun _ h9 => h9) rfl dX1_begin_9 ?_
    refine lv_iload_n hx hb dX1_begin_12 rfl (lv_at hl 0 rfl) ?_
    refine lv_iconst (v := 0) hx hb dX1_begin_13 (by decide) ?_
    refine va_iast (cA := k_memory) (f := f) hx hb hK hP hD hS 1 0 rfl rfl (i := nI i) (x := 0) (vp_in_nI hi (by decide)) dX1_begin_14 (fun H locs hP hD hS => ?_)
    have hcl : (nI i).toNatClampNeg = i := nI_clamp (by omega)
    rw [hcl] at hP hD
    have hP : va_P (dC, dI) vwCl (wm h0 q_memory k_memory v_atp v_vsAtp v_hgatp v_rights v_code v_found v_wanted v_ofEntry ((upd f i 0))) H := hP
    have hD : va_D A (wm h0 q_memory k_memory v_atp v_vsAtp v_hgatp v_rights v_code v_found v_wanted v_ofEntry ((upd f i 0))) := hD
    refine lv_iinc (v := nI (i + 1)) (lv' := [(1, .int (nI (i + 1))), (0, .ref h0)]) hx hb dX1_begin_15 hl (k := 0) rfl (nI_1 i) (by decide) rfl (fun ls hl => ?_)
    refine lv_goto (tgt := 2) hx hb dX1_begin_18 (by decide) ?_
    exact ih (n - 1) (upd f i 0, H, locs, ls) (by omega) ⟨i + 1, by omega, fun j hj => by
      show upd f i 0 j = 0
      unfold upd
      by_cases h : j = i
      · rw [if_pos h]
      · rw [if_neg h]; exact hf j (by omega), hP, hD, hS, hl⟩
set_option maxHeartbeats 4000000 in
set_option maxRecDepth 100000 in
theorem ctm_init (l : Launch) (dC : Nat → ClassId) (dI : Nat → Nat → Nat) (h0 : Nat) (sz : Nat) : Met l yX1_init wsX1_init ({ frames := 1, cells := 1, slots := 65536, locals := 20 }) (va_Pc [.ref h0] (fun U => U.heap.size = sz ∧ va_P (dC, dI) vwCl [(h0, .inr (1, [.null, .int 0, .int 0, .int 0, .int 0, .int 0, .long 0, .long 0, .int 0]))] U.heap ∧ va_K (dC, dI) vwCl [] U ∧ va_D (fun _ => True) [(h0, .inr (1, [.null, .int 0, .int 0, .int 0, .int 0, .int 0, .long 0, .long 0, .int 0]))])) (va_Qv (fun (_ : Nat × ClassId) => True) (fun u t => va_P (dC, dI) vwCl (wm h0 u.1 u.2 0 0 0 0 (-1) 0 0 0 (fun _ => 0)) t.heap ∧ va_K (dC, dI) vwCl [(u.2, .int)] t ∧ va_D (va_A [(h0, .inr (1, [.null, .int 0, .int 0, .int 0, .int 0, .int 0, .long 0, .long 0, .int 0]))] sz) (wm h0 u.1 u.2 0 0 0 0 (-1) 0 0 0 (fun _ => 0))) (va_A [(h0, .inr (1, [.null, .int 0, .int 0, .int 0, .int 0, .int 0, .long 0, .long 0, .int 0]))] sz)) 1 65536 (va_A [(h0, .inr (1, [.null, .int 0, .int 0, .int 0, .int 0, .int 0, .long 0, .long 0, .int 0]))] sz) := by
  refine Met.ofW (cc := cX1_init) (maxL := 1) (ret := none) (by decide) rfl ?_
  intro p e s m args below meth c s₁ B hml hv
  obtain ⟨rfl, hsz, hP, hK, hD0⟩ := hv
  have hx := B.exec
  have hb := B.bytes
  have hr := B.returns
  have hts := atoms_spec (ws := wsX1_init) B.pre
  have hown : s.vm.findClass RX1 = some m.cls := findClass_of_methodNamed B.named
  have hlocks := B.notSynchronized
  have hin : meth.name = "<init>" := (name_of_methodNamed B.named B.method).1
  subst hsz
  have hwX : ∀ w ∈ u_ws RX1 TX1 9, w ∈ wsX1_init := by decide +kernel
  have hD := hD0.self (sz := s.heap.size)
  generalize hAe : va_A [(h0, .inr (1, [.null, .int 0, .int 0, .int 0, .int 0, .int 0, .long 0, .long 0, .int 0]))] s.heap.size = A at hD ⊢
  have hA : ∀ q : Nat, s.heap.size ≤ q → A q := fun q h => by rw [← hAe]; exact Or.inr h
  have hS : va_S A s.heap s.heap [] := va_S.rf
  have hP : va_P (dC, dI) vwCl [(h0, .inr (1, [.null, .int 0, .int 0, .int 0, .int 0, .int 0, .long 0, .long 0, .int 0]))] s.heap := hP
  have hl := lv_entry ([.ref h0]) (n := 1) (Nat.le_of_ble_eq_true rfl)
  rw [lg_entry_eq]
  generalize (lg_sl ([.ref h0]) ++ List.replicate (1 - (lg_sl ([.ref h0])).length) Slot.unset).toArray = ls at hl ⊢
  have hl : lv_has ls 1 [(0, .ref h0)] := hl
  refine lv_aload_n hx hb dX1_init_0 rfl (lv_at hl 0 rfl) ?_
  refine W.objInit hx hb hown (hts (.methodLink RX1 1 objectInit) (by decide +kernel)) (hts (.instanceMethod objectInit) (by decide +kernel)) (hts _ (List.mem_cons_of_mem _ (List.mem_append_left _ (List.mem_of_getElem? (i := 2) rfl)))) rfl (by rw [hml]; exact hl.1) rfl dX1_init_1 (Nat.le_of_ble_eq_true rfl) (Nat.le_of_ble_eq_true rfl) ?_
  refine W.eq (g2 := F0 m 4 ls []) rfl ?_
  refine lv_aload_n hx hb dX1_init_4 rfl (lv_at hl 0 rfl) ?_
  refine lv_ldc hx hb hown (hts (.constant RX1 7 65536) (by decide +kernel)) dX1_init_5 ?_
  refine va_newa (atype := .int) (ty := .int) (N' := 65536) (a0 := (65536, .inl (fun _ => 0))) hx hb (hts (.arrayClass .int) (by decide +kernel)) rfl hK hP hD hS hA (fun cA => vc_zero cA 65536) (by decide) (by decide) (by decide) (show 0 + 1 ≤ 1 from Nat.le_refl _) (show 0 + 65536 ≤ 65536 from Nat.le_refl _) dX1_init_7 (fun q5 k5 H hK hP hD hS => ?_)
  have hP : va_P (dC, dI) vwCl [(h0, .inr (1, [.null, .int 0, .int 0, .int 0, .int 0, .int 0, .long 0, .long 0, .int 0])), (q5, .inl (k5, 65536, .inl (fun _ => 0)))] H := hP
  have hD : va_D A [(h0, .inr (1, [.null, .int 0, .int 0, .int 0, .int 0, .int 0, .long 0, .long 0, .int 0])), (q5, .inl (k5, 65536, .inl (fun _ => 0)))] := hD
  have hK : va_K (dC, dI) vwCl [(k5, .int)] s := hK
  refine W.widen (k := 1) (n := 65536) (show 0 + 1 ≤ 1 from Nat.le_refl _) (show 0 + 65536 ≤ 65536 from Nat.le_refl _) ?_
  refine va_putF (D := (dC, dI)) (ci := 1) (v := .ref q5) (ty := .array .int) (C := RX1) (T := TX1) (N := 9) hx hb hts hwX tyX1 tyX1_ok nmX1 hown hK hP hD hS 0 rfl rfl 0 (by decide) (hts (.fieldLink RX1 8 "StageWalkerModel" "memory" "[I") (by decide +kernel)) (fun _ h9 => h9) rfl hin rfl (by decide +kernel) rfl rfl (Nat.le_of_ble_eq_true rfl) dX1_init_9 (fun H locs hP hD hS => ?_)
  have hP : va_P (dC, dI) vwCl [(h0, .inr (1, [.ref q5, .int 0, .int 0, .int 0, .int 0, .int 0, .long 0, .long 0, .int 0])), (q5, .inl (k5, 65536, .inl (fun _ => 0)))] H := hP
  have hD : va_D A [(h0, .inr (1, [.ref q5, .int 0, .int 0, .int 0, .int 0, .int 0, .long 0, .long 0, .int 0])), (q5, .inl (k5, 65536, .inl (fun _ => 0)))] := hD
  refine lv_aload_n hx hb dX1_init_12 rfl (lv_at hl 0 rfl) ?_
  refine lv_iconst (v := -1) hx hb dX1_init_13 (by decide) ?_
  refine va_put (D := (dC, dI)) (ci := 1) (v := .int (-1)) (ty := .int) (C := RX1) (T := TX1) (N := 9) hx hb hts hwX tyX1 tyX1_ok nmX1 hown hK hP hD hS 0 rfl rfl 5 (by decide) (hts (.fieldLink RX1 14 "StageWalkerModel" "code" "I") (by decide +kernel)) (fun _ h9 => h9) rfl (by decide +kernel) rfl rfl (Nat.le_of_ble_eq_true rfl) dX1_init_14 (fun H locs hP hD hS => ?_)
  have hP : va_P (dC, dI) vwCl [(h0, .inr (1, [.ref q5, .int 0, .int 0, .int 0, .int 0, .int (-1), .long 0, .long 0, .int 0])), (q5, .inl (k5, 65536, .inl (fun _ => 0)))] H := hP
  have hD : va_D A [(h0, .inr (1, [.ref q5, .int 0, .int 0, .int 0, .int 0, .int (-1), .long 0, .long 0, .int 0])), (q5, .inl (k5, 65536, .inl (fun _ => 0)))] := hD
  exact W.vret hx hb hr (fun t ht hW => ⟨⟨(q5, k5), rfl, trivial, by rw [ht]; exact hP, va_K.moved hW.alike hK, hD⟩, hS.F ht⟩) hS.2.2 dX1_init_17
