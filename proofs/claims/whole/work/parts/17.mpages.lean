def fm_pl (v_atp : Int32) (v_vsAtp : Int32) (v_hgatp : Int32) (v_rights : Int32) (m_memory : Nat → Int32) (a0 a1 n : Int32) : Nat → Int32 → Int32 → Int64 → Int32
  | 0, _, cn, _ => cn
  | f + 1, k, cn, a => if n ≤ k then cn else if 4294967295 < a then cn else if (fm_go v_atp v_vsAtp v_hgatp v_rights m_memory a0 a1 a.toInt32).1 = 0 then fm_pl v_atp v_vsAtp v_hgatp v_rights m_memory a0 a1 n f (k + 1) (cn + 1) (a + 4096) else fm_pl v_atp v_vsAtp v_hgatp v_rights m_memory a0 a1 n f (k + 1) cn (a + 4096)
theorem fm_pl_s (v_atp : Int32) (v_vsAtp : Int32) (v_hgatp : Int32) (v_rights : Int32) (m_memory : Nat → Int32) (a0 a1 n : Int32) (f : Nat) (k cn : Int32) (a : Int64) : fm_pl v_atp v_vsAtp v_hgatp v_rights m_memory a0 a1 n (f + 1) k cn a = (if n ≤ k then cn else if 4294967295 < a then cn else if (fm_go v_atp v_vsAtp v_hgatp v_rights m_memory a0 a1 a.toInt32).1 = 0 then fm_pl v_atp v_vsAtp v_hgatp v_rights m_memory a0 a1 n f (k + 1) (cn + 1) (a + 4096) else fm_pl v_atp v_vsAtp v_hgatp v_rights m_memory a0 a1 n f (k + 1) cn (a + 4096)) := rfl
def fm_pages (v_atp : Int32) (v_vsAtp : Int32) (v_hgatp : Int32) (v_rights : Int32) (v_code : Int32) (v_found : Int64) (v_wanted : Int64) (v_ofEntry : Int32) (m_memory : Nat → Int32) (a0 : Int32) (a1 : Int32) (a2 : Int32) (a3 : Int32) : Int32 × Int32 × Int64 × Int64 × Int32 := if ((fm_isKind a0 a1)) = 0 then ((-1), v_code, v_found, v_wanted, v_ofEntry) else if a3 < 1 then ((-1), v_code, v_found, v_wanted, v_ofEntry) else if a3 ≤ 1024 then (fm_pl v_atp v_vsAtp v_hgatp v_rights m_memory a0 a1 a3 (a3.toNatClampNeg + 1) 0 0 (a2.toInt64 &&& 4294967295), v_code, v_found, v_wanted, v_ofEntry) else ((-1), v_code, v_found, v_wanted, v_ofEntry)
set_option maxHeartbeats 4000000 in
set_option maxRecDepth 100000 in
theorem ctm_pages (l : Launch) (dC : Nat → ClassId) (dI : Nat → Nat → Nat) (h0 : Nat) (q_memory : Nat) (k_memory : ClassId) (sz : Nat) (v_atp : Int32) (v_vsAtp : Int32) (v_hgatp : Int32) (v_rights : Int32) (v_code : Int32) (v_found : Int64) (v_wanted : Int64) (v_ofEntry : Int32) (m_memory : Nat → Int32) (a0 : Int32) (a1 : Int32) (a2 : Int32) (a3 : Int32) (hf_ofEntry : v_ofEntry = 0 ∨ v_ofEntry = 1) : MWi l yX1_pages wsX1_pages ({ frames := 5, cells := 0, slots := 0, locals := 145 }) (dC, dI) vwCl [(k_memory, .int)] [.ref h0, .int a0, .int a1, .int a2, .int a3] sz (wm h0 q_memory k_memory v_atp v_vsAtp v_hgatp v_rights v_code v_found v_wanted v_ofEntry m_memory) (fun u : Int32 × Int32 × Int64 × Int64 × Int32 => (wm h0 q_memory k_memory v_atp v_vsAtp v_hgatp v_rights u.2.1 u.2.2.1 u.2.2.2.1 u.2.2.2.2 m_memory)) (fun u : Int32 × Int32 × Int64 × Int64 × Int32 => u.1) (fm_pages v_atp v_vsAtp v_hgatp v_rights v_code v_found v_wanted v_ofEntry m_memory a0 a1 a2 a3) := by
  refine Met.ofW (cc := cX1_pages) (maxL := 15) (ret := (some .int)) (by decide) rfl ?_
  intro p e s m args below meth c s₁ B hml hv
  obtain ⟨rfl, hsz, hP, hK, hD0⟩ := hv
  have hx := B.exec
  have hb := B.bytes
  have hr := B.returns
  have hts := atoms_spec (ws := wsX1_pages) B.pre
  have hown : s.vm.findClass RX1 = some m.cls := findClass_of_methodNamed B.named
  have hlocks := B.notSynchronized
  subst hsz
  have hwX : ∀ w ∈ u_ws RX1 TX1 9, w ∈ wsX1_pages := by decide +kernel
  have hD := hD0.self (sz := s.heap.size)
  generalize hAe : va_A (wm h0 q_memory k_memory v_atp v_vsAtp v_hgatp v_rights v_code v_found v_wanted v_ofEntry m_memory) s.heap.size = A at hD ⊢
  have hA : ∀ q : Nat, s.heap.size ≤ q → A q := fun q h => by rw [← hAe]; exact Or.inr h
  have hS : va_S A s.heap s.heap [] := va_S.rf
  have hP : va_P (dC, dI) vwCl (wm h0 q_memory k_memory v_atp v_vsAtp v_hgatp v_rights v_code v_found v_wanted v_ofEntry m_memory) s.heap := hP
  have hl := lv_entry ([.ref h0, .int a0, .int a1, .int a2, .int a3]) (n := 15) (Nat.le_of_ble_eq_true rfl)
  rw [lg_entry_eq]
  generalize (lg_sl ([.ref h0, .int a0, .int a1, .int a2, .int a3]) ++ List.replicate (15 - (lg_sl ([.ref h0, .int a0, .int a1, .int a2, .int a3])).length) Slot.unset).toArray = ls at hl ⊢
  have hl : lv_has ls 15 [(0, .ref h0), (1, .int a0), (2, .int a1), (3, .int a2), (4, .int a3)] := hl
  refine lv_iload_n hx hb dX1_pages_0 rfl (lv_at hl 1 rfl) ?_
  refine lv_iload_n hx hb dX1_pages_1 rfl (lv_at hl 2 rfl) ?_
  refine cs_i (va_runS (As := [.int a0, .int a1]) (rest := []) ⟨hx, hb, hml, hown, hts⟩ (ctm_isKind l s.heap.size a0 a1) (va_cwS 2 hts gX1_pages_X1_isKind rfl rfl rfl (by decide +kernel) ⟨Nat.le_of_ble_eq_true rfl, Nat.le_of_ble_eq_true rfl⟩) ⟨fun a U g mk q => q, fun U hU hW => ⟨rfl, congrArg Array.size hU⟩⟩ rfl rfl hl.1 rfl (lv_room (Nat.le_of_ble_eq_true rfl)) dX1_pages_2 ⟨Nat.zero_le _, Nat.zero_le _⟩) hA hP hS (fun H locs hP hS => ?_)
  refine lv_if_eq (tgt := 22) hx hb dX1_pages_5 (by decide) (fun c_5 => ?_) (fun c_5 => ?_)
  · skip
    refine lv_iconst (v := -1) hx hb dX1_pages_22 (by decide) ?_
    exact W.iret (v := (-1)) hx hb hr (fun t ht hW => ⟨⟨_, ((-1), v_code, v_found, v_wanted, v_ofEntry), rfl, ⟨rfl, by first | (rw [fm_pages, if_pos c_5]; done) | (simp only [fm_pages, if_pos c_5]; done) | (rw [fm_pages, if_pos c_5] <;> rfl)⟩, by rw [ht]; exact hP, va_K.moved hW.alike hK, hD⟩, hS.F ht⟩) hS.2.2 dX1_pages_23
  · skip
    refine lv_iload hx hb dX1_pages_8 (lv_at hl 4 rfl) ?_
    refine lv_iconst (v := 1) hx hb dX1_pages_10 (by decide) ?_
    refine lv_icmp_lt (tgt := 22) hx hb dX1_pages_11 (by decide) (fun c_11 => ?_) (fun c_11 => ?_)
    · skip
      refine lv_iconst (v := -1) hx hb dX1_pages_22 (by decide) ?_
      exact W.iret (v := (-1)) hx hb hr (fun t ht hW => ⟨⟨_, ((-1), v_code, v_found, v_wanted, v_ofEntry), rfl, ⟨rfl, by first | (rw [fm_pages, if_neg c_5, if_pos c_11]; done) | (simp only [fm_pages, if_neg c_5, if_pos c_11]; done) | (rw [fm_pages, if_neg c_5, if_pos c_11] <;> rfl)⟩, by rw [ht]; exact hP, va_K.moved hW.alike hK, hD⟩, hS.F ht⟩) hS.2.2 dX1_pages_23
    · skip
      refine lv_iload hx hb dX1_pages_14 (lv_at hl 4 rfl) ?_
      refine lv_sipush (v := 1024) hx hb dX1_pages_16 (by decide) ?_
      refine lv_icmp_le (tgt := 24) hx hb dX1_pages_19 (by decide) (fun c_19 => ?_) (fun c_19 => ?_)
      · skip
        refine lv_aload_n hx hb dX1_pages_24 rfl (lv_at hl 0 rfl) ?_
        refine va_get (D := (dC, dI)) (ci := 1) (v := .int v_code) (C := RX1) (T := TX1) (N := 9) hx hb hts hwX hown hK hP 0 rfl rfl 5 (by decide) (hts (.fieldLink RX1 14 "StageWalkerModel" "code" "I") (by decide +kernel)) (fun _ h9 => h9) rfl dX1_pages_25 ?_
        refine lv_istore (lv' := [(5, .int v_code), (0, .ref h0), (1, .int a0), (2, .int a1), (3, .int a2), (4, .int a3)]) hx hb dX1_pages_28 hl (by decide) rfl (fun ls hl => ?_)
        refine lv_aload_n hx hb dX1_pages_30 rfl (lv_at hl 1 rfl) ?_
        refine va_get (D := (dC, dI)) (ci := 1) (v := .long v_found) (C := RX1) (T := TX1) (N := 9) hx hb hts hwX hown hK hP 0 rfl rfl 6 (by decide) (hts (.fieldLink RX1 96 "StageWalkerModel" "found" "J") (by decide +kernel)) (fun _ h9 => h9) rfl dX1_pages_31 ?_
        refine lv_lstore (lv' := [(6, .long v_found), (5, .int v_code), (0, .ref h0), (1, .int a0), (2, .int a1), (3, .int a2), (4, .int a3)]) hx hb dX1_pages_34 hl (by decide) rfl (fun ls hl => ?_)
        refine lv_aload_n hx hb dX1_pages_36 rfl (lv_at hl 2 rfl) ?_
        refine va_get (D := (dC, dI)) (ci := 1) (v := .long v_wanted) (C := RX1) (T := TX1) (N := 9) hx hb hts hwX hown hK hP 0 rfl rfl 7 (by decide) (hts (.fieldLink RX1 73 "StageWalkerModel" "wanted" "J") (by decide +kernel)) (fun _ h9 => h9) rfl dX1_pages_37 ?_
        refine lv_lstore (lv' := [(8, .long v_wanted), (6, .long v_found), (5, .int v_code), (0, .ref h0), (1, .int a0), (2, .int a1), (3, .int a2), (4, .int a3)]) hx hb dX1_pages_40 hl (by decide) rfl (fun ls hl => ?_)
        refine lv_aload_n hx hb dX1_pages_42 rfl (lv_at hl 3 rfl) ?_
        refine va_get (D := (dC, dI)) (ci := 1) (v := .int v_ofEntry) (C := RX1) (T := TX1) (N := 9) hx hb hts hwX hown hK hP 0 rfl rfl 8 (by decide) (hts (.fieldLink RX1 77 "StageWalkerModel" "ofEntry" "Z") (by decide +kernel)) (fun _ h9 => h9) rfl dX1_pages_43 ?_
        refine lv_istore (lv' := [(10, .int v_ofEntry), (8, .long v_wanted), (6, .long v_found), (5, .int v_code), (0, .ref h0), (1, .int a0), (2, .int a1), (3, .int a2), (4, .int a3)]) hx hb dX1_pages_46 hl (by decide) rfl (fun ls hl => ?_)
        refine lv_iconst (v := 0) hx hb dX1_pages_48 (by decide) ?_
        refine lv_istore (lv' := [(11, .int 0), (10, .int v_ofEntry), (8, .long v_wanted), (6, .long v_found), (5, .int v_code), (0, .ref h0), (1, .int a0), (2, .int a1), (3, .int a2), (4, .int a3)]) hx hb dX1_pages_49 hl (by decide) rfl (fun ls hl => ?_)
        refine lv_iload_n hx hb dX1_pages_51 rfl (lv_at hl 8 rfl) ?_
        refine lv_i2l (v := a2.toInt64) hx hb dX1_pages_52 rfl ?_
        refine lv_ldc2 hx hb hown (hts (.constantLong RX1 90 4294967295) (by decide +kernel)) dX1_pages_53 ?_
        refine lv_land hx hb dX1_pages_56 ?_
        refine lv_topl (fun z_1 ez_1 => ?_)
        refine lv_lstore (lv' := [(12, .long z_1), (11, .int 0), (10, .int v_ofEntry), (8, .long v_wanted), (6, .long v_found), (5, .int v_code), (0, .ref h0), (1, .int a0), (2, .int a1), (3, .int a2), (4, .int a3)]) hx hb dX1_pages_57 hl (by decide) rfl (fun ls hl => ?_)
        refine lv_iconst (v := 0) hx hb dX1_pages_59 (by decide) ?_
        refine lv_istore (lv' := [(14, .int 0), (12, .long z_1), (11, .int 0), (10, .int v_ofEntry), (8, .long v_wanted), (6, .long v_found), (5, .int v_code), (0, .ref h0), (1, .int a0), (2, .int a1), (3, .int a2), (4, .int a3)]) hx hb dX1_pages_60 hl (by decide) rfl (fun ls hl => ?_)
        obtain ⟨N, hN1, hN2, eN⟩ := pg_N c_11 (fun h => absurd (show (1024 : Int32) < a3 from h) (Int32.not_lt.mpr c_19))
        refine lw_loop (σ := (Int32 × Int32 × Int64 × Int32 × Int64 × Int64 × Int32) × Heap × List Loc × Array Slot) (fun x => x.2.1) (fun x => x.2.2.1) (fun x => x.2.2.2) (fun n x => ∃ i : Nat, i + n = N ∧ x.1.1 = nI i ∧ fm_pl v_atp v_vsAtp v_hgatp v_rights m_memory a0 a1 a3 (n + 1) x.1.1 x.1.2.1 x.1.2.2.1 = fm_pl v_atp v_vsAtp v_hgatp v_rights m_memory a0 a1 a3 (N + 1) 0 0 z_1 ∧ va_P (dC, dI) vwCl (wm h0 q_memory k_memory v_atp v_vsAtp v_hgatp v_rights x.1.2.2.2.1 x.1.2.2.2.2.1 x.1.2.2.2.2.2.1 x.1.2.2.2.2.2.2 m_memory) x.2.1 ∧ va_D A (wm h0 q_memory k_memory v_atp v_vsAtp v_hgatp v_rights x.1.2.2.2.1 x.1.2.2.2.2.1 x.1.2.2.2.2.2.1 x.1.2.2.2.2.2.2 m_memory) ∧ va_S A s.heap x.2.1 x.2.2.1 ∧ lv_has x.2.2.2 15 [(14, .int x.1.1), (12, .long x.1.2.2.1), (11, .int x.1.2.1), (10, .int v_ofEntry), (8, .long v_wanted), (6, .long v_found), (5, .int v_code), (0, .ref h0), (1, .int a0), (2, .int a1), (3, .int a2), (4, .int a3)]) ?_ N ((0, 0, z_1, v_code, v_found, v_wanted, v_ofEntry), H, locs, ls) ⟨0, Nat.zero_add N, nI_0.symm, rfl, hP, hD, hS, hl⟩
        intro n x hI ih
        obtain ⟨⟨xk, xc, xa, y1, y2, y3, y4⟩, H, locs, ls⟩ := x
        obtain ⟨i, hin, exk, hfp, hP, hD, hS, hl⟩ := hI
        have exk : xk = nI i := exk
        have hfp : fm_pl v_atp v_vsAtp v_hgatp v_rights m_memory a0 a1 a3 (n + 1) xk xc xa = fm_pl v_atp v_vsAtp v_hgatp v_rights m_memory a0 a1 a3 (N + 1) 0 0 z_1 := hfp
        have hP : va_P (dC, dI) vwCl (wm h0 q_memory k_memory v_atp v_vsAtp v_hgatp v_rights y1 y2 y3 y4 m_memory) H := hP
        have hD : va_D A (wm h0 q_memory k_memory v_atp v_vsAtp v_hgatp v_rights y1 y2 y3 y4 m_memory) := hD
        have hS : va_S A s.heap H locs := hS
        have hl : lv_has ls 15 [(14, .int xk), (12, .long xa), (11, .int xc), (10, .int v_ofEntry), (8, .long v_wanted), (6, .long v_found), (5, .int v_code), (0, .ref h0), (1, .int a0), (2, .int a1), (3, .int a2), (4, .int a3)] := hl
        refine lv_iload hx hb dX1_pages_62 (lv_at hl 0 rfl) ?_
        refine lv_iload hx hb dX1_pages_64 (lv_at hl 11 rfl) ?_
        refine lv_icmp_ge (tgt := 119) hx hb dX1_pages_66 (by decide) (fun c_66 => ?_) (fun c_66 => ?_)
        · skip
          refine lv_aload_n hx hb dX1_pages_119 rfl (lv_at hl 7 rfl) ?_
          refine lv_iload hx hb dX1_pages_120 (lv_at hl 6 rfl) ?_
          refine va_put (D := (dC, dI)) (ci := 1) (v := .int v_code) (ty := .int) (C := RX1) (T := TX1) (N := 9) hx hb hts hwX tyX1 tyX1_ok nmX1 hown hK hP hD hS 0 rfl rfl 5 (by decide) (hts (.fieldLink RX1 14 "StageWalkerModel" "code" "I") (by decide +kernel)) (fun _ h9 => h9) rfl (by decide +kernel) rfl rfl (Nat.le_of_ble_eq_true rfl) dX1_pages_122 (fun H locs hP hD hS => ?_)
          have hP : va_P (dC, dI) vwCl (wm h0 q_memory k_memory v_atp v_vsAtp v_hgatp v_rights v_code y2 y3 y4 m_memory) H := hP
          have hD : va_D A (wm h0 q_memory k_memory v_atp v_vsAtp v_hgatp v_rights v_code y2 y3 y4 m_memory) := hD
          refine lv_aload_n hx hb dX1_pages_125 rfl (lv_at hl 7 rfl) ?_
          refine lv_lload hx hb dX1_pages_126 (lv_at hl 5 rfl) ?_
          refine va_put (D := (dC, dI)) (ci := 1) (v := .long v_found) (ty := .long) (C := RX1) (T := TX1) (N := 9) hx hb hts hwX tyX1 tyX1_ok nmX1 hown hK hP hD hS 0 rfl rfl 6 (by decide) (hts (.fieldLink RX1 96 "StageWalkerModel" "found" "J") (by decide +kernel)) (fun _ h9 => h9) rfl (by decide +kernel) rfl rfl (Nat.le_of_ble_eq_true rfl) dX1_pages_128 (fun H locs hP hD hS => ?_)
          have hP : va_P (dC, dI) vwCl (wm h0 q_memory k_memory v_atp v_vsAtp v_hgatp v_rights v_code v_found y3 y4 m_memory) H := hP
          have hD : va_D A (wm h0 q_memory k_memory v_atp v_vsAtp v_hgatp v_rights v_code v_found y3 y4 m_memory) := hD
          refine lv_aload_n hx hb dX1_pages_131 rfl (lv_at hl 7 rfl) ?_
          refine lv_lload hx hb dX1_pages_132 (lv_at hl 4 rfl) ?_
          refine va_put (D := (dC, dI)) (ci := 1) (v := .long v_wanted) (ty := .long) (C := RX1) (T := TX1) (N := 9) hx hb hts hwX tyX1 tyX1_ok nmX1 hown hK hP hD hS 0 rfl rfl 7 (by decide) (hts (.fieldLink RX1 73 "StageWalkerModel" "wanted" "J") (by decide +kernel)) (fun _ h9 => h9) rfl (by decide +kernel) rfl rfl (Nat.le_of_ble_eq_true rfl) dX1_pages_134 (fun H locs hP hD hS => ?_)
          have hP : va_P (dC, dI) vwCl (wm h0 q_memory k_memory v_atp v_vsAtp v_hgatp v_rights v_code v_found v_wanted y4 m_memory) H := hP
          have hD : va_D A (wm h0 q_memory k_memory v_atp v_vsAtp v_hgatp v_rights v_code v_found v_wanted y4 m_memory) := hD
          refine lv_aload_n hx hb dX1_pages_137 rfl (lv_at hl 7 rfl) ?_
          refine lv_iload hx hb dX1_pages_138 (lv_at hl 3 rfl) ?_
          refine va_put (D := (dC, dI)) (ci := 1) (v := .int v_ofEntry) (ty := .boolean) (C := RX1) (T := TX1) (N := 9) hx hb hts hwX tyX1 tyX1_ok nmX1 hown hK hP hD hS 0 rfl rfl 8 (by decide) (hts (.fieldLink RX1 77 "StageWalkerModel" "ofEntry" "Z") (by decide +kernel)) (fun _ h9 => h9) rfl (by decide +kernel) (nb_z hf_ofEntry) (fb_z hf_ofEntry) (Nat.le_of_ble_eq_true rfl) dX1_pages_140 (fun H locs hP hD hS => ?_)
          have hP : va_P (dC, dI) vwCl (wm h0 q_memory k_memory v_atp v_vsAtp v_hgatp v_rights v_code v_found v_wanted v_ofEntry m_memory) H := hP
          have hD : va_D A (wm h0 q_memory k_memory v_atp v_vsAtp v_hgatp v_rights v_code v_found v_wanted v_ofEntry m_memory) := hD
          refine lv_iload hx hb dX1_pages_143 (lv_at hl 2 rfl) ?_
          have hres : xc = fm_pl v_atp v_vsAtp v_hgatp v_rights m_memory a0 a1 a3 (N + 1) 0 0 z_1 := by rw [← hfp, fm_pl_s, if_pos c_66]
          exact W.iret (v := xc) hx hb hr (fun t ht hW => ⟨⟨_, (xc, v_code, v_found, v_wanted, v_ofEntry), rfl, ⟨rfl, by subst ez_1; rw [fm_pages, if_neg c_5, if_neg c_11, if_pos c_19, show a3.toNatClampNeg = N from by rw [eN]; exact nI_clamp (by omega)]; rw [hres]⟩, by rw [ht]; exact hP, va_K.moved hW.alike hK, hD⟩, hS.F ht⟩) hS.2.2 dX1_pages_145
        · skip
          refine lv_lload hx hb dX1_pages_69 (lv_at hl 1 rfl) ?_
          refine lv_ldc2 hx hb hown (hts (.constantLong RX1 90 4294967295) (by decide +kernel)) dX1_pages_71 ?_
          refine lq_gt (tgt := 119) hx hb dX1_pages_74 dX1_pages_75 (by decide) (fun c_75 => ?_) (fun c_75 => ?_)
          · skip
            refine lv_aload_n hx hb dX1_pages_119 rfl (lv_at hl 7 rfl) ?_
            refine lv_iload hx hb dX1_pages_120 (lv_at hl 6 rfl) ?_
            refine va_put (D := (dC, dI)) (ci := 1) (v := .int v_code) (ty := .int) (C := RX1) (T := TX1) (N := 9) hx hb hts hwX tyX1 tyX1_ok nmX1 hown hK hP hD hS 0 rfl rfl 5 (by decide) (hts (.fieldLink RX1 14 "StageWalkerModel" "code" "I") (by decide +kernel)) (fun _ h9 => h9) rfl (by decide +kernel) rfl rfl (Nat.le_of_ble_eq_true rfl) dX1_pages_122 (fun H locs hP hD hS => ?_)
            have hP : va_P (dC, dI) vwCl (wm h0 q_memory k_memory v_atp v_vsAtp v_hgatp v_rights v_code y2 y3 y4 m_memory) H := hP
            have hD : va_D A (wm h0 q_memory k_memory v_atp v_vsAtp v_hgatp v_rights v_code y2 y3 y4 m_memory) := hD
            refine lv_aload_n hx hb dX1_pages_125 rfl (lv_at hl 7 rfl) ?_
            refine lv_lload hx hb dX1_pages_126 (lv_at hl 5 rfl) ?_
            refine va_put (D := (dC, dI)) (ci := 1) (v := .long v_found) (ty := .long) (C := RX1) (T := TX1) (N := 9) hx hb hts hwX tyX1 tyX1_ok nmX1 hown hK hP hD hS 0 rfl rfl 6 (by decide) (hts (.fieldLink RX1 96 "StageWalkerModel" "found" "J") (by decide +kernel)) (fun _ h9 => h9) rfl (by decide +kernel) rfl rfl (Nat.le_of_ble_eq_true rfl) dX1_pages_128 (fun H locs hP hD hS => ?_)
            have hP : va_P (dC, dI) vwCl (wm h0 q_memory k_memory v_atp v_vsAtp v_hgatp v_rights v_code v_found y3 y4 m_memory) H := hP
            have hD : va_D A (wm h0 q_memory k_memory v_atp v_vsAtp v_hgatp v_rights v_code v_found y3 y4 m_memory) := hD
            refine lv_aload_n hx hb dX1_pages_131 rfl (lv_at hl 7 rfl) ?_
            refine lv_lload hx hb dX1_pages_132 (lv_at hl 4 rfl) ?_
            refine va_put (D := (dC, dI)) (ci := 1) (v := .long v_wanted) (ty := .long) (C := RX1) (T := TX1) (N := 9) hx hb hts hwX tyX1 tyX1_ok nmX1 hown hK hP hD hS 0 rfl rfl 7 (by decide) (hts (.fieldLink RX1 73 "StageWalkerModel" "wanted" "J") (by decide +kernel)) (fun _ h9 => h9) rfl (by decide +kernel) rfl rfl (Nat.le_of_ble_eq_true rfl) dX1_pages_134 (fun H locs hP hD hS => ?_)
            have hP : va_P (dC, dI) vwCl (wm h0 q_memory k_memory v_atp v_vsAtp v_hgatp v_rights v_code v_found v_wanted y4 m_memory) H := hP
            have hD : va_D A (wm h0 q_memory k_memory v_atp v_vsAtp v_hgatp v_rights v_code v_found v_wanted y4 m_memory) := hD
            refine lv_aload_n hx hb dX1_pages_137 rfl (lv_at hl 7 rfl) ?_
            refine lv_iload hx hb dX1_pages_138 (lv_at hl 3 rfl) ?_
            refine va_put (D := (dC, dI)) (ci := 1) (v := .int v_ofEntry) (ty := .boolean) (C := RX1) (T := TX1) (N := 9) hx hb hts hwX tyX1 tyX1_ok nmX1 hown hK hP hD hS 0 rfl rfl 8 (by decide) (hts (.fieldLink RX1 77 "StageWalkerModel" "ofEntry" "Z") (by decide +kernel)) (fun _ h9 => h9) rfl (by decide +kernel) (nb_z hf_ofEntry) (fb_z hf_ofEntry) (Nat.le_of_ble_eq_true rfl) dX1_pages_140 (fun H locs hP hD hS => ?_)
            have hP : va_P (dC, dI) vwCl (wm h0 q_memory k_memory v_atp v_vsAtp v_hgatp v_rights v_code v_found v_wanted v_ofEntry m_memory) H := hP
            have hD : va_D A (wm h0 q_memory k_memory v_atp v_vsAtp v_hgatp v_rights v_code v_found v_wanted v_ofEntry m_memory) := hD
            refine lv_iload hx hb dX1_pages_143 (lv_at hl 2 rfl) ?_
            have hres : xc = fm_pl v_atp v_vsAtp v_hgatp v_rights m_memory a0 a1 a3 (N + 1) 0 0 z_1 := by rw [← hfp, fm_pl_s, if_neg c_66, if_pos c_75]
            exact W.iret (v := xc) hx hb hr (fun t ht hW => ⟨⟨_, (xc, v_code, v_found, v_wanted, v_ofEntry), rfl, ⟨rfl, by subst ez_1; rw [fm_pages, if_neg c_5, if_neg c_11, if_pos c_19, show a3.toNatClampNeg = N from by rw [eN]; exact nI_clamp (by omega)]; rw [hres]⟩, by rw [ht]; exact hP, va_K.moved hW.alike hK, hD⟩, hS.F ht⟩) hS.2.2 dX1_pages_145
          · skip
            refine lv_aload_n hx hb dX1_pages_78 rfl (lv_at hl 7 rfl) ?_
            refine lv_iload_n hx hb dX1_pages_79 rfl (lv_at hl 8 rfl) ?_
            refine lv_iload_n hx hb dX1_pages_80 rfl (lv_at hl 9 rfl) ?_
            refine lv_lload hx hb dX1_pages_81 (lv_at hl 1 rfl) ?_
            refine lv_l2i (v := xa.toInt32) hx hb dX1_pages_83 rfl ?_
            refine cw_v (va_runV (As := [.int a0, .int a1, .int xa.toInt32]) (rest := []) ⟨hx, hb, hml, hown, hts⟩ (ctm_go l dC dI h0 q_memory k_memory H.size v_atp v_vsAtp v_hgatp v_rights y1 y2 y3 y4 m_memory a0 a1 xa.toInt32) (cwV 3 hts gX1_pages_X1_go rfl rfl rfl (by decide +kernel) ⟨Nat.le_of_ble_eq_true rfl, Nat.le_of_ble_eq_true rfl⟩) ⟨fun a U g mk q => ⟨q.1, q.2.1, q.2.2.1, va_K.moved (u := U) (U := U.calling g mk a) (Vm.Alike.refl U.vm) q.2.2.2.1, q.2.2.2.2⟩, va_recv hK hP (ci := 1) (q0 := 0) rfl rfl, fun U hU hW => ⟨rfl, by rw [hU], by rw [hU]; exact hP, va_K.moved hW.alike hK, hD.weaken (fun _ _ _ _ => trivial)⟩⟩ rfl rfl hl.1 rfl (lv_room (Nat.le_of_ble_eq_true rfl)) dX1_pages_84 ⟨Nat.zero_le _, Nat.zero_le _⟩) hA hD hP hS (fun o_2 H locs eo_2 hP hD hS => ?_)
            have hP : va_P (dC, dI) vwCl (wm h0 q_memory k_memory v_atp v_vsAtp v_hgatp v_rights o_2.1 o_2.2.1 o_2.2.2.1 o_2.2.2.2 m_memory) H := hP
            have hD : va_D A (wm h0 q_memory k_memory v_atp v_vsAtp v_hgatp v_rights o_2.1 o_2.2.1 o_2.2.2.1 o_2.2.2.2 m_memory) := hD
            refine lv_aload_n hx hb dX1_pages_87 rfl (lv_at hl 7 rfl) ?_
            refine va_get (D := (dC, dI)) (ci := 1) (v := .int o_2.1) (C := RX1) (T := TX1) (N := 9) hx hb hts hwX hown hK hP 0 rfl rfl 5 (by decide) (hts (.fieldLink RX1 14 "StageWalkerModel" "code" "I") (by decide +kernel)) (fun _ h9 => h9) rfl dX1_pages_88 ?_
            refine lj_i (j := 103) (z0 := if o_2.1 = 0 then xc + 1 else xc) (rest := []) hP hS (fun H locs hP hS z_3 ez_3 => ?_) (fun J103_91 => ?_)
            · skip
              refine lv_istore (lv' := [(11, .int z_3), (14, .int xk), (12, .long xa), (10, .int v_ofEntry), (8, .long v_wanted), (6, .long v_found), (5, .int v_code), (0, .ref h0), (1, .int a0), (2, .int a1), (3, .int a2), (4, .int a3)]) hx hb dX1_pages_103 hl (by decide) rfl (fun ls hl => ?_)
              refine lv_lload hx hb dX1_pages_105 (lv_at hl 2 rfl) ?_
              refine lv_ldc2 hx hb hown (hts (.constantLong RX1 106 4096) (by decide +kernel)) dX1_pages_107 ?_
              refine lv_ladd hx hb dX1_pages_110 ?_
              refine lv_topl (fun z_4 ez_4 => ?_)
              refine lv_lstore (lv' := [(12, .long z_4), (11, .int z_3), (14, .int xk), (10, .int v_ofEntry), (8, .long v_wanted), (6, .long v_found), (5, .int v_code), (0, .ref h0), (1, .int a0), (2, .int a1), (3, .int a2), (4, .int a3)]) hx hb dX1_pages_111 hl (by decide) rfl (fun ls hl => ?_)
              obtain ⟨z_5, ez_5⟩ : ∃ y : Int32, y = xk + 1 := ⟨_, rfl⟩
              refine lv_iinc (v := z_5) (lv' := [(14, .int z_5), (12, .long z_4), (11, .int z_3), (10, .int v_ofEntry), (8, .long v_wanted), (6, .long v_found), (5, .int v_code), (0, .ref h0), (1, .int a0), (2, .int a1), (3, .int a2), (4, .int a3)]) hx hb dX1_pages_113 hl (k := 2) rfl (by rw [ez_5]; rfl) (by decide) rfl (fun ls hl => ?_)
              refine lv_goto (tgt := 62) hx hb dX1_pages_116 (by decide) ?_
              have hlt : i < N := by
                rcases Nat.lt_or_ge i N with q | q
                · exact q
                · exact absurd (by rw [eN, exk]; exact nI_le q (by omega)) c_66
              obtain ⟨n', rfl⟩ : ∃ n', n = n' + 1 := ⟨n - 1, by omega⟩
              exact ih n' ((z_5, z_3, z_4, o_2.1, o_2.2.1, o_2.2.2.1, o_2.2.2.2), H, locs, ls) (Nat.lt_succ_self n') ⟨i + 1, by omega, by rw [ez_5, exk]; exact nI_1 i, by rw [← hfp]; subst ez_5; subst ez_4; subst ez_3; subst eo_2; rw [fm_pl_s (f := n' + 1), if_neg c_66, if_neg c_75]; split <;> rfl, hP, hD, hS, lv_sub hl [0, 1, 2, 3, 4, 5, 6, 7, 8, 9, 10, 11] rfl⟩
            · skip
              refine lv_if_ne (tgt := 101) hx hb dX1_pages_91 (by decide) (fun c_91 => ?_) (fun c_91 => ?_)
              · skip
                refine lv_iload hx hb dX1_pages_101 (lv_at hl 2 rfl) ?_
                exact W.eq (by rw [if_neg c_91] <;> rfl) (J103_91 _ _ hP hS)
              · skip
                refine lv_iload hx hb dX1_pages_94 (lv_at hl 2 rfl) ?_
                refine lv_iconst (v := 1) hx hb dX1_pages_96 (by decide) ?_
                refine lv_iadd hx hb dX1_pages_97 ?_
                refine lv_goto (tgt := 103) hx hb dX1_pages_98 (by decide) ?_
                exact W.eq (by rw [if_pos c_91] <;> rfl) (J103_91 _ _ hP hS)
      · skip
        refine lv_iconst (v := -1) hx hb dX1_pages_22 (by decide) ?_
        exact W.iret (v := (-1)) hx hb hr (fun t ht hW => ⟨⟨_, ((-1), v_code, v_found, v_wanted, v_ofEntry), rfl, ⟨rfl, by first | (rw [fm_pages, if_neg c_5, if_neg c_11, if_neg c_19]; done) | (simp only [fm_pages, if_neg c_5, if_neg c_11, if_neg c_19]; done) | (rw [fm_pages, if_neg c_5, if_neg c_11, if_neg c_19] <;> rfl)⟩, by rw [ht]; exact hP, va_K.moved hW.alike hK, hD⟩, hS.F ht⟩) hS.2.2 dX1_pages_23
