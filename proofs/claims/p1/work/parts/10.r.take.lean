set_option maxHeartbeats 4000000 in
set_option maxRecDepth 100000 in
theorem c_X6_isSum (l : Launch) (D : va_G) (c : Nat → ClassId) (ts : Nat × Nat) (sz : Nat)  (a0 : Int32) (i_a0 : Int) (hi_a0 : a0.toInt = i_a0) : Met l yX6_isSum wsX6_isSum ({ frames := 0, cells := 0, slots := 0, locals := 0 }) (va_Pc [.int a0] (Pre0 D c ts [] sz)) (vp_Si (fun r : Int32 => ((1 ≤ i_a0 ∧ i_a0 ≤ 1000000) ∧ r = 1) ∨ ((¬ (1 ≤ i_a0 ∧ i_a0 ≤ 1000000)) ∧ r = 0))) 0 0 (fun _ => False) := by
  refine Met.ofW (cc := cX6_isSum) (maxL := 1) (ret := (some .boolean)) (by decide) rfl ?_
  intro p e s m args below meth cd s₁ B hml hv
  obtain ⟨rfl, hsz, hP, hD0, hAm, hSt⟩ := hv
  have hx := B.exec
  have hb := B.bytes
  have hr := B.returns
  have hts := atoms_spec (ws := wsX6_isSum) B.pre
  have hown : s.vm.findClass RX6 = some m.cls := findClass_of_methodNamed B.named
  have hlocks := B.notSynchronized
  subst hsz
  have hK := hAm.1
  have hD := hD0.self (sz := s.heap.size)
  generalize hAe : va_A [] s.heap.size = A at hD hSt
  have hA : ∀ q : Nat, s.heap.size ≤ q → A q := fun q h => by rw [← hAe]; exact Or.inr h
  have hS : va_S A s.heap s.heap [] := va_S.rf
  clear hD0 hAe
  have hl := lv_entry ([.int a0]) (n := 1) (Nat.le_of_ble_eq_true rfl)
  rw [lg_entry_eq]
  generalize (lg_sl ([.int a0]) ++ List.replicate (1 - (lg_sl ([.int a0])).length) Slot.unset).toArray = ls at hl ⊢
  have hl : lv_has ls 1 [(0, .int a0)] := hl
  refine lv_iload_n hx hb dX6_isSum_0 rfl (lv_at hl 0 rfl) ?_
  refine lv_iconst (v := 1) hx hb dX6_isSum_1 (by decide) ?_
  refine iicmp_lt (a := i_a0) (b := 1) (tgt := 15) hx hb hi_a0 (by decide) dX6_isSum_2 (by decide) (fun k_1 => ?_) (fun k_1 => ?_)
  · skip
    refine lv_iconst (v := 0) hx hb dX6_isSum_15 (by decide) ?_
    exact W.zret (v := 0) hx hb hr (by decide) (fun t ht hW => ⟨_, rfl, Or.inr (⟨by omega, rfl⟩), ht⟩) (fun _ h => by cases h) dX6_isSum_16
  · skip
    refine lv_iload_n hx hb dX6_isSum_5 rfl (lv_at hl 0 rfl) ?_
    refine lv_ldc (v := 1000000) hx hb hown (hts (.constant RX6 183 (1000000)) (mem_i 1 rfl)) dX6_isSum_6 ?_
    refine iicmp_gt (a := i_a0) (b := 1000000) (tgt := 15) hx hb hi_a0 (by decide) dX6_isSum_8 (by decide) (fun k_2 => ?_) (fun k_2 => ?_)
    · skip
      refine lv_iconst (v := 0) hx hb dX6_isSum_15 (by decide) ?_
      exact W.zret (v := 0) hx hb hr (by decide) (fun t ht hW => ⟨_, rfl, Or.inr (⟨by omega, rfl⟩), ht⟩) (fun _ h => by cases h) dX6_isSum_16
    · skip
      refine lv_iconst (v := 1) hx hb dX6_isSum_11 (by decide) ?_
      refine lv_goto (tgt := 16) hx hb dX6_isSum_12 (by decide) ?_
      exact W.zret (v := 1) hx hb hr (by decide) (fun t ht hW => ⟨_, rfl, Or.inl ⟨by omega, rfl⟩, ht⟩) (fun _ h => by cases h) dX6_isSum_16

set_option maxHeartbeats 4000000 in
set_option maxRecDepth 100000 in
theorem c_X0_lies (l : Launch) (D : va_G) (c : Nat → ClassId) (ts : Nat × Nat) (sz : Nat) (h0 : Nat) (h1 : Nat) : Met l yX0_lies wsX0_lies ({ frames := 0, cells := 0, slots := 0, locals := 0 }) (va_Pc [.ref h0] (Pre0 D c ts [(h0, .inr (0, [.ref h1])), (h1, .inl (c 1, 6, .inl (fun _ => 0)))] sz)) (vp_Sl (fun r : Int64 => r = 0)) 0 0 (fun _ => False) := by
  refine Met.ofW (cc := cX0_lies) (maxL := 4) (ret := (some .long)) (by decide) rfl ?_
  intro p e s m args below meth cd s₁ B hml hv
  obtain ⟨rfl, hsz, hP, hD0, hAm, hSt⟩ := hv
  have hx := B.exec
  have hb := B.bytes
  have hr := B.returns
  have hts := atoms_spec (ws := wsX0_lies) B.pre
  have hown : s.vm.findClass RX0 = some m.cls := findClass_of_methodNamed B.named
  have hlocks := B.notSynchronized
  subst hsz
  have hK := hAm.1
  have hD := hD0.self (sz := s.heap.size)
  generalize hAe : va_A [(h0, .inr (0, [.ref h1])), (h1, .inl (c 1, 6, .inl (fun _ => 0)))] s.heap.size = A at hD hSt
  have hA : ∀ q : Nat, s.heap.size ≤ q → A q := fun q h => by rw [← hAe]; exact Or.inr h
  have hS : va_S A s.heap s.heap [] := va_S.rf
  clear hD0 hAe
  have hl := lv_entry ([.ref h0]) (n := 4) (Nat.le_of_ble_eq_true rfl)
  rw [lg_entry_eq]
  generalize (lg_sl ([.ref h0]) ++ List.replicate (4 - (lg_sl ([.ref h0])).length) Slot.unset).toArray = ls at hl ⊢
  have hl : lv_has ls 4 [(0, .ref h0)] := hl
  refine lv_lconst (v := 0) hx hb dX0_lies_0 (by decide) ?_
  refine lv_lstore_n (lv' := [(1, .long 0), (0, .ref h0)]) hx hb dX0_lies_1 rfl hl (by decide) rfl (fun ls hl => ?_)
  refine lv_iconst (v := 0) hx hb dX0_lies_2 (by decide) ?_
  refine lv_istore_n (lv' := [(3, .int 0), (1, .long 0), (0, .ref h0)]) hx hb dX0_lies_3 rfl hl (by decide) rfl (fun ls hl => ?_)
  refine lv_iload_n hx hb dX0_lies_4 rfl (lv_at hl 0 rfl) ?_
  refine lv_bipush (v := 6) hx hb dX0_lies_5 (by decide) ?_
  refine iicmp_geF (a := 0) (b := 6) (tgt := 33) hx hb (by decide) (by decide) dX0_lies_7 (by decide) (by decide) ?_
  refine lv_lload_n hx hb dX0_lies_10 rfl (lv_at hl 1 rfl) ?_
  refine lv_aload_n hx hb dX0_lies_11 rfl (lv_at hl 2 rfl) ?_
  refine va_get (D := D) (ci := 0) (v := .ref h1) (C := RX0) (T := TX0) (N := 1) hx hb hts (fun _ h => List.mem_cons_of_mem _ (List.mem_append_right _ h)) hown hK hP 0 rfl rfl 0 (by decide) (hts (.fieldLink RX0 9 "CrownTable$Cloth" "counters" "[I") (mem_i 1 rfl)) (fun _ h9 => h9) rfl dX0_lies_12 ?_
  refine lv_iload_n hx hb dX0_lies_15 rfl (lv_at hl 0 rfl) ?_
  refine va_iald hx hb hK hP 1 1 rfl rfl (vin (a := 0) (by decide) (by decide) (by decide)) dX0_lies_16 ?_
  refine lk_i (y := 0) rfl ?_
  refine lv_i2l (v := 0) hx hb dX0_lies_17 (by decide) ?_
  refine va_gets hx hb hSt.1 hS hown (hts (.fieldLink RX0 16 "CrownTable$Cloth" "WORTHS" "[I") (mem_i 2 rfl)) (fun _ h9 => h9) dX0_lies_18 ?_
  refine lv_iload_n hx hb dX0_lies_21 rfl (lv_at hl 0 rfl) ?_
  refine va_ti (v := .int 1) hx hb hSt.2.1 hS (vin (a := 0) (by decide) (by decide) (by decide)) rfl dX0_lies_22 ?_
  refine lv_i2l (v := 1) hx hb dX0_lies_23 (by decide) ?_
  refine lv_lmul hx hb dX0_lies_24 ?_
  refine lk_l (y := 0) (by decide) ?_
  refine lv_ladd hx hb dX0_lies_25 ?_
  refine lk_l (y := 0) (by decide) ?_
  refine lv_lstore_n (lv' := [(1, .long 0), (3, .int 0), (0, .ref h0)]) hx hb dX0_lies_26 rfl hl (by decide) rfl (fun ls hl => ?_)
  refine lv_iinc (v := 1) (lv' := [(3, .int 1), (1, .long 0), (0, .ref h0)]) hx hb dX0_lies_27 hl (k := 1) rfl (by decide) (by decide) rfl (fun ls hl => ?_)
  refine lv_goto (tgt := 4) hx hb dX0_lies_30 (by decide) ?_
  refine lv_iload_n hx hb dX0_lies_4 rfl (lv_at hl 0 rfl) ?_
  refine lv_bipush (v := 6) hx hb dX0_lies_5 (by decide) ?_
  refine iicmp_geF (a := 1) (b := 6) (tgt := 33) hx hb (by decide) (by decide) dX0_lies_7 (by decide) (by decide) ?_
  refine lv_lload_n hx hb dX0_lies_10 rfl (lv_at hl 1 rfl) ?_
  refine lv_aload_n hx hb dX0_lies_11 rfl (lv_at hl 2 rfl) ?_
  refine va_get (D := D) (ci := 0) (v := .ref h1) (C := RX0) (T := TX0) (N := 1) hx hb hts (fun _ h => List.mem_cons_of_mem _ (List.mem_append_right _ h)) hown hK hP 0 rfl rfl 0 (by decide) (hts (.fieldLink RX0 9 "CrownTable$Cloth" "counters" "[I") (mem_i 1 rfl)) (fun _ h9 => h9) rfl dX0_lies_12 ?_
  refine lv_iload_n hx hb dX0_lies_15 rfl (lv_at hl 0 rfl) ?_
  refine va_iald hx hb hK hP 1 1 rfl rfl (vin (a := 1) (by decide) (by decide) (by decide)) dX0_lies_16 ?_
  refine lk_i (y := 0) rfl ?_
  refine lv_i2l (v := 0) hx hb dX0_lies_17 (by decide) ?_
  refine va_gets hx hb hSt.1 hS hown (hts (.fieldLink RX0 16 "CrownTable$Cloth" "WORTHS" "[I") (mem_i 2 rfl)) (fun _ h9 => h9) dX0_lies_18 ?_
  refine lv_iload_n hx hb dX0_lies_21 rfl (lv_at hl 0 rfl) ?_
  refine va_ti (v := .int 12) hx hb hSt.2.1 hS (vin (a := 1) (by decide) (by decide) (by decide)) rfl dX0_lies_22 ?_
  refine lv_i2l (v := 12) hx hb dX0_lies_23 (by decide) ?_
  refine lv_lmul hx hb dX0_lies_24 ?_
  refine lk_l (y := 0) (by decide) ?_
  refine lv_ladd hx hb dX0_lies_25 ?_
  refine lk_l (y := 0) (by decide) ?_
  refine lv_lstore_n (lv' := [(1, .long 0), (3, .int 1), (0, .ref h0)]) hx hb dX0_lies_26 rfl hl (by decide) rfl (fun ls hl => ?_)
  refine lv_iinc (v := 2) (lv' := [(3, .int 2), (1, .long 0), (0, .ref h0)]) hx hb dX0_lies_27 hl (k := 1) rfl (by decide) (by decide) rfl (fun ls hl => ?_)
  refine lv_goto (tgt := 4) hx hb dX0_lies_30 (by decide) ?_
  refine lv_iload_n hx hb dX0_lies_4 rfl (lv_at hl 0 rfl) ?_
  refine lv_bipush (v := 6) hx hb dX0_lies_5 (by decide) ?_
  refine iicmp_geF (a := 2) (b := 6) (tgt := 33) hx hb (by decide) (by decide) dX0_lies_7 (by decide) (by decide) ?_
  refine lv_lload_n hx hb dX0_lies_10 rfl (lv_at hl 1 rfl) ?_
  refine lv_aload_n hx hb dX0_lies_11 rfl (lv_at hl 2 rfl) ?_
  refine va_get (D := D) (ci := 0) (v := .ref h1) (C := RX0) (T := TX0) (N := 1) hx hb hts (fun _ h => List.mem_cons_of_mem _ (List.mem_append_right _ h)) hown hK hP 0 rfl rfl 0 (by decide) (hts (.fieldLink RX0 9 "CrownTable$Cloth" "counters" "[I") (mem_i 1 rfl)) (fun _ h9 => h9) rfl dX0_lies_12 ?_
  refine lv_iload_n hx hb dX0_lies_15 rfl (lv_at hl 0 rfl) ?_
  refine va_iald hx hb hK hP 1 1 rfl rfl (vin (a := 2) (by decide) (by decide) (by decide)) dX0_lies_16 ?_
  refine lk_i (y := 0) rfl ?_
  refine lv_i2l (v := 0) hx hb dX0_lies_17 (by decide) ?_
  refine va_gets hx hb hSt.1 hS hown (hts (.fieldLink RX0 16 "CrownTable$Cloth" "WORTHS" "[I") (mem_i 2 rfl)) (fun _ h9 => h9) dX0_lies_18 ?_
  refine lv_iload_n hx hb dX0_lies_21 rfl (lv_at hl 0 rfl) ?_
  refine va_ti (v := .int 240) hx hb hSt.2.1 hS (vin (a := 2) (by decide) (by decide) (by decide)) rfl dX0_lies_22 ?_
  refine lv_i2l (v := 240) hx hb dX0_lies_23 (by decide) ?_
  refine lv_lmul hx hb dX0_lies_24 ?_
  refine lk_l (y := 0) (by decide) ?_
  refine lv_ladd hx hb dX0_lies_25 ?_
  refine lk_l (y := 0) (by decide) ?_
  refine lv_lstore_n (lv' := [(1, .long 0), (3, .int 2), (0, .ref h0)]) hx hb dX0_lies_26 rfl hl (by decide) rfl (fun ls hl => ?_)
  refine lv_iinc (v := 3) (lv' := [(3, .int 3), (1, .long 0), (0, .ref h0)]) hx hb dX0_lies_27 hl (k := 1) rfl (by decide) (by decide) rfl (fun ls hl => ?_)
  refine lv_goto (tgt := 4) hx hb dX0_lies_30 (by decide) ?_
  refine lv_iload_n hx hb dX0_lies_4 rfl (lv_at hl 0 rfl) ?_
  refine lv_bipush (v := 6) hx hb dX0_lies_5 (by decide) ?_
  refine iicmp_geF (a := 3) (b := 6) (tgt := 33) hx hb (by decide) (by decide) dX0_lies_7 (by decide) (by decide) ?_
  refine lv_lload_n hx hb dX0_lies_10 rfl (lv_at hl 1 rfl) ?_
  refine lv_aload_n hx hb dX0_lies_11 rfl (lv_at hl 2 rfl) ?_
  refine va_get (D := D) (ci := 0) (v := .ref h1) (C := RX0) (T := TX0) (N := 1) hx hb hts (fun _ h => List.mem_cons_of_mem _ (List.mem_append_right _ h)) hown hK hP 0 rfl rfl 0 (by decide) (hts (.fieldLink RX0 9 "CrownTable$Cloth" "counters" "[I") (mem_i 1 rfl)) (fun _ h9 => h9) rfl dX0_lies_12 ?_
  refine lv_iload_n hx hb dX0_lies_15 rfl (lv_at hl 0 rfl) ?_
  refine va_iald hx hb hK hP 1 1 rfl rfl (vin (a := 3) (by decide) (by decide) (by decide)) dX0_lies_16 ?_
  refine lk_i (y := 0) rfl ?_
  refine lv_i2l (v := 0) hx hb dX0_lies_17 (by decide) ?_
  refine va_gets hx hb hSt.1 hS hown (hts (.fieldLink RX0 16 "CrownTable$Cloth" "WORTHS" "[I") (mem_i 2 rfl)) (fun _ h9 => h9) dX0_lies_18 ?_
  refine lv_iload_n hx hb dX0_lies_21 rfl (lv_at hl 0 rfl) ?_
  refine va_ti (v := .int 4800) hx hb hSt.2.1 hS (vin (a := 3) (by decide) (by decide) (by decide)) rfl dX0_lies_22 ?_
  refine lv_i2l (v := 4800) hx hb dX0_lies_23 (by decide) ?_
  refine lv_lmul hx hb dX0_lies_24 ?_
  refine lk_l (y := 0) (by decide) ?_
  refine lv_ladd hx hb dX0_lies_25 ?_
  refine lk_l (y := 0) (by decide) ?_
  refine lv_lstore_n (lv' := [(1, .long 0), (3, .int 3), (0, .ref h0)]) hx hb dX0_lies_26 rfl hl (by decide) rfl (fun ls hl => ?_)
  refine lv_iinc (v := 4) (lv' := [(3, .int 4), (1, .long 0), (0, .ref h0)]) hx hb dX0_lies_27 hl (k := 1) rfl (by decide) (by decide) rfl (fun ls hl => ?_)
  refine lv_goto (tgt := 4) hx hb dX0_lies_30 (by decide) ?_
  refine lv_iload_n hx hb dX0_lies_4 rfl (lv_at hl 0 rfl) ?_
  refine lv_bipush (v := 6) hx hb dX0_lies_5 (by decide) ?_
  refine iicmp_geF (a := 4) (b := 6) (tgt := 33) hx hb (by decide) (by decide) dX0_lies_7 (by decide) (by decide) ?_
  refine lv_lload_n hx hb dX0_lies_10 rfl (lv_at hl 1 rfl) ?_
  refine lv_aload_n hx hb dX0_lies_11 rfl (lv_at hl 2 rfl) ?_
  refine va_get (D := D) (ci := 0) (v := .ref h1) (C := RX0) (T := TX0) (N := 1) hx hb hts (fun _ h => List.mem_cons_of_mem _ (List.mem_append_right _ h)) hown hK hP 0 rfl rfl 0 (by decide) (hts (.fieldLink RX0 9 "CrownTable$Cloth" "counters" "[I") (mem_i 1 rfl)) (fun _ h9 => h9) rfl dX0_lies_12 ?_
  refine lv_iload_n hx hb dX0_lies_15 rfl (lv_at hl 0 rfl) ?_
  refine va_iald hx hb hK hP 1 1 rfl rfl (vin (a := 4) (by decide) (by decide) (by decide)) dX0_lies_16 ?_
  refine lk_i (y := 0) rfl ?_
  refine lv_i2l (v := 0) hx hb dX0_lies_17 (by decide) ?_
  refine va_gets hx hb hSt.1 hS hown (hts (.fieldLink RX0 16 "CrownTable$Cloth" "WORTHS" "[I") (mem_i 2 rfl)) (fun _ h9 => h9) dX0_lies_18 ?_
  refine lv_iload_n hx hb dX0_lies_21 rfl (lv_at hl 0 rfl) ?_
  refine va_ti (v := .int 24000) hx hb hSt.2.1 hS (vin (a := 4) (by decide) (by decide) (by decide)) rfl dX0_lies_22 ?_
  refine lv_i2l (v := 24000) hx hb dX0_lies_23 (by decide) ?_
  refine lv_lmul hx hb dX0_lies_24 ?_
  refine lk_l (y := 0) (by decide) ?_
  refine lv_ladd hx hb dX0_lies_25 ?_
  refine lk_l (y := 0) (by decide) ?_
  refine lv_lstore_n (lv' := [(1, .long 0), (3, .int 4), (0, .ref h0)]) hx hb dX0_lies_26 rfl hl (by decide) rfl (fun ls hl => ?_)
  refine lv_iinc (v := 5) (lv' := [(3, .int 5), (1, .long 0), (0, .ref h0)]) hx hb dX0_lies_27 hl (k := 1) rfl (by decide) (by decide) rfl (fun ls hl => ?_)
  refine lv_goto (tgt := 4) hx hb dX0_lies_30 (by decide) ?_
  refine lv_iload_n hx hb dX0_lies_4 rfl (lv_at hl 0 rfl) ?_
  refine lv_bipush (v := 6) hx hb dX0_lies_5 (by decide) ?_
  refine iicmp_geF (a := 5) (b := 6) (tgt := 33) hx hb (by decide) (by decide) dX0_lies_7 (by decide) (by decide) ?_
  refine lv_lload_n hx hb dX0_lies_10 rfl (lv_at hl 1 rfl) ?_
  refine lv_aload_n hx hb dX0_lies_11 rfl (lv_at hl 2 rfl) ?_
  refine va_get (D := D) (ci := 0) (v := .ref h1) (C := RX0) (T := TX0) (N := 1) hx hb hts (fun _ h => List.mem_cons_of_mem _ (List.mem_append_right _ h)) hown hK hP 0 rfl rfl 0 (by decide) (hts (.fieldLink RX0 9 "CrownTable$Cloth" "counters" "[I") (mem_i 1 rfl)) (fun _ h9 => h9) rfl dX0_lies_12 ?_
  refine lv_iload_n hx hb dX0_lies_15 rfl (lv_at hl 0 rfl) ?_
  refine va_iald hx hb hK hP 1 1 rfl rfl (vin (a := 5) (by decide) (by decide) (by decide)) dX0_lies_16 ?_
  refine lk_i (y := 0) rfl ?_
  refine lv_i2l (v := 0) hx hb dX0_lies_17 (by decide) ?_
  refine va_gets hx hb hSt.1 hS hown (hts (.fieldLink RX0 16 "CrownTable$Cloth" "WORTHS" "[I") (mem_i 2 rfl)) (fun _ h9 => h9) dX0_lies_18 ?_
  refine lv_iload_n hx hb dX0_lies_21 rfl (lv_at hl 0 rfl) ?_
  refine va_ti (v := .int 240000) hx hb hSt.2.1 hS (vin (a := 5) (by decide) (by decide) (by decide)) rfl dX0_lies_22 ?_
  refine lv_i2l (v := 240000) hx hb dX0_lies_23 (by decide) ?_
  refine lv_lmul hx hb dX0_lies_24 ?_
  refine lk_l (y := 0) (by decide) ?_
  refine lv_ladd hx hb dX0_lies_25 ?_
  refine lk_l (y := 0) (by decide) ?_
  refine lv_lstore_n (lv' := [(1, .long 0), (3, .int 5), (0, .ref h0)]) hx hb dX0_lies_26 rfl hl (by decide) rfl (fun ls hl => ?_)
  refine lv_iinc (v := 6) (lv' := [(3, .int 6), (1, .long 0), (0, .ref h0)]) hx hb dX0_lies_27 hl (k := 1) rfl (by decide) (by decide) rfl (fun ls hl => ?_)
  refine lv_goto (tgt := 4) hx hb dX0_lies_30 (by decide) ?_
  refine lv_iload_n hx hb dX0_lies_4 rfl (lv_at hl 0 rfl) ?_
  refine lv_bipush (v := 6) hx hb dX0_lies_5 (by decide) ?_
  refine iicmp_geT (a := 6) (b := 6) (tgt := 33) hx hb (by decide) (by decide) dX0_lies_7 (by decide) (by decide) ?_
  refine lv_lload_n hx hb dX0_lies_33 rfl (lv_at hl 1 rfl) ?_
  exact W.lret (v := 0) hx hb hr (fun t ht hW => ⟨_, rfl, rfl, ht⟩) (fun _ h => by cases h) dX0_lies_34

set_option maxHeartbeats 4000000 in
set_option maxRecDepth 100000 in
theorem c_X6_take (l : Launch) (D : va_G) (c : Nat → ClassId) (ts : Nat × Nat) (sz : Nat) (q : Nat → Nat) (h0 : Nat) (a1 : Int32) (i_a1 : Int) (hi_a1 : a1.toInt = i_a1) : Met l yX6_take wsX6_take ({ frames := 1, cells := 0, slots := 0, locals := 23 }) (va_Pc [.ref h0, .int a1] (Pre0 D c ts [(h0, .inr (6, o6 q 0 0 0 0)), (q 25, .inr (0, [.ref (q 26)])), (q 26, .inl (c 1, 6, .inl (fun _ => 0)))] sz)) (vp_Si (fun r : Int32 => ((1 ≤ i_a1 ∧ i_a1 ≤ 1000000) ∧ r = (-2)) ∨ ((¬ (1 ≤ i_a1 ∧ i_a1 ≤ 1000000)) ∧ r = (-1)))) 0 0 (fun _ => False) := by
  refine Met.ofW (cc := cX6_take) (maxL := 2) (ret := (some .int)) (by decide) rfl ?_
  intro p e s m args below meth cd s₁ B hml hv
  obtain ⟨rfl, hsz, hP, hD0, hAm, hSt⟩ := hv
  have hx := B.exec
  have hb := B.bytes
  have hr := B.returns
  have hts := atoms_spec (ws := wsX6_take) B.pre
  have hown : s.vm.findClass RX6 = some m.cls := findClass_of_methodNamed B.named
  have hlocks := B.notSynchronized
  subst hsz
  have hK := hAm.1
  have hD := hD0.self (sz := s.heap.size)
  generalize hAe : va_A [(h0, .inr (6, o6 q 0 0 0 0)), (q 25, .inr (0, [.ref (q 26)])), (q 26, .inl (c 1, 6, .inl (fun _ => 0)))] s.heap.size = A at hD hSt
  have hA : ∀ q : Nat, s.heap.size ≤ q → A q := fun q h => by rw [← hAe]; exact Or.inr h
  have hS : va_S A s.heap s.heap [] := va_S.rf
  clear hD0 hAe
  have hl := lv_entry ([.ref h0, .int a1]) (n := 2) (Nat.le_of_ble_eq_true rfl)
  rw [lg_entry_eq]
  generalize (lg_sl ([.ref h0, .int a1]) ++ List.replicate (2 - (lg_sl ([.ref h0, .int a1])).length) Slot.unset).toArray = ls at hl ⊢
  have hl : lv_has ls 2 [(0, .ref h0), (1, .int a1)] := hl
  refine lv_iload_n hx hb dX6_take_0 rfl (lv_at hl 1 rfl) ?_
  have hPc := hP.sub (ws' := []) [] rfl
  have hDc := hD.sub (ws' := []) [] (by decide) rfl
  have hFc := va_free (wc := []) hD hS hA [] rfl
  refine va_csi (va_runS (As := [.int a1]) (rest := []) ⟨hx, hb, hml, hown, hts⟩ (c_X6_isSum l D c ts s.heap.size a1 i_a1 hi_a1) (cwS 1 hts gX6_take_X6_isSum rfl rfl rfl ⟨rfl, hdX6_isSum⟩ ⟨(show 0 + 1 ≤ 1 by decide), (show 8 + (1 + 11) + 0 ≤ 23 by decide)⟩) ⟨Pre0.blind, Pre0.at hPc hDc hAm hSt hS hFc⟩ rfl rfl hl.1 rfl (lv_room (Nat.le_of_ble_eq_true rfl)) dX6_take_1 ⟨(show 0 + 0 ≤ 0 by decide), (show 0 + 0 ≤ 0 by decide)⟩) (fun r_2 hw_1 => ?_)
  rcases hw_1 with ⟨hw_1, rfl⟩ | ⟨hw_1, rfl⟩
  · skip
    refine iif_neT (a := 1) (tgt := 9) hx hb (by decide) dX6_take_4 (by decide) (by decide) ?_
    refine lv_iload_n hx hb dX6_take_9 rfl (lv_at hl 1 rfl) ?_
    refine lv_i2l hx hb dX6_take_10 rfl ?_
    refine lv_aload_n hx hb dX6_take_11 rfl (lv_at hl 0 rfl) ?_
    refine va_get (D := D) (ci := 6) (v := .ref (q 25)) (C := RX6) (T := TX6) (N := 18) hx hb hts (fun _ h => List.mem_cons_of_mem _ (List.mem_append_left _ (List.mem_append_right _ h))) hown hK hP 0 rfl rfl 14 (by decide) (hts (.fieldLink RX6 77 "CrownTable" "table" "LCrownTable$Cloth;") (mem_i 1 rfl)) (fun _ h9 => h9) rfl dX6_take_12 ?_
    have hPc := hP.sub (ws' := [(q 25, .inr (0, [.ref (q 26)])), (q 26, .inl (c 1, 6, .inl (fun _ => 0)))]) [1, 2] rfl
    have hDc := hD.sub (ws' := [(q 25, .inr (0, [.ref (q 26)])), (q 26, .inl (c 1, 6, .inl (fun _ => 0)))]) [1, 2] (by decide) rfl
    have hFc := va_free (wc := [(q 25, .inr (0, [.ref (q 26)])), (q 26, .inl (c 1, 6, .inl (fun _ => 0)))]) hD hS hA [1, 2] rfl
    refine va_csl (va_runVN (As := []) (rest := [.long a1.toInt64]) ⟨hx, hb, hml, hown, hts⟩ (c_X0_lies l D c ts s.heap.size (q 25) (q 26)) ⟨va_cnB 0 hts gX6_take_X0_lies_n242 rfl rfl rfl (show va_Nw (.methodLinkNest RX6 242 yX0_lies RX6) _ from hAm.2.1.1 (RX6, 242, yX0_lies, RX6) (mem_i 24 rfl)) (hts (.initialized RX0) (mem_i 8 rfl)) hdX0_lies ⟨(show 0 + 1 ≤ 1 by decide), (show 8 + (4 + 11) + 0 ≤ 23 by decide)⟩, (hts (.instanceMethod yX0_lies) (mem_i 7 rfl)), (hts (.selects RX0 yX0_lies yX0_lies) (mem_i 9 rfl))⟩ ⟨Pre0.blind, va_recv hK hPc (ci := 0) (q0 := 0) rfl rfl, Pre0.at hPc hDc hAm hSt hS hFc⟩ rfl rfl hl.1 rfl (lv_room (Nat.le_of_ble_eq_true rfl)) dX6_take_15 ⟨(show 0 + 0 ≤ 0 by decide), (show 0 + 0 ≤ 0 by decide)⟩) (fun r_4 hw_3 => ?_)
    refine lk_l (y := 0) hw_3 ?_
    refine W.lcmp hx hb dX6_take_18 ?_
    refine lk_i (y := 1) (lcg_gt (a := i_a1) (b := 0) (ti_i2l hi_a1) (by decide) (by omega)) ?_
    refine iif_leF (a := 1) (tgt := 27) hx hb (by decide) dX6_take_19 (by decide) (by decide) ?_
    refine lv_bipush (v := (-2)) hx hb dX6_take_22 (by decide) ?_
    refine lv_goto (tgt := 35) hx hb dX6_take_24 (by decide) ?_
    exact W.iret (v := (-2)) hx hb hr (fun t ht hW => ⟨_, rfl, Or.inl ⟨by omega, rfl⟩, ht⟩) (fun _ h => by cases h) dX6_take_35
  · skip
    refine iif_neF (a := 0) (tgt := 9) hx hb (by decide) dX6_take_4 (by decide) (by decide) ?_
    refine lv_iconst (v := (-1)) hx hb dX6_take_7 (by decide) ?_
    exact W.iret (v := (-1)) hx hb hr (fun t ht hW => ⟨_, rfl, Or.inr (⟨by omega, rfl⟩), ht⟩) (fun _ h => by cases h) dX6_take_8

set_option maxHeartbeats 4000000 in
set_option maxRecDepth 100000 in
theorem c_X7_in_7 (l : Launch) (D : va_G) (c : Nat → ClassId) (ts : Nat × Nat) (sz : Nat)  (a0 : Int32) (i_a0 : Int) (hi_a0 : a0.toInt = i_a0) : Met l yX7_in wsX7_in ({ frames := 0, cells := 0, slots := 0, locals := 0 }) (va_Pc [.int a0, .int 1, .int 1000000] (Pre0 D c ts [] sz)) (vp_Si (fun r : Int32 => ((1 ≤ i_a0 ∧ i_a0 ≤ 1000000) ∧ r = 1) ∨ ((¬ (1 ≤ i_a0 ∧ i_a0 ≤ 1000000)) ∧ r = 0))) 0 0 (fun _ => False) := by
  refine Met.ofW (cc := cX7_in) (maxL := 3) (ret := (some .boolean)) (by decide) rfl ?_
  intro p e s m args below meth cd s₁ B hml hv
  obtain ⟨rfl, hsz, hP, hD0, hAm, hSt⟩ := hv
  have hx := B.exec
  have hb := B.bytes
  have hr := B.returns
  have hts := atoms_spec (ws := wsX7_in) B.pre
  have hown : s.vm.findClass RX7 = some m.cls := findClass_of_methodNamed B.named
  have hlocks := B.notSynchronized
  subst hsz
  have hK := hAm.1
  have hD := hD0.self (sz := s.heap.size)
  generalize hAe : va_A [] s.heap.size = A at hD hSt
  have hA : ∀ q : Nat, s.heap.size ≤ q → A q := fun q h => by rw [← hAe]; exact Or.inr h
  have hS : va_S A s.heap s.heap [] := va_S.rf
  clear hD0 hAe
  have hl := lv_entry ([.int a0, .int 1, .int 1000000]) (n := 3) (Nat.le_of_ble_eq_true rfl)
  rw [lg_entry_eq]
  generalize (lg_sl ([.int a0, .int 1, .int 1000000]) ++ List.replicate (3 - (lg_sl ([.int a0, .int 1, .int 1000000])).length) Slot.unset).toArray = ls at hl ⊢
  have hl : lv_has ls 3 [(0, .int a0), (1, .int 1), (2, .int 1000000)] := hl
  refine lv_iload_n hx hb dX7_in_0 rfl (lv_at hl 0 rfl) ?_
  refine lv_iload_n hx hb dX7_in_1 rfl (lv_at hl 1 rfl) ?_
  refine iicmp_lt (a := i_a0) (b := 1) (tgt := 14) hx hb hi_a0 (by decide) dX7_in_2 (by decide) (fun k_1 => ?_) (fun k_1 => ?_)
  · skip
    refine lv_iconst (v := 0) hx hb dX7_in_14 (by decide) ?_
    exact W.zret (v := 0) hx hb hr (by decide) (fun t ht hW => ⟨_, rfl, Or.inr (⟨by omega, rfl⟩), ht⟩) (fun _ h => by cases h) dX7_in_15
  · skip
    refine lv_iload_n hx hb dX7_in_5 rfl (lv_at hl 0 rfl) ?_
    refine lv_iload_n hx hb dX7_in_6 rfl (lv_at hl 2 rfl) ?_
    refine iicmp_gt (a := i_a0) (b := 1000000) (tgt := 14) hx hb hi_a0 (by decide) dX7_in_7 (by decide) (fun k_2 => ?_) (fun k_2 => ?_)
    · skip
      refine lv_iconst (v := 0) hx hb dX7_in_14 (by decide) ?_
      exact W.zret (v := 0) hx hb hr (by decide) (fun t ht hW => ⟨_, rfl, Or.inr (⟨by omega, rfl⟩), ht⟩) (fun _ h => by cases h) dX7_in_15
    · skip
      refine lv_iconst (v := 1) hx hb dX7_in_10 (by decide) ?_
      refine lv_goto (tgt := 15) hx hb dX7_in_11 (by decide) ?_
      exact W.zret (v := 1) hx hb hr (by decide) (fun t ht hW => ⟨_, rfl, Or.inl ⟨by omega, rfl⟩, ht⟩) (fun _ h => by cases h) dX7_in_15

set_option maxHeartbeats 4000000 in
set_option maxRecDepth 100000 in
theorem c_X7_worthOf (l : Launch) (D : va_G) (c : Nat → ClassId) (ts : Nat × Nat) (sz : Nat)  : Met l yX7_worthOf wsX7_worthOf ({ frames := 0, cells := 0, slots := 0, locals := 0 }) (va_Pc [.int 0] (Pre0 D c ts [] sz)) (vp_Si (fun r : Int32 => r = 1)) 0 0 (fun _ => False) := by
  refine Met.ofW (cc := cX7_worthOf) (maxL := 1) (ret := (some .int)) (by decide) rfl ?_
  intro p e s m args below meth cd s₁ B hml hv
  obtain ⟨rfl, hsz, hP, hD0, hAm, hSt⟩ := hv
  have hx := B.exec
  have hb := B.bytes
  have hr := B.returns
  have hts := atoms_spec (ws := wsX7_worthOf) B.pre
  have hown : s.vm.findClass RX7 = some m.cls := findClass_of_methodNamed B.named
  have hlocks := B.notSynchronized
  subst hsz
  have hK := hAm.1
  have hD := hD0.self (sz := s.heap.size)
  generalize hAe : va_A [] s.heap.size = A at hD hSt
  have hA : ∀ q : Nat, s.heap.size ≤ q → A q := fun q h => by rw [← hAe]; exact Or.inr h
  have hS : va_S A s.heap s.heap [] := va_S.rf
  clear hD0 hAe
  have hl := lv_entry ([.int 0]) (n := 1) (Nat.le_of_ble_eq_true rfl)
  rw [lg_entry_eq]
  generalize (lg_sl ([.int 0]) ++ List.replicate (1 - (lg_sl ([.int 0])).length) Slot.unset).toArray = ls at hl ⊢
  have hl : lv_has ls 1 [(0, .int 0)] := hl
  refine lv_iload_n hx hb dX7_worthOf_0 rfl (lv_at hl 0 rfl) ?_
  refine lv_tableIn (tgt := 36) hx hb dX7_worthOf_1 (by decide) (by decide) rfl (by decide) ?_
  refine lv_iconst (v := 1) hx hb dX7_worthOf_36 (by decide) ?_
  exact W.iret (v := 1) hx hb hr (fun t ht hW => ⟨_, rfl, rfl, ht⟩) (fun _ h => by cases h) dX7_worthOf_37

set_option maxHeartbeats 4000000 in
set_option maxRecDepth 100000 in
theorem c_X7_worthOf_1 (l : Launch) (D : va_G) (c : Nat → ClassId) (ts : Nat × Nat) (sz : Nat)  : Met l yX7_worthOf wsX7_worthOf ({ frames := 0, cells := 0, slots := 0, locals := 0 }) (va_Pc [.int 1] (Pre0 D c ts [] sz)) (vp_Si (fun r : Int32 => r = 12)) 0 0 (fun _ => False) := by
  refine Met.ofW (cc := cX7_worthOf) (maxL := 1) (ret := (some .int)) (by decide) rfl ?_
  intro p e s m args below meth cd s₁ B hml hv
  obtain ⟨rfl, hsz, hP, hD0, hAm, hSt⟩ := hv
  have hx := B.exec
  have hb := B.bytes
  have hr := B.returns
  have hts := atoms_spec (ws := wsX7_worthOf) B.pre
  have hown : s.vm.findClass RX7 = some m.cls := findClass_of_methodNamed B.named
  have hlocks := B.notSynchronized
  subst hsz
  have hK := hAm.1
  have hD := hD0.self (sz := s.heap.size)
  generalize hAe : va_A [] s.heap.size = A at hD hSt
  have hA : ∀ q : Nat, s.heap.size ≤ q → A q := fun q h => by rw [← hAe]; exact Or.inr h
  have hS : va_S A s.heap s.heap [] := va_S.rf
  clear hD0 hAe
  have hl := lv_entry ([.int 1]) (n := 1) (Nat.le_of_ble_eq_true rfl)
  rw [lg_entry_eq]
  generalize (lg_sl ([.int 1]) ++ List.replicate (1 - (lg_sl ([.int 1])).length) Slot.unset).toArray = ls at hl ⊢
  have hl : lv_has ls 1 [(0, .int 1)] := hl
  refine lv_iload_n hx hb dX7_worthOf_0 rfl (lv_at hl 0 rfl) ?_
  refine lv_tableIn (tgt := 38) hx hb dX7_worthOf_1 (by decide) (by decide) rfl (by decide) ?_
  refine lv_bipush (v := 12) hx hb dX7_worthOf_38 (by decide) ?_
  exact W.iret (v := 12) hx hb hr (fun t ht hW => ⟨_, rfl, rfl, ht⟩) (fun _ h => by cases h) dX7_worthOf_40

set_option maxHeartbeats 4000000 in
set_option maxRecDepth 100000 in
theorem c_X7_worthOf_2 (l : Launch) (D : va_G) (c : Nat → ClassId) (ts : Nat × Nat) (sz : Nat)  : Met l yX7_worthOf wsX7_worthOf ({ frames := 0, cells := 0, slots := 0, locals := 0 }) (va_Pc [.int 2] (Pre0 D c ts [] sz)) (vp_Si (fun r : Int32 => r = 240)) 0 0 (fun _ => False) := by
  refine Met.ofW (cc := cX7_worthOf) (maxL := 1) (ret := (some .int)) (by decide) rfl ?_
  intro p e s m args below meth cd s₁ B hml hv
  obtain ⟨rfl, hsz, hP, hD0, hAm, hSt⟩ := hv
  have hx := B.exec
  have hb := B.bytes
  have hr := B.returns
  have hts := atoms_spec (ws := wsX7_worthOf) B.pre
  have hown : s.vm.findClass RX7 = some m.cls := findClass_of_methodNamed B.named
  have hlocks := B.notSynchronized
  subst hsz
  have hK := hAm.1
  have hD := hD0.self (sz := s.heap.size)
  generalize hAe : va_A [] s.heap.size = A at hD hSt
  have hA : ∀ q : Nat, s.heap.size ≤ q → A q := fun q h => by rw [← hAe]; exact Or.inr h
  have hS : va_S A s.heap s.heap [] := va_S.rf
  clear hD0 hAe
  have hl := lv_entry ([.int 2]) (n := 1) (Nat.le_of_ble_eq_true rfl)
  rw [lg_entry_eq]
  generalize (lg_sl ([.int 2]) ++ List.replicate (1 - (lg_sl ([.int 2])).length) Slot.unset).toArray = ls at hl ⊢
  have hl : lv_has ls 1 [(0, .int 2)] := hl
  refine lv_iload_n hx hb dX7_worthOf_0 rfl (lv_at hl 0 rfl) ?_
  refine lv_tableIn (tgt := 41) hx hb dX7_worthOf_1 (by decide) (by decide) rfl (by decide) ?_
  refine lv_sipush (v := 240) hx hb dX7_worthOf_41 (by decide) ?_
  exact W.iret (v := 240) hx hb hr (fun t ht hW => ⟨_, rfl, rfl, ht⟩) (fun _ h => by cases h) dX7_worthOf_44

set_option maxHeartbeats 4000000 in
set_option maxRecDepth 100000 in
theorem c_X7_worthOf_3 (l : Launch) (D : va_G) (c : Nat → ClassId) (ts : Nat × Nat) (sz : Nat)  : Met l yX7_worthOf wsX7_worthOf ({ frames := 0, cells := 0, slots := 0, locals := 0 }) (va_Pc [.int 3] (Pre0 D c ts [] sz)) (vp_Si (fun r : Int32 => r = 4800)) 0 0 (fun _ => False) := by
  refine Met.ofW (cc := cX7_worthOf) (maxL := 1) (ret := (some .int)) (by decide) rfl ?_
  intro p e s m args below meth cd s₁ B hml hv
  obtain ⟨rfl, hsz, hP, hD0, hAm, hSt⟩ := hv
  have hx := B.exec
  have hb := B.bytes
  have hr := B.returns
  have hts := atoms_spec (ws := wsX7_worthOf) B.pre
  have hown : s.vm.findClass RX7 = some m.cls := findClass_of_methodNamed B.named
  have hlocks := B.notSynchronized
  subst hsz
  have hK := hAm.1
  have hD := hD0.self (sz := s.heap.size)
  generalize hAe : va_A [] s.heap.size = A at hD hSt
  have hA : ∀ q : Nat, s.heap.size ≤ q → A q := fun q h => by rw [← hAe]; exact Or.inr h
  have hS : va_S A s.heap s.heap [] := va_S.rf
  clear hD0 hAe
  have hl := lv_entry ([.int 3]) (n := 1) (Nat.le_of_ble_eq_true rfl)
  rw [lg_entry_eq]
  generalize (lg_sl ([.int 3]) ++ List.replicate (1 - (lg_sl ([.int 3])).length) Slot.unset).toArray = ls at hl ⊢
  have hl : lv_has ls 1 [(0, .int 3)] := hl
  refine lv_iload_n hx hb dX7_worthOf_0 rfl (lv_at hl 0 rfl) ?_
  refine lv_tableIn (tgt := 45) hx hb dX7_worthOf_1 (by decide) (by decide) rfl (by decide) ?_
  refine lv_sipush (v := 4800) hx hb dX7_worthOf_45 (by decide) ?_
  exact W.iret (v := 4800) hx hb hr (fun t ht hW => ⟨_, rfl, rfl, ht⟩) (fun _ h => by cases h) dX7_worthOf_48

set_option maxHeartbeats 4000000 in
set_option maxRecDepth 100000 in
theorem c_X7_worthOf_4 (l : Launch) (D : va_G) (c : Nat → ClassId) (ts : Nat × Nat) (sz : Nat)  : Met l yX7_worthOf wsX7_worthOf ({ frames := 0, cells := 0, slots := 0, locals := 0 }) (va_Pc [.int 4] (Pre0 D c ts [] sz)) (vp_Si (fun r : Int32 => r = 24000)) 0 0 (fun _ => False) := by
  refine Met.ofW (cc := cX7_worthOf) (maxL := 1) (ret := (some .int)) (by decide) rfl ?_
  intro p e s m args below meth cd s₁ B hml hv
  obtain ⟨rfl, hsz, hP, hD0, hAm, hSt⟩ := hv
  have hx := B.exec
  have hb := B.bytes
  have hr := B.returns
  have hts := atoms_spec (ws := wsX7_worthOf) B.pre
  have hown : s.vm.findClass RX7 = some m.cls := findClass_of_methodNamed B.named
  have hlocks := B.notSynchronized
  subst hsz
  have hK := hAm.1
  have hD := hD0.self (sz := s.heap.size)
  generalize hAe : va_A [] s.heap.size = A at hD hSt
  have hA : ∀ q : Nat, s.heap.size ≤ q → A q := fun q h => by rw [← hAe]; exact Or.inr h
  have hS : va_S A s.heap s.heap [] := va_S.rf
  clear hD0 hAe
  have hl := lv_entry ([.int 4]) (n := 1) (Nat.le_of_ble_eq_true rfl)
  rw [lg_entry_eq]
  generalize (lg_sl ([.int 4]) ++ List.replicate (1 - (lg_sl ([.int 4])).length) Slot.unset).toArray = ls at hl ⊢
  have hl : lv_has ls 1 [(0, .int 4)] := hl
  refine lv_iload_n hx hb dX7_worthOf_0 rfl (lv_at hl 0 rfl) ?_
  refine lv_tableIn (tgt := 49) hx hb dX7_worthOf_1 (by decide) (by decide) rfl (by decide) ?_
  refine lv_sipush (v := 24000) hx hb dX7_worthOf_49 (by decide) ?_
  exact W.iret (v := 24000) hx hb hr (fun t ht hW => ⟨_, rfl, rfl, ht⟩) (fun _ h => by cases h) dX7_worthOf_52

set_option maxHeartbeats 4000000 in
set_option maxRecDepth 100000 in
theorem c_X7_worthOf_5 (l : Launch) (D : va_G) (c : Nat → ClassId) (ts : Nat × Nat) (sz : Nat)  : Met l yX7_worthOf wsX7_worthOf ({ frames := 0, cells := 0, slots := 0, locals := 0 }) (va_Pc [.int 5] (Pre0 D c ts [] sz)) (vp_Si (fun r : Int32 => r = 240000)) 0 0 (fun _ => False) := by
  refine Met.ofW (cc := cX7_worthOf) (maxL := 1) (ret := (some .int)) (by decide) rfl ?_
  intro p e s m args below meth cd s₁ B hml hv
  obtain ⟨rfl, hsz, hP, hD0, hAm, hSt⟩ := hv
  have hx := B.exec
  have hb := B.bytes
  have hr := B.returns
  have hts := atoms_spec (ws := wsX7_worthOf) B.pre
  have hown : s.vm.findClass RX7 = some m.cls := findClass_of_methodNamed B.named
  have hlocks := B.notSynchronized
  subst hsz
  have hK := hAm.1
  have hD := hD0.self (sz := s.heap.size)
  generalize hAe : va_A [] s.heap.size = A at hD hSt
  have hA : ∀ q : Nat, s.heap.size ≤ q → A q := fun q h => by rw [← hAe]; exact Or.inr h
  have hS : va_S A s.heap s.heap [] := va_S.rf
  clear hD0 hAe
  have hl := lv_entry ([.int 5]) (n := 1) (Nat.le_of_ble_eq_true rfl)
  rw [lg_entry_eq]
  generalize (lg_sl ([.int 5]) ++ List.replicate (1 - (lg_sl ([.int 5])).length) Slot.unset).toArray = ls at hl ⊢
  have hl : lv_has ls 1 [(0, .int 5)] := hl
  refine lv_iload_n hx hb dX7_worthOf_0 rfl (lv_at hl 0 rfl) ?_
  refine lv_tableOut (tgt := 53) hx hb dX7_worthOf_1 (by decide) (by decide) ?_
  refine lv_ldcw (v := 240000) hx hb hown (hts (.constant RX7 340 (240000)) (mem_i 1 rfl)) dX7_worthOf_53 ?_
  exact W.iret (v := 240000) hx hb hr (fun t ht hW => ⟨_, rfl, rfl, ht⟩) (fun _ h => by cases h) dX7_worthOf_56

set_option maxHeartbeats 4000000 in
set_option maxRecDepth 100000 in
theorem c_X7_lies (l : Launch) (D : va_G) (c : Nat → ClassId) (ts : Nat × Nat) (sz : Nat) (q : Nat → Nat) (h0 : Nat) : Met l yX7_lies wsX7_lies ({ frames := 1, cells := 0, slots := 0, locals := 20 }) (va_Pc [.ref h0] (Pre0 D c ts [(h0, .inr (7, o7 q v0 w0)), (q 55, .inl (c 1, 6, .inl (fun _ => 0)))] sz)) (vp_Sl (fun r : Int64 => r = 0)) 0 0 (fun _ => False) := by
  refine Met.ofW (cc := cX7_lies) (maxL := 4) (ret := (some .long)) (by decide) rfl ?_
  intro p e s m args below meth cd s₁ B hml hv
  obtain ⟨rfl, hsz, hP, hD0, hAm, hSt⟩ := hv
  have hx := B.exec
  have hb := B.bytes
  have hr := B.returns
  have hts := atoms_spec (ws := wsX7_lies) B.pre
  have hown : s.vm.findClass RX7 = some m.cls := findClass_of_methodNamed B.named
  have hlocks := B.notSynchronized
  subst hsz
  have hK := hAm.1
  have hD := hD0.self (sz := s.heap.size)
  generalize hAe : va_A [(h0, .inr (7, o7 q v0 w0)), (q 55, .inl (c 1, 6, .inl (fun _ => 0)))] s.heap.size = A at hD hSt
  have hA : ∀ q : Nat, s.heap.size ≤ q → A q := fun q h => by rw [← hAe]; exact Or.inr h
  have hS : va_S A s.heap s.heap [] := va_S.rf
  clear hD0 hAe
  have hl := lv_entry ([.ref h0]) (n := 4) (Nat.le_of_ble_eq_true rfl)
  rw [lg_entry_eq]
  generalize (lg_sl ([.ref h0]) ++ List.replicate (4 - (lg_sl ([.ref h0])).length) Slot.unset).toArray = ls at hl ⊢
  have hl : lv_has ls 4 [(0, .ref h0)] := hl
  refine lv_lconst (v := 0) hx hb dX7_lies_0 (by decide) ?_
  refine lv_lstore_n (lv' := [(1, .long 0), (0, .ref h0)]) hx hb dX7_lies_1 rfl hl (by decide) rfl (fun ls hl => ?_)
  refine lv_iconst (v := 0) hx hb dX7_lies_2 (by decide) ?_
  refine lv_istore_n (lv' := [(3, .int 0), (1, .long 0), (0, .ref h0)]) hx hb dX7_lies_3 rfl hl (by decide) rfl (fun ls hl => ?_)
  refine lv_iload_n hx hb dX7_lies_4 rfl (lv_at hl 0 rfl) ?_
  refine lv_bipush (v := 6) hx hb dX7_lies_5 (by decide) ?_
  refine iicmp_geF (a := 0) (b := 6) (tgt := 32) hx hb (by decide) (by decide) dX7_lies_7 (by decide) (by decide) ?_
  refine lv_lload_n hx hb dX7_lies_10 rfl (lv_at hl 1 rfl) ?_
  refine lv_aload_n hx hb dX7_lies_11 rfl (lv_at hl 2 rfl) ?_
  refine va_get (D := D) (ci := 7) (v := .ref (q 55)) (C := RX7) (T := TX7) (N := 56) hx hb hts (fun _ h => List.mem_cons_of_mem _ (List.mem_append_right _ h)) hown hK hP 0 rfl rfl 55 (by decide) (hts (.fieldLink RX7 118 "CrownTableModel" "cloth" "[I") (mem_i 1 rfl)) (fun _ h9 => h9) rfl dX7_lies_12 ?_
  refine lv_iload_n hx hb dX7_lies_15 rfl (lv_at hl 0 rfl) ?_
  refine va_iald hx hb hK hP 1 1 rfl rfl (vin (a := 0) (by decide) (by decide) (by decide)) dX7_lies_16 ?_
  refine lk_i (y := 0) rfl ?_
  refine lv_i2l (v := 0) hx hb dX7_lies_17 (by decide) ?_
  refine lv_iload_n hx hb dX7_lies_18 rfl (lv_at hl 0 rfl) ?_
  have hPc := hP.sub (ws' := []) [] rfl
  have hDc := hD.sub (ws' := []) [] (by decide) rfl
  have hFc := va_free (wc := []) hD hS hA [] rfl
  refine va_csi (va_runS (As := [.int 0]) (rest := [.long 0, .long 0]) ⟨hx, hb, hml, hown, hts⟩ (c_X7_worthOf l D c ts s.heap.size) (cwS 1 hts gX7_lies_X7_worthOf rfl rfl rfl ⟨rfl, hdX7_worthOf⟩ ⟨(show 0 + 1 ≤ 1 by decide), (show 8 + (1 + 11) + 0 ≤ 20 by decide)⟩) ⟨Pre0.blind, Pre0.at hPc hDc hAm hSt hS hFc⟩ rfl rfl hl.1 rfl (lv_room (Nat.le_of_ble_eq_true rfl)) dX7_lies_19 ⟨(show 0 + 0 ≤ 0 by decide), (show 0 + 0 ≤ 0 by decide)⟩) (fun r_2 hw_1 => ?_)
  refine lk_i (y := 1) hw_1 ?_
  refine lv_i2l (v := 1) hx hb dX7_lies_22 (by decide) ?_
  refine lv_lmul hx hb dX7_lies_23 ?_
  refine lk_l (y := 0) (by decide) ?_
  refine lv_ladd hx hb dX7_lies_24 ?_
  refine lk_l (y := 0) (by decide) ?_
  refine lv_lstore_n (lv' := [(1, .long 0), (3, .int 0), (0, .ref h0)]) hx hb dX7_lies_25 rfl hl (by decide) rfl (fun ls hl => ?_)
  refine lv_iinc (v := 1) (lv' := [(3, .int 1), (1, .long 0), (0, .ref h0)]) hx hb dX7_lies_26 hl (k := 1) rfl (by decide) (by decide) rfl (fun ls hl => ?_)
  refine lv_goto (tgt := 4) hx hb dX7_lies_29 (by decide) ?_
  refine lv_iload_n hx hb dX7_lies_4 rfl (lv_at hl 0 rfl) ?_
  refine lv_bipush (v := 6) hx hb dX7_lies_5 (by decide) ?_
  refine iicmp_geF (a := 1) (b := 6) (tgt := 32) hx hb (by decide) (by decide) dX7_lies_7 (by decide) (by decide) ?_
  refine lv_lload_n hx hb dX7_lies_10 rfl (lv_at hl 1 rfl) ?_
  refine lv_aload_n hx hb dX7_lies_11 rfl (lv_at hl 2 rfl) ?_
  refine va_get (D := D) (ci := 7) (v := .ref (q 55)) (C := RX7) (T := TX7) (N := 56) hx hb hts (fun _ h => List.mem_cons_of_mem _ (List.mem_append_right _ h)) hown hK hP 0 rfl rfl 55 (by decide) (hts (.fieldLink RX7 118 "CrownTableModel" "cloth" "[I") (mem_i 1 rfl)) (fun _ h9 => h9) rfl dX7_lies_12 ?_
  refine lv_iload_n hx hb dX7_lies_15 rfl (lv_at hl 0 rfl) ?_
  refine va_iald hx hb hK hP 1 1 rfl rfl (vin (a := 1) (by decide) (by decide) (by decide)) dX7_lies_16 ?_
  refine lk_i (y := 0) rfl ?_
  refine lv_i2l (v := 0) hx hb dX7_lies_17 (by decide) ?_
  refine lv_iload_n hx hb dX7_lies_18 rfl (lv_at hl 0 rfl) ?_
  have hPc := hP.sub (ws' := []) [] rfl
  have hDc := hD.sub (ws' := []) [] (by decide) rfl
  have hFc := va_free (wc := []) hD hS hA [] rfl
  refine va_csi (va_runS (As := [.int 1]) (rest := [.long 0, .long 0]) ⟨hx, hb, hml, hown, hts⟩ (c_X7_worthOf_1 l D c ts s.heap.size) (cwS 1 hts gX7_lies_X7_worthOf rfl rfl rfl ⟨rfl, hdX7_worthOf⟩ ⟨(show 0 + 1 ≤ 1 by decide), (show 8 + (1 + 11) + 0 ≤ 20 by decide)⟩) ⟨Pre0.blind, Pre0.at hPc hDc hAm hSt hS hFc⟩ rfl rfl hl.1 rfl (lv_room (Nat.le_of_ble_eq_true rfl)) dX7_lies_19 ⟨(show 0 + 0 ≤ 0 by decide), (show 0 + 0 ≤ 0 by decide)⟩) (fun r_4 hw_3 => ?_)
  refine lk_i (y := 12) hw_3 ?_
  refine lv_i2l (v := 12) hx hb dX7_lies_22 (by decide) ?_
  refine lv_lmul hx hb dX7_lies_23 ?_
  refine lk_l (y := 0) (by decide) ?_
  refine lv_ladd hx hb dX7_lies_24 ?_
  refine lk_l (y := 0) (by decide) ?_
  refine lv_lstore_n (lv' := [(1, .long 0), (3, .int 1), (0, .ref h0)]) hx hb dX7_lies_25 rfl hl (by decide) rfl (fun ls hl => ?_)
  refine lv_iinc (v := 2) (lv' := [(3, .int 2), (1, .long 0), (0, .ref h0)]) hx hb dX7_lies_26 hl (k := 1) rfl (by decide) (by decide) rfl (fun ls hl => ?_)
  refine lv_goto (tgt := 4) hx hb dX7_lies_29 (by decide) ?_
  refine lv_iload_n hx hb dX7_lies_4 rfl (lv_at hl 0 rfl) ?_
  refine lv_bipush (v := 6) hx hb dX7_lies_5 (by decide) ?_
  refine iicmp_geF (a := 2) (b := 6) (tgt := 32) hx hb (by decide) (by decide) dX7_lies_7 (by decide) (by decide) ?_
  refine lv_lload_n hx hb dX7_lies_10 rfl (lv_at hl 1 rfl) ?_
  refine lv_aload_n hx hb dX7_lies_11 rfl (lv_at hl 2 rfl) ?_
  refine va_get (D := D) (ci := 7) (v := .ref (q 55)) (C := RX7) (T := TX7) (N := 56) hx hb hts (fun _ h => List.mem_cons_of_mem _ (List.mem_append_right _ h)) hown hK hP 0 rfl rfl 55 (by decide) (hts (.fieldLink RX7 118 "CrownTableModel" "cloth" "[I") (mem_i 1 rfl)) (fun _ h9 => h9) rfl dX7_lies_12 ?_
  refine lv_iload_n hx hb dX7_lies_15 rfl (lv_at hl 0 rfl) ?_
  refine va_iald hx hb hK hP 1 1 rfl rfl (vin (a := 2) (by decide) (by decide) (by decide)) dX7_lies_16 ?_
  refine lk_i (y := 0) rfl ?_
  refine lv_i2l (v := 0) hx hb dX7_lies_17 (by decide) ?_
  refine lv_iload_n hx hb dX7_lies_18 rfl (lv_at hl 0 rfl) ?_
  have hPc := hP.sub (ws' := []) [] rfl
  have hDc := hD.sub (ws' := []) [] (by decide) rfl
  have hFc := va_free (wc := []) hD hS hA [] rfl
  refine va_csi (va_runS (As := [.int 2]) (rest := [.long 0, .long 0]) ⟨hx, hb, hml, hown, hts⟩ (c_X7_worthOf_2 l D c ts s.heap.size) (cwS 1 hts gX7_lies_X7_worthOf rfl rfl rfl ⟨rfl, hdX7_worthOf⟩ ⟨(show 0 + 1 ≤ 1 by decide), (show 8 + (1 + 11) + 0 ≤ 20 by decide)⟩) ⟨Pre0.blind, Pre0.at hPc hDc hAm hSt hS hFc⟩ rfl rfl hl.1 rfl (lv_room (Nat.le_of_ble_eq_true rfl)) dX7_lies_19 ⟨(show 0 + 0 ≤ 0 by decide), (show 0 + 0 ≤ 0 by decide)⟩) (fun r_6 hw_5 => ?_)
  refine lk_i (y := 240) hw_5 ?_
  refine lv_i2l (v := 240) hx hb dX7_lies_22 (by decide) ?_
  refine lv_lmul hx hb dX7_lies_23 ?_
  refine lk_l (y := 0) (by decide) ?_
  refine lv_ladd hx hb dX7_lies_24 ?_
  refine lk_l (y := 0) (by decide) ?_
  refine lv_lstore_n (lv' := [(1, .long 0), (3, .int 2), (0, .ref h0)]) hx hb dX7_lies_25 rfl hl (by decide) rfl (fun ls hl => ?_)
  refine lv_iinc (v := 3) (lv' := [(3, .int 3), (1, .long 0), (0, .ref h0)]) hx hb dX7_lies_26 hl (k := 1) rfl (by decide) (by decide) rfl (fun ls hl => ?_)
  refine lv_goto (tgt := 4) hx hb dX7_lies_29 (by decide) ?_
  refine lv_iload_n hx hb dX7_lies_4 rfl (lv_at hl 0 rfl) ?_
  refine lv_bipush (v := 6) hx hb dX7_lies_5 (by decide) ?_
  refine iicmp_geF (a := 3) (b := 6) (tgt := 32) hx hb (by decide) (by decide) dX7_lies_7 (by decide) (by decide) ?_
  refine lv_lload_n hx hb dX7_lies_10 rfl (lv_at hl 1 rfl) ?_
  refine lv_aload_n hx hb dX7_lies_11 rfl (lv_at hl 2 rfl) ?_
  refine va_get (D := D) (ci := 7) (v := .ref (q 55)) (C := RX7) (T := TX7) (N := 56) hx hb hts (fun _ h => List.mem_cons_of_mem _ (List.mem_append_right _ h)) hown hK hP 0 rfl rfl 55 (by decide) (hts (.fieldLink RX7 118 "CrownTableModel" "cloth" "[I") (mem_i 1 rfl)) (fun _ h9 => h9) rfl dX7_lies_12 ?_
  refine lv_iload_n hx hb dX7_lies_15 rfl (lv_at hl 0 rfl) ?_
  refine va_iald hx hb hK hP 1 1 rfl rfl (vin (a := 3) (by decide) (by decide) (by decide)) dX7_lies_16 ?_
  refine lk_i (y := 0) rfl ?_
  refine lv_i2l (v := 0) hx hb dX7_lies_17 (by decide) ?_
  refine lv_iload_n hx hb dX7_lies_18 rfl (lv_at hl 0 rfl) ?_
  have hPc := hP.sub (ws' := []) [] rfl
  have hDc := hD.sub (ws' := []) [] (by decide) rfl
  have hFc := va_free (wc := []) hD hS hA [] rfl
  refine va_csi (va_runS (As := [.int 3]) (rest := [.long 0, .long 0]) ⟨hx, hb, hml, hown, hts⟩ (c_X7_worthOf_3 l D c ts s.heap.size) (cwS 1 hts gX7_lies_X7_worthOf rfl rfl rfl ⟨rfl, hdX7_worthOf⟩ ⟨(show 0 + 1 ≤ 1 by decide), (show 8 + (1 + 11) + 0 ≤ 20 by decide)⟩) ⟨Pre0.blind, Pre0.at hPc hDc hAm hSt hS hFc⟩ rfl rfl hl.1 rfl (lv_room (Nat.le_of_ble_eq_true rfl)) dX7_lies_19 ⟨(show 0 + 0 ≤ 0 by decide), (show 0 + 0 ≤ 0 by decide)⟩) (fun r_8 hw_7 => ?_)
  refine lk_i (y := 4800) hw_7 ?_
  refine lv_i2l (v := 4800) hx hb dX7_lies_22 (by decide) ?_
  refine lv_lmul hx hb dX7_lies_23 ?_
  refine lk_l (y := 0) (by decide) ?_
  refine lv_ladd hx hb dX7_lies_24 ?_
  refine lk_l (y := 0) (by decide) ?_
  refine lv_lstore_n (lv' := [(1, .long 0), (3, .int 3), (0, .ref h0)]) hx hb dX7_lies_25 rfl hl (by decide) rfl (fun ls hl => ?_)
  refine lv_iinc (v := 4) (lv' := [(3, .int 4), (1, .long 0), (0, .ref h0)]) hx hb dX7_lies_26 hl (k := 1) rfl (by decide) (by decide) rfl (fun ls hl => ?_)
  refine lv_goto (tgt := 4) hx hb dX7_lies_29 (by decide) ?_
  refine lv_iload_n hx hb dX7_lies_4 rfl (lv_at hl 0 rfl) ?_
  refine lv_bipush (v := 6) hx hb dX7_lies_5 (by decide) ?_
  refine iicmp_geF (a := 4) (b := 6) (tgt := 32) hx hb (by decide) (by decide) dX7_lies_7 (by decide) (by decide) ?_
  refine lv_lload_n hx hb dX7_lies_10 rfl (lv_at hl 1 rfl) ?_
  refine lv_aload_n hx hb dX7_lies_11 rfl (lv_at hl 2 rfl) ?_
  refine va_get (D := D) (ci := 7) (v := .ref (q 55)) (C := RX7) (T := TX7) (N := 56) hx hb hts (fun _ h => List.mem_cons_of_mem _ (List.mem_append_right _ h)) hown hK hP 0 rfl rfl 55 (by decide) (hts (.fieldLink RX7 118 "CrownTableModel" "cloth" "[I") (mem_i 1 rfl)) (fun _ h9 => h9) rfl dX7_lies_12 ?_
  refine lv_iload_n hx hb dX7_lies_15 rfl (lv_at hl 0 rfl) ?_
  refine va_iald hx hb hK hP 1 1 rfl rfl (vin (a := 4) (by decide) (by decide) (by decide)) dX7_lies_16 ?_
  refine lk_i (y := 0) rfl ?_
  refine lv_i2l (v := 0) hx hb dX7_lies_17 (by decide) ?_
  refine lv_iload_n hx hb dX7_lies_18 rfl (lv_at hl 0 rfl) ?_
  have hPc := hP.sub (ws' := []) [] rfl
  have hDc := hD.sub (ws' := []) [] (by decide) rfl
  have hFc := va_free (wc := []) hD hS hA [] rfl
  refine va_csi (va_runS (As := [.int 4]) (rest := [.long 0, .long 0]) ⟨hx, hb, hml, hown, hts⟩ (c_X7_worthOf_4 l D c ts s.heap.size) (cwS 1 hts gX7_lies_X7_worthOf rfl rfl rfl ⟨rfl, hdX7_worthOf⟩ ⟨(show 0 + 1 ≤ 1 by decide), (show 8 + (1 + 11) + 0 ≤ 20 by decide)⟩) ⟨Pre0.blind, Pre0.at hPc hDc hAm hSt hS hFc⟩ rfl rfl hl.1 rfl (lv_room (Nat.le_of_ble_eq_true rfl)) dX7_lies_19 ⟨(show 0 + 0 ≤ 0 by decide), (show 0 + 0 ≤ 0 by decide)⟩) (fun r_10 hw_9 => ?_)
  refine lk_i (y := 24000) hw_9 ?_
  refine lv_i2l (v := 24000) hx hb dX7_lies_22 (by decide) ?_
  refine lv_lmul hx hb dX7_lies_23 ?_
  refine lk_l (y := 0) (by decide) ?_
  refine lv_ladd hx hb dX7_lies_24 ?_
  refine lk_l (y := 0) (by decide) ?_
  refine lv_lstore_n (lv' := [(1, .long 0), (3, .int 4), (0, .ref h0)]) hx hb dX7_lies_25 rfl hl (by decide) rfl (fun ls hl => ?_)
  refine lv_iinc (v := 5) (lv' := [(3, .int 5), (1, .long 0), (0, .ref h0)]) hx hb dX7_lies_26 hl (k := 1) rfl (by decide) (by decide) rfl (fun ls hl => ?_)
  refine lv_goto (tgt := 4) hx hb dX7_lies_29 (by decide) ?_
  refine lv_iload_n hx hb dX7_lies_4 rfl (lv_at hl 0 rfl) ?_
  refine lv_bipush (v := 6) hx hb dX7_lies_5 (by decide) ?_
  refine iicmp_geF (a := 5) (b := 6) (tgt := 32) hx hb (by decide) (by decide) dX7_lies_7 (by decide) (by decide) ?_
  refine lv_lload_n hx hb dX7_lies_10 rfl (lv_at hl 1 rfl) ?_
  refine lv_aload_n hx hb dX7_lies_11 rfl (lv_at hl 2 rfl) ?_
  refine va_get (D := D) (ci := 7) (v := .ref (q 55)) (C := RX7) (T := TX7) (N := 56) hx hb hts (fun _ h => List.mem_cons_of_mem _ (List.mem_append_right _ h)) hown hK hP 0 rfl rfl 55 (by decide) (hts (.fieldLink RX7 118 "CrownTableModel" "cloth" "[I") (mem_i 1 rfl)) (fun _ h9 => h9) rfl dX7_lies_12 ?_
  refine lv_iload_n hx hb dX7_lies_15 rfl (lv_at hl 0 rfl) ?_
  refine va_iald hx hb hK hP 1 1 rfl rfl (vin (a := 5) (by decide) (by decide) (by decide)) dX7_lies_16 ?_
  refine lk_i (y := 0) rfl ?_
  refine lv_i2l (v := 0) hx hb dX7_lies_17 (by decide) ?_
  refine lv_iload_n hx hb dX7_lies_18 rfl (lv_at hl 0 rfl) ?_
  have hPc := hP.sub (ws' := []) [] rfl
  have hDc := hD.sub (ws' := []) [] (by decide) rfl
  have hFc := va_free (wc := []) hD hS hA [] rfl
  refine va_csi (va_runS (As := [.int 5]) (rest := [.long 0, .long 0]) ⟨hx, hb, hml, hown, hts⟩ (c_X7_worthOf_5 l D c ts s.heap.size) (cwS 1 hts gX7_lies_X7_worthOf rfl rfl rfl ⟨rfl, hdX7_worthOf⟩ ⟨(show 0 + 1 ≤ 1 by decide), (show 8 + (1 + 11) + 0 ≤ 20 by decide)⟩) ⟨Pre0.blind, Pre0.at hPc hDc hAm hSt hS hFc⟩ rfl rfl hl.1 rfl (lv_room (Nat.le_of_ble_eq_true rfl)) dX7_lies_19 ⟨(show 0 + 0 ≤ 0 by decide), (show 0 + 0 ≤ 0 by decide)⟩) (fun r_12 hw_11 => ?_)
  refine lk_i (y := 240000) hw_11 ?_
  refine lv_i2l (v := 240000) hx hb dX7_lies_22 (by decide) ?_
  refine lv_lmul hx hb dX7_lies_23 ?_
  refine lk_l (y := 0) (by decide) ?_
  refine lv_ladd hx hb dX7_lies_24 ?_
  refine lk_l (y := 0) (by decide) ?_
  refine lv_lstore_n (lv' := [(1, .long 0), (3, .int 5), (0, .ref h0)]) hx hb dX7_lies_25 rfl hl (by decide) rfl (fun ls hl => ?_)
  refine lv_iinc (v := 6) (lv' := [(3, .int 6), (1, .long 0), (0, .ref h0)]) hx hb dX7_lies_26 hl (k := 1) rfl (by decide) (by decide) rfl (fun ls hl => ?_)
  refine lv_goto (tgt := 4) hx hb dX7_lies_29 (by decide) ?_
  refine lv_iload_n hx hb dX7_lies_4 rfl (lv_at hl 0 rfl) ?_
  refine lv_bipush (v := 6) hx hb dX7_lies_5 (by decide) ?_
  refine iicmp_geT (a := 6) (b := 6) (tgt := 32) hx hb (by decide) (by decide) dX7_lies_7 (by decide) (by decide) ?_
  refine lv_lload_n hx hb dX7_lies_32 rfl (lv_at hl 1 rfl) ?_
  exact W.lret (v := 0) hx hb hr (fun t ht hW => ⟨_, rfl, rfl, ht⟩) (fun _ h => by cases h) dX7_lies_33

set_option maxHeartbeats 4000000 in
set_option maxRecDepth 100000 in
theorem c_X7_take (l : Launch) (D : va_G) (c : Nat → ClassId) (ts : Nat × Nat) (sz : Nat) (q : Nat → Nat) (h0 : Nat) (a1 : Int32) (i_a1 : Int) (hi_a1 : a1.toInt = i_a1) : Met l yX7_take wsX7_take ({ frames := 2, cells := 0, slots := 0, locals := 43 }) (va_Pc [.ref h0, .int a1] (Pre0 D c ts [(h0, .inr (7, o7 q v0 w0)), (q 55, .inl (c 1, 6, .inl (fun _ => 0)))] sz)) (vp_Si (fun r : Int32 => ((1 ≤ i_a1 ∧ i_a1 ≤ 1000000) ∧ r = (-2)) ∨ ((¬ (1 ≤ i_a1 ∧ i_a1 ≤ 1000000)) ∧ r = (-1)))) 0 0 (fun _ => False) := by
  refine Met.ofW (cc := cX7_take) (maxL := 6) (ret := (some .int)) (by decide) rfl ?_
  intro p e s m args below meth cd s₁ B hml hv
  obtain ⟨rfl, hsz, hP, hD0, hAm, hSt⟩ := hv
  have hx := B.exec
  have hb := B.bytes
  have hr := B.returns
  have hts := atoms_spec (ws := wsX7_take) B.pre
  have hown : s.vm.findClass RX7 = some m.cls := findClass_of_methodNamed B.named
  have hlocks := B.notSynchronized
  subst hsz
  have hK := hAm.1
  have hD := hD0.self (sz := s.heap.size)
  generalize hAe : va_A [(h0, .inr (7, o7 q v0 w0)), (q 55, .inl (c 1, 6, .inl (fun _ => 0)))] s.heap.size = A at hD hSt
  have hA : ∀ q : Nat, s.heap.size ≤ q → A q := fun q h => by rw [← hAe]; exact Or.inr h
  have hS : va_S A s.heap s.heap [] := va_S.rf
  clear hD0 hAe
  have hl := lv_entry ([.ref h0, .int a1]) (n := 6) (Nat.le_of_ble_eq_true rfl)
  rw [lg_entry_eq]
  generalize (lg_sl ([.ref h0, .int a1]) ++ List.replicate (6 - (lg_sl ([.ref h0, .int a1])).length) Slot.unset).toArray = ls at hl ⊢
  have hl : lv_has ls 6 [(0, .ref h0), (1, .int a1)] := hl
  refine lv_iload_n hx hb dX7_take_0 rfl (lv_at hl 1 rfl) ?_
  refine lv_iconst (v := 1) hx hb dX7_take_1 (by decide) ?_
  refine lv_ldcw (v := 1000000) hx hb hown (hts (.constant RX7 284 (1000000)) (mem_i 1 rfl)) dX7_take_2 ?_
  have hPc := hP.sub (ws' := []) [] rfl
  have hDc := hD.sub (ws' := []) [] (by decide) rfl
  have hFc := va_free (wc := []) hD hS hA [] rfl
  refine va_csi (va_runS (As := [.int a1, .int 1, .int 1000000]) (rest := []) ⟨hx, hb, hml, hown, hts⟩ (c_X7_in_7 l D c ts s.heap.size a1 i_a1 hi_a1) (cwS 3 hts gX7_take_X7_in rfl rfl rfl ⟨rfl, hdX7_in⟩ ⟨(show 0 + 1 ≤ 2 by decide), (show 8 + (3 + 11) + 0 ≤ 43 by decide)⟩) ⟨Pre0.blind, Pre0.at hPc hDc hAm hSt hS hFc⟩ rfl rfl hl.1 rfl (lv_room (Nat.le_of_ble_eq_true rfl)) dX7_take_5 ⟨(show 0 + 0 ≤ 0 by decide), (show 0 + 0 ≤ 0 by decide)⟩) (fun r_2 hw_1 => ?_)
  rcases hw_1 with ⟨hw_1, rfl⟩ | ⟨hw_1, rfl⟩
  · skip
    refine iif_neT (a := 1) (tgt := 13) hx hb (by decide) dX7_take_8 (by decide) (by decide) ?_
    refine lv_iload_n hx hb dX7_take_13 rfl (lv_at hl 1 rfl) ?_
    refine lv_i2l hx hb dX7_take_14 rfl ?_
    refine lv_aload_n hx hb dX7_take_15 rfl (lv_at hl 0 rfl) ?_
    have hPc := hP.sub (ws' := [(h0, .inr (7, o7 q v0 w0)), (q 55, .inl (c 1, 6, .inl (fun _ => 0)))]) [0, 1] rfl
    have hDc := hD.sub (ws' := [(h0, .inr (7, o7 q v0 w0)), (q 55, .inl (c 1, 6, .inl (fun _ => 0)))]) [0, 1] (by decide) rfl
    have hFc := va_free (wc := [(h0, .inr (7, o7 q v0 w0)), (q 55, .inl (c 1, 6, .inl (fun _ => 0)))]) hD hS hA [0, 1] rfl
    refine va_csl (va_runV (As := []) (rest := [.long a1.toInt64]) ⟨hx, hb, hml, hown, hts⟩ (c_X7_lies l D c ts s.heap.size q h0) (cwV 0 hts gX7_take_X7_lies rfl rfl rfl ⟨rfl, hdX7_lies⟩ ⟨(show 1 + 1 ≤ 2 by decide), (show 8 + (4 + 11) + 20 ≤ 43 by decide)⟩) ⟨Pre0.blind, va_recv hK hPc (ci := 7) (q0 := 0) rfl rfl, Pre0.at hPc hDc hAm hSt hS hFc⟩ rfl rfl hl.1 rfl (lv_room (Nat.le_of_ble_eq_true rfl)) dX7_take_16 ⟨(show 0 + 0 ≤ 0 by decide), (show 0 + 0 ≤ 0 by decide)⟩) (fun r_4 hw_3 => ?_)
    refine lk_l (y := 0) hw_3 ?_
    refine W.lcmp hx hb dX7_take_19 ?_
    refine lk_i (y := 1) (lcg_gt (a := i_a1) (b := 0) (ti_i2l hi_a1) (by decide) (by omega)) ?_
    refine iif_leF (a := 1) (tgt := 26) hx hb (by decide) dX7_take_20 (by decide) (by decide) ?_
    refine lv_bipush (v := (-2)) hx hb dX7_take_23 (by decide) ?_
    exact W.iret (v := (-2)) hx hb hr (fun t ht hW => ⟨_, rfl, Or.inl ⟨by omega, rfl⟩, ht⟩) (fun _ h => by cases h) dX7_take_25
  · skip
    refine iif_neF (a := 0) (tgt := 13) hx hb (by decide) dX7_take_8 (by decide) (by decide) ?_
    refine lv_iconst (v := (-1)) hx hb dX7_take_11 (by decide) ?_
    exact W.iret (v := (-1)) hx hb hr (fun t ht hW => ⟨_, rfl, Or.inr (⟨by omega, rfl⟩), ht⟩) (fun _ h => by cases h) dX7_take_12
