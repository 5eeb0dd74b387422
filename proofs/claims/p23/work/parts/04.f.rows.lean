set_option maxHeartbeats 4000000 in
set_option maxRecDepth 100000 in
theorem k_X0_lies (l : Launch) (D : va_G) (c : Nat → ClassId) (ts : Nat × Nat) (sz : Nat) (A_counters : Nat) (A_self : Nat) (f_counters : Nat → Int32) (hq0 : 0 ≤ (f_counters 0).toInt ∧ (f_counters 0).toInt ≤ 11) (hq1 : 0 ≤ (f_counters 1).toInt ∧ (f_counters 1).toInt ≤ 19) (hq2 : 0 ≤ (f_counters 2).toInt ∧ (f_counters 2).toInt ≤ 19) (hq3 : 0 ≤ (f_counters 3).toInt ∧ (f_counters 3).toInt ≤ 4) (hq4 : 0 ≤ (f_counters 4).toInt ∧ (f_counters 4).toInt ≤ 9) (hq5 : 0 ≤ (f_counters 5).toInt ∧ (f_counters 5).toInt ≤ 900000) : Met l yX0_lies wsX0_lies ({ frames := 0, cells := 0, slots := 0, locals := 0 }) (va_Pc [.ref A_self] (Pre0 D c ts [(A_self, .inr (0, [.ref A_counters])), (A_counters, .inl (c 1, 6, .inl f_counters))] sz)) (vp_Sl (fun r : Int64 => (r.toInt = (f_counters 0).toInt + 12 * (f_counters 1).toInt + 240 * (f_counters 2).toInt + 4800 * (f_counters 3).toInt + 24000 * (f_counters 4).toInt + 240000 * (f_counters 5).toInt))) 0 0 (fun _ => False) := by
  refine Met.ofW (cc := cX0_lies) (maxL := 4) (ret := (some .long)) (by decide) rfl ?_
  intro p e s m args below meth cd s₁ B hml hv
  obtain ⟨rfl, hsz, hP, hD0, hAm, hSt⟩ := hv
  have hx := B.exec
  have hb := B.bytes
  have hr := B.returns
  have hts := atoms_spec (ws := wsX0_lies) B.pre
  have hown : s.vm.findClass RX0 = some m.cls := findClass_of_methodNamed B.named
  have hlocks := B.notSynchronized
  have hK := hAm.1
  subst hsz
  have hD := hD0.self (sz := s.heap.size)
  generalize hAe : va_A [(A_self, .inr (0, [.ref A_counters])), (A_counters, .inl (c 1, 6, .inl f_counters))] s.heap.size = A at hD hSt
  have hA : ∀ q : Nat, s.heap.size ≤ q → A q := fun q h => by rw [← hAe]; exact Or.inr h
  have hS : va_S A s.heap s.heap [] := va_S.rf
  clear hD0 hAe
  have hl := lv_entry ([.ref A_self]) (n := 4) (Nat.le_of_ble_eq_true rfl)
  rw [lg_entry_eq]
  generalize (lg_sl ([.ref A_self]) ++ List.replicate (4 - (lg_sl ([.ref A_self])).length) Slot.unset).toArray = ls at hl ⊢
  have hl : lv_has ls 4 [(0, .ref A_self)] := hl
  refine lv_lconst (v := 0) hx hb dX0_lies_0 (by decide) ?_
  refine lv_lstore_n (lv' := [(1, .long 0), (0, .ref A_self)]) hx hb dX0_lies_1 rfl hl (by decide) rfl (fun ls hl => ?_)
  refine lv_iconst (v := 0) hx hb dX0_lies_2 (by decide) ?_
  refine lv_istore_n (lv' := [(3, .int 0), (1, .long 0), (0, .ref A_self)]) hx hb dX0_lies_3 rfl hl (by decide) rfl (fun ls hl => ?_)
  refine lv_iload_n hx hb dX0_lies_4 rfl (lv_at hl 0 rfl) ?_
  refine lv_bipush (v := 6) hx hb dX0_lies_5 (by decide) ?_
  refine iicmp_geF (a := 0) (b := 6) (tgt := 33) hx hb (by decide) (by decide) dX0_lies_7 (by decide) (by decide) ?_
  refine lv_lload_n hx hb dX0_lies_10 rfl (lv_at hl 1 rfl) ?_
  refine lv_aload_n hx hb dX0_lies_11 rfl (lv_at hl 2 rfl) ?_
  refine va_get (D := D) (ci := 0) (v := .ref A_counters) (C := RX0) (T := TX0) (N := 1) hx hb hts (fun _ h => List.mem_cons_of_mem _ (List.mem_append_right _ h)) hown hK hP 0 rfl rfl 0 (by decide) (hts (.fieldLink RX0 9 "CrownTable$Cloth" "counters" "[I") (mem_i 1 rfl)) (fun _ h9 => h9) rfl dX0_lies_12 ?_
  refine lv_iload_n hx hb dX0_lies_15 rfl (lv_at hl 0 rfl) ?_
  refine va_iald hx hb hK hP 1 1 rfl rfl (vin (a := 0) (by decide) (by decide) (by decide)) dX0_lies_16 ?_
  refine lv_topi (fun x_1 ex_1 => ?_)
  have lf_2 : (f_counters 0).toInt = x_1.toInt := by rw [ex_1]; rfl
  refine lv_i2l hx hb dX0_lies_17 rfl ?_
  refine va_gets hx hb hSt.1 hS hown (hts (.fieldLink RX0 16 "CrownTable$Cloth" "WORTHS" "[I") (mem_i 2 rfl)) (fun _ h9 => h9) dX0_lies_18 ?_
  refine lv_iload_n hx hb dX0_lies_21 rfl (lv_at hl 0 rfl) ?_
  refine va_ti (v := .int 1) hx hb hSt.2.1 hS (vin (a := 0) (by decide) (by decide) (by decide)) rfl dX0_lies_22 ?_
  refine lv_i2l (v := 1) hx hb dX0_lies_23 (by decide) ?_
  refine lv_lmul hx hb dX0_lies_24 ?_
  refine lv_topl (fun x_3 ex_3 => ?_)
  have tx_3 : x_3.toInt = x_1.toInt * 1 := by rw [ex_3]; exact mul_tl (show (x_1.toInt64 : Int64).toInt = x_1.toInt from (ti_i2l rfl)) (show (1 : Int64).toInt = 1 from (by decide)) (by omega) (by omega)
  refine lv_ladd hx hb dX0_lies_25 ?_
  refine lv_topl (fun x_4 ex_4 => ?_)
  have tx_4 : x_4.toInt = 0 + (x_1.toInt * 1) := by rw [ex_4]; exact add_tl (show (0 : Int64).toInt = 0 from (by decide)) (show (x_3 : Int64).toInt = (x_1.toInt * 1) from tx_3) (by omega) (by omega)
  refine lv_lstore_n (lv' := [(1, .long x_4), (3, .int 0), (0, .ref A_self)]) hx hb dX0_lies_26 rfl hl (by decide) rfl (fun ls hl => ?_)
  refine lv_iinc (v := 1) (lv' := [(3, .int 1), (1, .long x_4), (0, .ref A_self)]) hx hb dX0_lies_27 hl (k := 1) rfl (by decide) (by decide) rfl (fun ls hl => ?_)
  refine lv_goto (tgt := 4) hx hb dX0_lies_30 (by decide) ?_
  refine lv_iload_n hx hb dX0_lies_4 rfl (lv_at hl 0 rfl) ?_
  refine lv_bipush (v := 6) hx hb dX0_lies_5 (by decide) ?_
  refine iicmp_geF (a := 1) (b := 6) (tgt := 33) hx hb (by decide) (by decide) dX0_lies_7 (by decide) (by decide) ?_
  refine lv_lload_n hx hb dX0_lies_10 rfl (lv_at hl 1 rfl) ?_
  refine lv_aload_n hx hb dX0_lies_11 rfl (lv_at hl 2 rfl) ?_
  refine va_get (D := D) (ci := 0) (v := .ref A_counters) (C := RX0) (T := TX0) (N := 1) hx hb hts (fun _ h => List.mem_cons_of_mem _ (List.mem_append_right _ h)) hown hK hP 0 rfl rfl 0 (by decide) (hts (.fieldLink RX0 9 "CrownTable$Cloth" "counters" "[I") (mem_i 1 rfl)) (fun _ h9 => h9) rfl dX0_lies_12 ?_
  refine lv_iload_n hx hb dX0_lies_15 rfl (lv_at hl 0 rfl) ?_
  refine va_iald hx hb hK hP 1 1 rfl rfl (vin (a := 1) (by decide) (by decide) (by decide)) dX0_lies_16 ?_
  refine lv_topi (fun x_5 ex_5 => ?_)
  have lf_6 : (f_counters 1).toInt = x_5.toInt := by rw [ex_5]; rfl
  refine lv_i2l hx hb dX0_lies_17 rfl ?_
  refine va_gets hx hb hSt.1 hS hown (hts (.fieldLink RX0 16 "CrownTable$Cloth" "WORTHS" "[I") (mem_i 2 rfl)) (fun _ h9 => h9) dX0_lies_18 ?_
  refine lv_iload_n hx hb dX0_lies_21 rfl (lv_at hl 0 rfl) ?_
  refine va_ti (v := .int 12) hx hb hSt.2.1 hS (vin (a := 1) (by decide) (by decide) (by decide)) rfl dX0_lies_22 ?_
  refine lv_i2l (v := 12) hx hb dX0_lies_23 (by decide) ?_
  refine lv_lmul hx hb dX0_lies_24 ?_
  refine lv_topl (fun x_7 ex_7 => ?_)
  have tx_7 : x_7.toInt = x_5.toInt * 12 := by rw [ex_7]; exact mul_tl (show (x_5.toInt64 : Int64).toInt = x_5.toInt from (ti_i2l rfl)) (show (12 : Int64).toInt = 12 from (by decide)) (by omega) (by omega)
  refine lv_ladd hx hb dX0_lies_25 ?_
  refine lv_topl (fun x_8 ex_8 => ?_)
  have tx_8 : x_8.toInt = (0 + (x_1.toInt * 1)) + (x_5.toInt * 12) := by rw [ex_8]; exact add_tl (show (x_4 : Int64).toInt = (0 + (x_1.toInt * 1)) from tx_4) (show (x_7 : Int64).toInt = (x_5.toInt * 12) from tx_7) (by omega) (by omega)
  refine lv_lstore_n (lv' := [(1, .long x_8), (3, .int 1), (0, .ref A_self)]) hx hb dX0_lies_26 rfl hl (by decide) rfl (fun ls hl => ?_)
  refine lv_iinc (v := 2) (lv' := [(3, .int 2), (1, .long x_8), (0, .ref A_self)]) hx hb dX0_lies_27 hl (k := 1) rfl (by decide) (by decide) rfl (fun ls hl => ?_)
  refine lv_goto (tgt := 4) hx hb dX0_lies_30 (by decide) ?_
  refine lv_iload_n hx hb dX0_lies_4 rfl (lv_at hl 0 rfl) ?_
  refine lv_bipush (v := 6) hx hb dX0_lies_5 (by decide) ?_
  refine iicmp_geF (a := 2) (b := 6) (tgt := 33) hx hb (by decide) (by decide) dX0_lies_7 (by decide) (by decide) ?_
  refine lv_lload_n hx hb dX0_lies_10 rfl (lv_at hl 1 rfl) ?_
  refine lv_aload_n hx hb dX0_lies_11 rfl (lv_at hl 2 rfl) ?_
  refine va_get (D := D) (ci := 0) (v := .ref A_counters) (C := RX0) (T := TX0) (N := 1) hx hb hts (fun _ h => List.mem_cons_of_mem _ (List.mem_append_right _ h)) hown hK hP 0 rfl rfl 0 (by decide) (hts (.fieldLink RX0 9 "CrownTable$Cloth" "counters" "[I") (mem_i 1 rfl)) (fun _ h9 => h9) rfl dX0_lies_12 ?_
  refine lv_iload_n hx hb dX0_lies_15 rfl (lv_at hl 0 rfl) ?_
  refine va_iald hx hb hK hP 1 1 rfl rfl (vin (a := 2) (by decide) (by decide) (by decide)) dX0_lies_16 ?_
  refine lv_topi (fun x_9 ex_9 => ?_)
  have lf_10 : (f_counters 2).toInt = x_9.toInt := by rw [ex_9]; rfl
  refine lv_i2l hx hb dX0_lies_17 rfl ?_
  refine va_gets hx hb hSt.1 hS hown (hts (.fieldLink RX0 16 "CrownTable$Cloth" "WORTHS" "[I") (mem_i 2 rfl)) (fun _ h9 => h9) dX0_lies_18 ?_
  refine lv_iload_n hx hb dX0_lies_21 rfl (lv_at hl 0 rfl) ?_
  refine va_ti (v := .int 240) hx hb hSt.2.1 hS (vin (a := 2) (by decide) (by decide) (by decide)) rfl dX0_lies_22 ?_
  refine lv_i2l (v := 240) hx hb dX0_lies_23 (by decide) ?_
  refine lv_lmul hx hb dX0_lies_24 ?_
  refine lv_topl (fun x_11 ex_11 => ?_)
  have tx_11 : x_11.toInt = x_9.toInt * 240 := by rw [ex_11]; exact mul_tl (show (x_9.toInt64 : Int64).toInt = x_9.toInt from (ti_i2l rfl)) (show (240 : Int64).toInt = 240 from (by decide)) (by omega) (by omega)
  refine lv_ladd hx hb dX0_lies_25 ?_
  refine lv_topl (fun x_12 ex_12 => ?_)
  have tx_12 : x_12.toInt = ((0 + (x_1.toInt * 1)) + (x_5.toInt * 12)) + (x_9.toInt * 240) := by rw [ex_12]; exact add_tl (show (x_8 : Int64).toInt = ((0 + (x_1.toInt * 1)) + (x_5.toInt * 12)) from tx_8) (show (x_11 : Int64).toInt = (x_9.toInt * 240) from tx_11) (by omega) (by omega)
  refine lv_lstore_n (lv' := [(1, .long x_12), (3, .int 2), (0, .ref A_self)]) hx hb dX0_lies_26 rfl hl (by decide) rfl (fun ls hl => ?_)
  refine lv_iinc (v := 3) (lv' := [(3, .int 3), (1, .long x_12), (0, .ref A_self)]) hx hb dX0_lies_27 hl (k := 1) rfl (by decide) (by decide) rfl (fun ls hl => ?_)
  refine lv_goto (tgt := 4) hx hb dX0_lies_30 (by decide) ?_
  refine lv_iload_n hx hb dX0_lies_4 rfl (lv_at hl 0 rfl) ?_
  refine lv_bipush (v := 6) hx hb dX0_lies_5 (by decide) ?_
  refine iicmp_geF (a := 3) (b := 6) (tgt := 33) hx hb (by decide) (by decide) dX0_lies_7 (by decide) (by decide) ?_
  refine lv_lload_n hx hb dX0_lies_10 rfl (lv_at hl 1 rfl) ?_
  refine lv_aload_n hx hb dX0_lies_11 rfl (lv_at hl 2 rfl) ?_
  refine va_get (D := D) (ci := 0) (v := .ref A_counters) (C := RX0) (T := TX0) (N := 1) hx hb hts (fun _ h => List.mem_cons_of_mem _ (List.mem_append_right _ h)) hown hK hP 0 rfl rfl 0 (by decide) (hts (.fieldLink RX0 9 "CrownTable$Cloth" "counters" "[I") (mem_i 1 rfl)) (fun _ h9 => h9) rfl dX0_lies_12 ?_
  refine lv_iload_n hx hb dX0_lies_15 rfl (lv_at hl 0 rfl) ?_
  refine va_iald hx hb hK hP 1 1 rfl rfl (vin (a := 3) (by decide) (by decide) (by decide)) dX0_lies_16 ?_
  refine lv_topi (fun x_13 ex_13 => ?_)
  have lf_14 : (f_counters 3).toInt = x_13.toInt := by rw [ex_13]; rfl
  refine lv_i2l hx hb dX0_lies_17 rfl ?_
  refine va_gets hx hb hSt.1 hS hown (hts (.fieldLink RX0 16 "CrownTable$Cloth" "WORTHS" "[I") (mem_i 2 rfl)) (fun _ h9 => h9) dX0_lies_18 ?_
  refine lv_iload_n hx hb dX0_lies_21 rfl (lv_at hl 0 rfl) ?_
  refine va_ti (v := .int 4800) hx hb hSt.2.1 hS (vin (a := 3) (by decide) (by decide) (by decide)) rfl dX0_lies_22 ?_
  refine lv_i2l (v := 4800) hx hb dX0_lies_23 (by decide) ?_
  refine lv_lmul hx hb dX0_lies_24 ?_
  refine lv_topl (fun x_15 ex_15 => ?_)
  have tx_15 : x_15.toInt = x_13.toInt * 4800 := by rw [ex_15]; exact mul_tl (show (x_13.toInt64 : Int64).toInt = x_13.toInt from (ti_i2l rfl)) (show (4800 : Int64).toInt = 4800 from (by decide)) (by omega) (by omega)
  refine lv_ladd hx hb dX0_lies_25 ?_
  refine lv_topl (fun x_16 ex_16 => ?_)
  have tx_16 : x_16.toInt = (((0 + (x_1.toInt * 1)) + (x_5.toInt * 12)) + (x_9.toInt * 240)) + (x_13.toInt * 4800) := by rw [ex_16]; exact add_tl (show (x_12 : Int64).toInt = (((0 + (x_1.toInt * 1)) + (x_5.toInt * 12)) + (x_9.toInt * 240)) from tx_12) (show (x_15 : Int64).toInt = (x_13.toInt * 4800) from tx_15) (by omega) (by omega)
  refine lv_lstore_n (lv' := [(1, .long x_16), (3, .int 3), (0, .ref A_self)]) hx hb dX0_lies_26 rfl hl (by decide) rfl (fun ls hl => ?_)
  refine lv_iinc (v := 4) (lv' := [(3, .int 4), (1, .long x_16), (0, .ref A_self)]) hx hb dX0_lies_27 hl (k := 1) rfl (by decide) (by decide) rfl (fun ls hl => ?_)
  refine lv_goto (tgt := 4) hx hb dX0_lies_30 (by decide) ?_
  refine lv_iload_n hx hb dX0_lies_4 rfl (lv_at hl 0 rfl) ?_
  refine lv_bipush (v := 6) hx hb dX0_lies_5 (by decide) ?_
  refine iicmp_geF (a := 4) (b := 6) (tgt := 33) hx hb (by decide) (by decide) dX0_lies_7 (by decide) (by decide) ?_
  refine lv_lload_n hx hb dX0_lies_10 rfl (lv_at hl 1 rfl) ?_
  refine lv_aload_n hx hb dX0_lies_11 rfl (lv_at hl 2 rfl) ?_
  refine va_get (D := D) (ci := 0) (v := .ref A_counters) (C := RX0) (T := TX0) (N := 1) hx hb hts (fun _ h => List.mem_cons_of_mem _ (List.mem_append_right _ h)) hown hK hP 0 rfl rfl 0 (by decide) (hts (.fieldLink RX0 9 "CrownTable$Cloth" "counters" "[I") (mem_i 1 rfl)) (fun _ h9 => h9) rfl dX0_lies_12 ?_
  refine lv_iload_n hx hb dX0_lies_15 rfl (lv_at hl 0 rfl) ?_
  refine va_iald hx hb hK hP 1 1 rfl rfl (vin (a := 4) (by decide) (by decide) (by decide)) dX0_lies_16 ?_
  refine lv_topi (fun x_17 ex_17 => ?_)
  have lf_18 : (f_counters 4).toInt = x_17.toInt := by rw [ex_17]; rfl
  refine lv_i2l hx hb dX0_lies_17 rfl ?_
  refine va_gets hx hb hSt.1 hS hown (hts (.fieldLink RX0 16 "CrownTable$Cloth" "WORTHS" "[I") (mem_i 2 rfl)) (fun _ h9 => h9) dX0_lies_18 ?_
  refine lv_iload_n hx hb dX0_lies_21 rfl (lv_at hl 0 rfl) ?_
  refine va_ti (v := .int 24000) hx hb hSt.2.1 hS (vin (a := 4) (by decide) (by decide) (by decide)) rfl dX0_lies_22 ?_
  refine lv_i2l (v := 24000) hx hb dX0_lies_23 (by decide) ?_
  refine lv_lmul hx hb dX0_lies_24 ?_
  refine lv_topl (fun x_19 ex_19 => ?_)
  have tx_19 : x_19.toInt = x_17.toInt * 24000 := by rw [ex_19]; exact mul_tl (show (x_17.toInt64 : Int64).toInt = x_17.toInt from (ti_i2l rfl)) (show (24000 : Int64).toInt = 24000 from (by decide)) (by omega) (by omega)
  refine lv_ladd hx hb dX0_lies_25 ?_
  refine lv_topl (fun x_20 ex_20 => ?_)
  have tx_20 : x_20.toInt = ((((0 + (x_1.toInt * 1)) + (x_5.toInt * 12)) + (x_9.toInt * 240)) + (x_13.toInt * 4800)) + (x_17.toInt * 24000) := by rw [ex_20]; exact add_tl (show (x_16 : Int64).toInt = ((((0 + (x_1.toInt * 1)) + (x_5.toInt * 12)) + (x_9.toInt * 240)) + (x_13.toInt * 4800)) from tx_16) (show (x_19 : Int64).toInt = (x_17.toInt * 24000) from tx_19) (by omega) (by omega)
  refine lv_lstore_n (lv' := [(1, .long x_20), (3, .int 4), (0, .ref A_self)]) hx hb dX0_lies_26 rfl hl (by decide) rfl (fun ls hl => ?_)
  refine lv_iinc (v := 5) (lv' := [(3, .int 5), (1, .long x_20), (0, .ref A_self)]) hx hb dX0_lies_27 hl (k := 1) rfl (by decide) (by decide) rfl (fun ls hl => ?_)
  refine lv_goto (tgt := 4) hx hb dX0_lies_30 (by decide) ?_
  refine lv_iload_n hx hb dX0_lies_4 rfl (lv_at hl 0 rfl) ?_
  refine lv_bipush (v := 6) hx hb dX0_lies_5 (by decide) ?_
  refine iicmp_geF (a := 5) (b := 6) (tgt := 33) hx hb (by decide) (by decide) dX0_lies_7 (by decide) (by decide) ?_
  refine lv_lload_n hx hb dX0_lies_10 rfl (lv_at hl 1 rfl) ?_
  refine lv_aload_n hx hb dX0_lies_11 rfl (lv_at hl 2 rfl) ?_
  refine va_get (D := D) (ci := 0) (v := .ref A_counters) (C := RX0) (T := TX0) (N := 1) hx hb hts (fun _ h => List.mem_cons_of_mem _ (List.mem_append_right _ h)) hown hK hP 0 rfl rfl 0 (by decide) (hts (.fieldLink RX0 9 "CrownTable$Cloth" "counters" "[I") (mem_i 1 rfl)) (fun _ h9 => h9) rfl dX0_lies_12 ?_
  refine lv_iload_n hx hb dX0_lies_15 rfl (lv_at hl 0 rfl) ?_
  refine va_iald hx hb hK hP 1 1 rfl rfl (vin (a := 5) (by decide) (by decide) (by decide)) dX0_lies_16 ?_
  refine lv_topi (fun x_21 ex_21 => ?_)
  have lf_22 : (f_counters 5).toInt = x_21.toInt := by rw [ex_21]; rfl
  refine lv_i2l hx hb dX0_lies_17 rfl ?_
  refine va_gets hx hb hSt.1 hS hown (hts (.fieldLink RX0 16 "CrownTable$Cloth" "WORTHS" "[I") (mem_i 2 rfl)) (fun _ h9 => h9) dX0_lies_18 ?_
  refine lv_iload_n hx hb dX0_lies_21 rfl (lv_at hl 0 rfl) ?_
  refine va_ti (v := .int 240000) hx hb hSt.2.1 hS (vin (a := 5) (by decide) (by decide) (by decide)) rfl dX0_lies_22 ?_
  refine lv_i2l (v := 240000) hx hb dX0_lies_23 (by decide) ?_
  refine lv_lmul hx hb dX0_lies_24 ?_
  refine lv_topl (fun x_23 ex_23 => ?_)
  have tx_23 : x_23.toInt = x_21.toInt * 240000 := by rw [ex_23]; exact mul_tl (show (x_21.toInt64 : Int64).toInt = x_21.toInt from (ti_i2l rfl)) (show (240000 : Int64).toInt = 240000 from (by decide)) (by omega) (by omega)
  refine lv_ladd hx hb dX0_lies_25 ?_
  refine lv_topl (fun x_24 ex_24 => ?_)
  have tx_24 : x_24.toInt = (((((0 + (x_1.toInt * 1)) + (x_5.toInt * 12)) + (x_9.toInt * 240)) + (x_13.toInt * 4800)) + (x_17.toInt * 24000)) + (x_21.toInt * 240000) := by rw [ex_24]; exact add_tl (show (x_20 : Int64).toInt = (((((0 + (x_1.toInt * 1)) + (x_5.toInt * 12)) + (x_9.toInt * 240)) + (x_13.toInt * 4800)) + (x_17.toInt * 24000)) from tx_20) (show (x_23 : Int64).toInt = (x_21.toInt * 240000) from tx_23) (by omega) (by omega)
  refine lv_lstore_n (lv' := [(1, .long x_24), (3, .int 5), (0, .ref A_self)]) hx hb dX0_lies_26 rfl hl (by decide) rfl (fun ls hl => ?_)
  refine lv_iinc (v := 6) (lv' := [(3, .int 6), (1, .long x_24), (0, .ref A_self)]) hx hb dX0_lies_27 hl (k := 1) rfl (by decide) (by decide) rfl (fun ls hl => ?_)
  refine lv_goto (tgt := 4) hx hb dX0_lies_30 (by decide) ?_
  refine lv_iload_n hx hb dX0_lies_4 rfl (lv_at hl 0 rfl) ?_
  refine lv_bipush (v := 6) hx hb dX0_lies_5 (by decide) ?_
  refine iicmp_geT (a := 6) (b := 6) (tgt := 33) hx hb (by decide) (by decide) dX0_lies_7 (by decide) (by decide) ?_
  refine lv_lload_n hx hb dX0_lies_33 rfl (lv_at hl 1 rfl) ?_
  exact W.lret (v := x_24) hx hb hr (fun t ht hW => ⟨_, rfl, (by omega), ht⟩) (fun _ h => by cases h) dX0_lies_34

set_option maxHeartbeats 4000000 in
set_option maxRecDepth 100000 in
theorem k_X0_notches_P (l : Launch) (D : va_G) (c : Nat → ClassId) (ts : Nat × Nat) (sz : Nat)  (a1 : Int32) (i_a1 : Int) (hi_a1 : a1.toInt = i_a1) (a2 : Int32) (i_a2 : Int) (hi_a2 : a2.toInt = i_a2) (hv_a1 : 0 ≤ i_a1 ∧ i_a1 ≤ 10000000) (hv_a2 : 0 ≤ i_a2 ∧ i_a2 ≤ 5) : Met l yX0_notches wsX0_notches ({ frames := 0, cells := 0, slots := 0, locals := 0 }) (va_Pc [.int a1, .int a2] (Pre0 D c ts [] sz)) (vp_Si (fun r : Int32 => (0 ≤ r.toInt) ∧ (i_a2 = 0 → r.toInt = i_a1 % 12) ∧ (i_a2 = 1 → r.toInt = i_a1 / 12 % 20) ∧ (i_a2 = 2 → r.toInt = i_a1 / 240 % 20) ∧ (i_a2 = 3 → r.toInt = i_a1 / 4800 % 5) ∧ (i_a2 = 4 → r.toInt = i_a1 / 24000 % 10) ∧ (i_a2 = 5 → r.toInt = i_a1 / 240000))) 0 0 (fun _ => False) := by
  refine Met.ofW (cc := cX0_notches) (maxL := 2) (ret := (some .int)) (by decide) rfl ?_
  intro p e s m args below meth cd s₁ B hml hv
  obtain ⟨rfl, hsz, hP, hD0, hAm, hSt⟩ := hv
  have hx := B.exec
  have hb := B.bytes
  have hr := B.returns
  have hts := atoms_spec (ws := wsX0_notches) B.pre
  have hown : s.vm.findClass RX0 = some m.cls := findClass_of_methodNamed B.named
  have hlocks := B.notSynchronized
  have hK := hAm.1
  subst hsz
  have hD := hD0.self (sz := s.heap.size)
  generalize hAe : va_A [] s.heap.size = A at hD hSt
  have hA : ∀ q : Nat, s.heap.size ≤ q → A q := fun q h => by rw [← hAe]; exact Or.inr h
  have hS : va_S A s.heap s.heap [] := va_S.rf
  clear hD0 hAe
  have hl := lv_entry ([.int a1, .int a2]) (n := 2) (Nat.le_of_ble_eq_true rfl)
  rw [lg_entry_eq]
  generalize (lg_sl ([.int a1, .int a2]) ++ List.replicate (2 - (lg_sl ([.int a1, .int a2])).length) Slot.unset).toArray = ls at hl ⊢
  have hl : lv_has ls 2 [(0, .int a1), (1, .int a2)] := hl
  rcases (show i_a2 = 0 ∨ i_a2 = 1 ∨ i_a2 = 2 ∨ i_a2 = 3 ∨ i_a2 = 4 ∨ i_a2 = 5 by omega) with hsp | hsp | hsp | hsp | hsp | hsp
  · skip
    obtain rfl : a2 = 0 := Int32.toInt_inj.mp (by rw [hi_a2, hsp]; rfl)
    have hl : lv_has ls 2 [(0, .int a1), (1, .int 0)] := hl
    refine lv_iload_n hx hb dX0_notches_0 rfl (lv_at hl 1 rfl) ?_
    refine lv_tableIn (tgt := 40) hx hb dX0_notches_1 (by decide) (by decide) rfl (by decide) ?_
    refine lv_iload_n hx hb dX0_notches_40 rfl (lv_at hl 0 rfl) ?_
    refine lv_bipush (v := 12) hx hb dX0_notches_41 (by decide) ?_
    refine lv_irem hx hb dX0_notches_43 (by decide) ?_
    refine lv_topi (fun x_1 ex_1 => ?_)
    have tx_1 : x_1.toInt = (i_a1 % 12) := by rw [ex_1]; exact rem_ti (a := i_a1) (b := 12) hi_a1 (by decide) (by omega) (by omega) (by decide) (by decide)
    exact W.iret (v := x_1) hx hb hr (fun t ht hW => ⟨_, rfl, ⟨by omega, by omega, by omega, by omega, by omega, by omega, by omega⟩, ht⟩) (fun _ h => by cases h) dX0_notches_44
  · skip
    obtain rfl : a2 = 1 := Int32.toInt_inj.mp (by rw [hi_a2, hsp]; rfl)
    have hl : lv_has ls 2 [(0, .int a1), (1, .int 1)] := hl
    refine lv_iload_n hx hb dX0_notches_0 rfl (lv_at hl 1 rfl) ?_
    refine lv_tableIn (tgt := 45) hx hb dX0_notches_1 (by decide) (by decide) rfl (by decide) ?_
    refine lv_iload_n hx hb dX0_notches_45 rfl (lv_at hl 0 rfl) ?_
    refine lv_bipush (v := 12) hx hb dX0_notches_46 (by decide) ?_
    refine lv_idiv hx hb dX0_notches_48 (by decide) ?_
    refine lv_topi (fun x_2 ex_2 => ?_)
    have tx_2 : x_2.toInt = (i_a1 / 12) := by rw [ex_2]; exact div_ti (a := i_a1) (b := 12) hi_a1 (by decide) (by omega) (by omega) (by decide) (by decide)
    refine lv_bipush (v := 20) hx hb dX0_notches_49 (by decide) ?_
    refine lv_irem hx hb dX0_notches_51 (by decide) ?_
    refine lv_topi (fun x_3 ex_3 => ?_)
    have tx_3 : x_3.toInt = ((i_a1 / 12) % 20) := by rw [ex_3]; exact rem_ti (a := (i_a1 / 12)) (b := 20) tx_2 (by decide) (by omega) (by omega) (by decide) (by decide)
    exact W.iret (v := x_3) hx hb hr (fun t ht hW => ⟨_, rfl, ⟨by omega, by omega, by omega, by omega, by omega, by omega, by omega⟩, ht⟩) (fun _ h => by cases h) dX0_notches_52
  · skip
    obtain rfl : a2 = 2 := Int32.toInt_inj.mp (by rw [hi_a2, hsp]; rfl)
    have hl : lv_has ls 2 [(0, .int a1), (1, .int 2)] := hl
    refine lv_iload_n hx hb dX0_notches_0 rfl (lv_at hl 1 rfl) ?_
    refine lv_tableIn (tgt := 53) hx hb dX0_notches_1 (by decide) (by decide) rfl (by decide) ?_
    refine lv_iload_n hx hb dX0_notches_53 rfl (lv_at hl 0 rfl) ?_
    refine lv_sipush (v := 240) hx hb dX0_notches_54 (by decide) ?_
    refine lv_idiv hx hb dX0_notches_57 (by decide) ?_
    refine lv_topi (fun x_4 ex_4 => ?_)
    have tx_4 : x_4.toInt = (i_a1 / 240) := by rw [ex_4]; exact div_ti (a := i_a1) (b := 240) hi_a1 (by decide) (by omega) (by omega) (by decide) (by decide)
    refine lv_bipush (v := 20) hx hb dX0_notches_58 (by decide) ?_
    refine lv_irem hx hb dX0_notches_60 (by decide) ?_
    refine lv_topi (fun x_5 ex_5 => ?_)
    have tx_5 : x_5.toInt = ((i_a1 / 240) % 20) := by rw [ex_5]; exact rem_ti (a := (i_a1 / 240)) (b := 20) tx_4 (by decide) (by omega) (by omega) (by decide) (by decide)
    exact W.iret (v := x_5) hx hb hr (fun t ht hW => ⟨_, rfl, ⟨by omega, by omega, by omega, by omega, by omega, by omega, by omega⟩, ht⟩) (fun _ h => by cases h) dX0_notches_61
  · skip
    obtain rfl : a2 = 3 := Int32.toInt_inj.mp (by rw [hi_a2, hsp]; rfl)
    have hl : lv_has ls 2 [(0, .int a1), (1, .int 3)] := hl
    refine lv_iload_n hx hb dX0_notches_0 rfl (lv_at hl 1 rfl) ?_
    refine lv_tableIn (tgt := 62) hx hb dX0_notches_1 (by decide) (by decide) rfl (by decide) ?_
    refine lv_iload_n hx hb dX0_notches_62 rfl (lv_at hl 0 rfl) ?_
    refine lv_sipush (v := 4800) hx hb dX0_notches_63 (by decide) ?_
    refine lv_idiv hx hb dX0_notches_66 (by decide) ?_
    refine lv_topi (fun x_6 ex_6 => ?_)
    have tx_6 : x_6.toInt = (i_a1 / 4800) := by rw [ex_6]; exact div_ti (a := i_a1) (b := 4800) hi_a1 (by decide) (by omega) (by omega) (by decide) (by decide)
    refine lv_iconst (v := 5) hx hb dX0_notches_67 (by decide) ?_
    refine lv_irem hx hb dX0_notches_68 (by decide) ?_
    refine lv_topi (fun x_7 ex_7 => ?_)
    have tx_7 : x_7.toInt = ((i_a1 / 4800) % 5) := by rw [ex_7]; exact rem_ti (a := (i_a1 / 4800)) (b := 5) tx_6 (by decide) (by omega) (by omega) (by decide) (by decide)
    exact W.iret (v := x_7) hx hb hr (fun t ht hW => ⟨_, rfl, ⟨by omega, by omega, by omega, by omega, by omega, by omega, by omega⟩, ht⟩) (fun _ h => by cases h) dX0_notches_69
  · skip
    obtain rfl : a2 = 4 := Int32.toInt_inj.mp (by rw [hi_a2, hsp]; rfl)
    have hl : lv_has ls 2 [(0, .int a1), (1, .int 4)] := hl
    refine lv_iload_n hx hb dX0_notches_0 rfl (lv_at hl 1 rfl) ?_
    refine lv_tableIn (tgt := 70) hx hb dX0_notches_1 (by decide) (by decide) rfl (by decide) ?_
    refine lv_iload_n hx hb dX0_notches_70 rfl (lv_at hl 0 rfl) ?_
    refine lv_sipush (v := 24000) hx hb dX0_notches_71 (by decide) ?_
    refine lv_idiv hx hb dX0_notches_74 (by decide) ?_
    refine lv_topi (fun x_8 ex_8 => ?_)
    have tx_8 : x_8.toInt = (i_a1 / 24000) := by rw [ex_8]; exact div_ti (a := i_a1) (b := 24000) hi_a1 (by decide) (by omega) (by omega) (by decide) (by decide)
    refine lv_bipush (v := 10) hx hb dX0_notches_75 (by decide) ?_
    refine lv_irem hx hb dX0_notches_77 (by decide) ?_
    refine lv_topi (fun x_9 ex_9 => ?_)
    have tx_9 : x_9.toInt = ((i_a1 / 24000) % 10) := by rw [ex_9]; exact rem_ti (a := (i_a1 / 24000)) (b := 10) tx_8 (by decide) (by omega) (by omega) (by decide) (by decide)
    exact W.iret (v := x_9) hx hb hr (fun t ht hW => ⟨_, rfl, ⟨by omega, by omega, by omega, by omega, by omega, by omega, by omega⟩, ht⟩) (fun _ h => by cases h) dX0_notches_78
  · skip
    obtain rfl : a2 = 5 := Int32.toInt_inj.mp (by rw [hi_a2, hsp]; rfl)
    have hl : lv_has ls 2 [(0, .int a1), (1, .int 5)] := hl
    refine lv_iload_n hx hb dX0_notches_0 rfl (lv_at hl 1 rfl) ?_
    refine lv_tableIn (tgt := 79) hx hb dX0_notches_1 (by decide) (by decide) rfl (by decide) ?_
    refine lv_iload_n hx hb dX0_notches_79 rfl (lv_at hl 0 rfl) ?_
    refine lv_ldc (v := 240000) hx hb hown (hts (.constant RX0 15 (240000)) (mem_i 1 rfl)) dX0_notches_80 ?_
    refine lv_idiv hx hb dX0_notches_82 (by decide) ?_
    refine lv_topi (fun x_10 ex_10 => ?_)
    have tx_10 : x_10.toInt = (i_a1 / 240000) := by rw [ex_10]; exact div_ti (a := i_a1) (b := 240000) hi_a1 (by decide) (by omega) (by omega) (by decide) (by decide)
    exact W.iret (v := x_10) hx hb hr (fun t ht hW => ⟨_, rfl, ⟨by omega, by omega, by omega, by omega, by omega, by omega, by omega⟩, ht⟩) (fun _ h => by cases h) dX0_notches_83

set_option maxHeartbeats 4000000 in
set_option maxRecDepth 100000 in
theorem k_X0_layDown (l : Launch) (D : va_G) (c : Nat → ClassId) (ts : Nat × Nat) (sz : Nat) (A_counters : Nat) (A_self : Nat) (f_counters : Nat → Int32) (a1 : Int32) (i_a1 : Int) (hi_a1 : a1.toInt = i_a1) (hv_a1 : 1 ≤ i_a1 ∧ i_a1 ≤ 1000000) (hq0 : 0 ≤ (f_counters 0).toInt ∧ (f_counters 0).toInt ≤ 11) (hq1 : 0 ≤ (f_counters 1).toInt ∧ (f_counters 1).toInt ≤ 19) (hq2 : 0 ≤ (f_counters 2).toInt ∧ (f_counters 2).toInt ≤ 19) (hq3 : 0 ≤ (f_counters 3).toInt ∧ (f_counters 3).toInt ≤ 4) (hq4 : 0 ≤ (f_counters 4).toInt ∧ (f_counters 4).toInt ≤ 9) (hq5 : 0 ≤ (f_counters 5).toInt ∧ (f_counters 5).toInt ≤ 900000) : Met l yX0_layDown wsX0_layDown ({ frames := 1, cells := 0, slots := 0, locals := 21 }) (va_Pc [.ref A_self, .int a1] (Pre0 D c ts [(A_self, .inr (0, [.ref A_counters])), (A_counters, .inl (c 1, 6, .inl f_counters))] sz)) (va_Qi (fun (r : Int32) (u : (Nat → Int32) × Unit) => (LayI (f_counters 0).toInt (f_counters 1).toInt (f_counters 2).toInt (f_counters 3).toInt (f_counters 4).toInt (f_counters 5).toInt (u.1 0).toInt (u.1 1).toInt (u.1 2).toInt (u.1 3).toInt (u.1 4).toInt (u.1 5).toInt i_a1 r.toInt) ∧ (0 ≤ (u.1 0).toInt ∧ (u.1 0).toInt ≤ 11) ∧ (0 ≤ (u.1 1).toInt ∧ (u.1 1).toInt ≤ 19) ∧ (0 ≤ (u.1 2).toInt ∧ (u.1 2).toInt ≤ 19) ∧ (0 ≤ (u.1 3).toInt ∧ (u.1 3).toInt ≤ 4) ∧ (0 ≤ (u.1 4).toInt ∧ (u.1 4).toInt ≤ 9)) (fun u t => va_P D vwCl [(A_self, .inr (0, [.ref A_counters])), (A_counters, .inl (c 1, 6, .inl u.1))] t.heap ∧ va_D (va_A [(A_self, .inr (0, [.ref A_counters])), (A_counters, .inl (c 1, 6, .inl f_counters))] sz) [(A_self, .inr (0, [.ref A_counters])), (A_counters, .inl (c 1, 6, .inl u.1))]) (va_A [(A_self, .inr (0, [.ref A_counters])), (A_counters, .inl (c 1, 6, .inl f_counters))] sz)) 0 0 (va_A [(A_self, .inr (0, [.ref A_counters])), (A_counters, .inl (c 1, 6, .inl f_counters))] sz) := by
  refine Met.ofW (cc := cX0_layDown) (maxL := 4) (ret := (some .int)) (by decide) rfl ?_
  intro p e s m args below meth cd s₁ B hml hv
  obtain ⟨rfl, hsz, hP, hD0, hAm, hSt⟩ := hv
  have hx := B.exec
  have hb := B.bytes
  have hr := B.returns
  have hts := atoms_spec (ws := wsX0_layDown) B.pre
  have hown : s.vm.findClass RX0 = some m.cls := findClass_of_methodNamed B.named
  have hlocks := B.notSynchronized
  have hK := hAm.1
  subst hsz
  have hD := hD0.self (sz := s.heap.size)
  generalize hAe : va_A [(A_self, .inr (0, [.ref A_counters])), (A_counters, .inl (c 1, 6, .inl f_counters))] s.heap.size = A at hD hSt ⊢
  have hA : ∀ q : Nat, s.heap.size ≤ q → A q := fun q h => by rw [← hAe]; exact Or.inr h
  have hS : va_S A s.heap s.heap [] := va_S.rf
  clear hD0 hAe
  have hl := lv_entry ([.ref A_self, .int a1]) (n := 4) (Nat.le_of_ble_eq_true rfl)
  rw [lg_entry_eq]
  generalize (lg_sl ([.ref A_self, .int a1]) ++ List.replicate (4 - (lg_sl ([.ref A_self, .int a1])).length) Slot.unset).toArray = ls at hl ⊢
  have hl : lv_has ls 4 [(0, .ref A_self), (1, .int a1)] := hl
  obtain ⟨n0, n1, n2, n3, n4, n5, hDg⟩ := DgI.ex i_a1
  obtain ⟨nb0, nb1, nb2, nb3, nb4, nb5, nz⟩ := hDg.bd (by omega)
  clear nz
  refine lv_iconst (v := 0) hx hb dX0_layDown_0 (by decide) ?_
  refine lv_istore_n (lv' := [(2, .int 0), (0, .ref A_self), (1, .int a1)]) hx hb dX0_layDown_1 rfl hl (by decide) rfl (fun ls hl => ?_)
  have lp_2_6 : ∀ (M_counters : Nat → Int32) (hf2_6_0 : (M_counters 0).toInt = (f_counters 0).toInt + n0) (hf2_6_1 : (M_counters 1).toInt = (f_counters 1).toInt + n1) (hf2_6_2 : (M_counters 2).toInt = (f_counters 2).toInt + n2) (hf2_6_3 : (M_counters 3).toInt = (f_counters 3).toInt + n3) (hf2_6_4 : (M_counters 4).toInt = (f_counters 4).toInt + n4) (hf2_6_5 : (M_counters 5).toInt = (f_counters 5).toInt + n5) (H : Heap) (locs : List Loc) (ls : Array Slot), va_P D vwCl [(A_self, .inr (0, [.ref A_counters])), (A_counters, .inl (c 1, 6, .inl M_counters))] H → va_D A [(A_self, .inr (0, [.ref A_counters])), (A_counters, .inl (c 1, 6, .inl M_counters))] → va_S A s.heap H locs → lv_has ls 4 [(2, .int 6), (0, .ref A_self), (1, .int a1)] → W p l e (headSpec wsX0_layDown ({ frames := 1, cells := 0, slots := 0, locals := 21 })).room s m (([.ref A_self, .int a1] : List Value).toArray) below meth cd H locs 0 0 (MQ below (va_Qi (fun (r : Int32) (u : (Nat → Int32) × Unit) => (LayI (f_counters 0).toInt (f_counters 1).toInt (f_counters 2).toInt (f_counters 3).toInt (f_counters 4).toInt (f_counters 5).toInt (u.1 0).toInt (u.1 1).toInt (u.1 2).toInt (u.1 3).toInt (u.1 4).toInt (u.1 5).toInt i_a1 r.toInt) ∧ (0 ≤ (u.1 0).toInt ∧ (u.1 0).toInt ≤ 11) ∧ (0 ≤ (u.1 1).toInt ∧ (u.1 1).toInt ≤ 19) ∧ (0 ≤ (u.1 2).toInt ∧ (u.1 2).toInt ≤ 19) ∧ (0 ≤ (u.1 3).toInt ∧ (u.1 3).toInt ≤ 4) ∧ (0 ≤ (u.1 4).toInt ∧ (u.1 4).toInt ≤ 9)) (fun u t => va_P D vwCl [(A_self, .inr (0, [.ref A_counters])), (A_counters, .inl (c 1, 6, .inl u.1))] t.heap ∧ va_D A [(A_self, .inr (0, [.ref A_counters])), (A_counters, .inl (c 1, 6, .inl u.1))]) A) ([.ref A_self, .int a1] : List Value).toArray s 0 0 A) (F0 m 2 ls []) := by
    intro M_counters hf2_6_0 hf2_6_1 hf2_6_2 hf2_6_3 hf2_6_4 hf2_6_5 H locs ls hP hD hS hl
    refine lv_iload_n hx hb dX0_layDown_2 rfl (lv_at hl 0 rfl) ?_
    refine lv_bipush (v := 6) hx hb dX0_layDown_3 (by decide) ?_
    refine iicmp_geT (a := 6) (b := 6) (tgt := 28) hx hb (by decide) (by decide) dX0_layDown_5 (by decide) (by decide) ?_
    refine lv_iconst (v := 0) hx hb dX0_layDown_28 (by decide) ?_
    refine lv_istore_n (lv' := [(2, .int 0), (0, .ref A_self), (1, .int a1)]) hx hb dX0_layDown_29 rfl hl (by decide) rfl (fun ls hl => ?_)
    refine lv_iconst (v := 0) hx hb dX0_layDown_30 (by decide) ?_
    refine lv_istore_n (lv' := [(3, .int 0), (2, .int 0), (0, .ref A_self), (1, .int a1)]) hx hb dX0_layDown_31 rfl hl (by decide) rfl (fun ls hl => ?_)
    have lp_32_5 : ∀ (L2 : Int32) (M_counters : Nat → Int32) (k0 : Int) (k1 : Int) (k2 : Int) (k3 : Int) (k4 : Int) (hf32_5_0 : 0 ≤ L2.toInt) (hf32_5_1 : L2.toInt ≤ 5) (hf32_5_2 : (M_counters 0).toInt = (f_counters 0).toInt + n0 - 12 * k0) (hf32_5_3 : (M_counters 1).toInt = (f_counters 1).toInt + n1 + k0 - 20 * k1) (hf32_5_4 : (M_counters 2).toInt = (f_counters 2).toInt + n2 + k1 - 20 * k2) (hf32_5_5 : (M_counters 3).toInt = (f_counters 3).toInt + n3 + k2 - 5 * k3) (hf32_5_6 : (M_counters 4).toInt = (f_counters 4).toInt + n4 + k3 - 10 * k4) (hf32_5_7 : (M_counters 5).toInt = (f_counters 5).toInt + n5 + k4) (hf32_5_8 : 0 ≤ (M_counters 0).toInt ∧ (M_counters 0).toInt ≤ 11) (hf32_5_9 : 0 ≤ (M_counters 1).toInt ∧ (M_counters 1).toInt ≤ 19) (hf32_5_10 : 0 ≤ (M_counters 2).toInt ∧ (M_counters 2).toInt ≤ 19) (hf32_5_11 : 0 ≤ (M_counters 3).toInt ∧ (M_counters 3).toInt ≤ 4) (hf32_5_12 : 0 ≤ (M_counters 4).toInt ∧ (M_counters 4).toInt ≤ 9) (hf32_5_13 : 0 ≤ k0 ∧ k0 ≤ 1) (hf32_5_14 : 0 ≤ k1 ∧ k1 ≤ 1) (hf32_5_15 : 0 ≤ k2 ∧ k2 ≤ 1) (hf32_5_16 : 0 ≤ k3 ∧ k3 ≤ 1) (hf32_5_17 : 0 ≤ k4 ∧ k4 ≤ 1) (hf32_5_18 : L2.toInt = k0 + k1 + k2 + k3 + k4) (H : Heap) (locs : List Loc) (ls : Array Slot), va_P D vwCl [(A_self, .inr (0, [.ref A_counters])), (A_counters, .inl (c 1, 6, .inl M_counters))] H → va_D A [(A_self, .inr (0, [.ref A_counters])), (A_counters, .inl (c 1, 6, .inl M_counters))] → va_S A s.heap H locs → lv_has ls 4 [(3, .int 5), (0, .ref A_self), (1, .int a1), (2, .int L2)] → W p l e (headSpec wsX0_layDown ({ frames := 1, cells := 0, slots := 0, locals := 21 })).room s m (([.ref A_self, .int a1] : List Value).toArray) below meth cd H locs 0 0 (MQ below (va_Qi (fun (r : Int32) (u : (Nat → Int32) × Unit) => (LayI (f_counters 0).toInt (f_counters 1).toInt (f_counters 2).toInt (f_counters 3).toInt (f_counters 4).toInt (f_counters 5).toInt (u.1 0).toInt (u.1 1).toInt (u.1 2).toInt (u.1 3).toInt (u.1 4).toInt (u.1 5).toInt i_a1 r.toInt) ∧ (0 ≤ (u.1 0).toInt ∧ (u.1 0).toInt ≤ 11) ∧ (0 ≤ (u.1 1).toInt ∧ (u.1 1).toInt ≤ 19) ∧ (0 ≤ (u.1 2).toInt ∧ (u.1 2).toInt ≤ 19) ∧ (0 ≤ (u.1 3).toInt ∧ (u.1 3).toInt ≤ 4) ∧ (0 ≤ (u.1 4).toInt ∧ (u.1 4).toInt ≤ 9)) (fun u t => va_P D vwCl [(A_self, .inr (0, [.ref A_counters])), (A_counters, .inl (c 1, 6, .inl u.1))] t.heap ∧ va_D A [(A_self, .inr (0, [.ref A_counters])), (A_counters, .inl (c 1, 6, .inl u.1))]) A) ([.ref A_self, .int a1] : List Value).toArray s 0 0 A) (F0 m 32 ls []) := by
      intro L2 M_counters k0 k1 k2 k3 k4 hf32_5_0 hf32_5_1 hf32_5_2 hf32_5_3 hf32_5_4 hf32_5_5 hf32_5_6 hf32_5_7 hf32_5_8 hf32_5_9 hf32_5_10 hf32_5_11 hf32_5_12 hf32_5_13 hf32_5_14 hf32_5_15 hf32_5_16 hf32_5_17 hf32_5_18 H locs ls hP hD hS hl
      refine lv_iload_n hx hb dX0_layDown_32 rfl (lv_at hl 0 rfl) ?_
      refine va_gets hx hb hSt.2.2.1 hS hown (hts (.fieldLink RX0 23 "CrownTable$Cloth" "OF_THE_NEXT" "[I") (mem_i 2 rfl)) (fun _ h9 => h9) dX0_layDown_33 ?_
      refine va_tlen (v := 5) hx hb hSt.2.2.2.1 hS (by decide) dX0_layDown_36 ?_
      refine iicmp_geT (a := 5) (b := 5) (tgt := 89) hx hb (by decide) (by decide) dX0_layDown_37 (by decide) (by decide) ?_
      refine lv_iload_n hx hb dX0_layDown_89 rfl (lv_at hl 3 rfl) ?_
      have hP9 := hP.sub (ws' := [(A_self, .inr (0, [.ref A_counters])), (A_counters, .inl (c 1, 6, .inl M_counters))]) [0, 1] rfl
      have hD9 := hD.sub (ws' := [(A_self, .inr (0, [.ref A_counters])), (A_counters, .inl (c 1, 6, .inl M_counters))]) [0, 1] (by decide) rfl
      refine W.widen (k := 0) (n := 0) (by omega) (by omega) ?_
      exact W.iret (v := L2) hx hb hr (fun t ht hW => ⟨⟨_, (M_counters, ()), rfl, ⟨(show LayI (f_counters 0).toInt (f_counters 1).toInt (f_counters 2).toInt (f_counters 3).toInt (f_counters 4).toInt (f_counters 5).toInt (M_counters 0).toInt (M_counters 1).toInt (M_counters 2).toInt (M_counters 3).toInt (M_counters 4).toInt (M_counters 5).toInt i_a1 L2.toInt from ⟨n0, n1, n2, n3, n4, n5, k0, k1, k2, k3, k4, hDg, by omega, by omega, by omega, by omega, by omega, by omega, by omega, by omega, by omega, by omega, by omega, by omega⟩), (show 0 ≤ (M_counters 0).toInt ∧ (M_counters 0).toInt ≤ 11 by omega), (show 0 ≤ (M_counters 1).toInt ∧ (M_counters 1).toInt ≤ 19 by omega), (show 0 ≤ (M_counters 2).toInt ∧ (M_counters 2).toInt ≤ 19 by omega), (show 0 ≤ (M_counters 3).toInt ∧ (M_counters 3).toInt ≤ 4 by omega), (show 0 ≤ (M_counters 4).toInt ∧ (M_counters 4).toInt ≤ 9 by omega)⟩, ⟨by rw [ht]; exact hP9, hD9⟩⟩, hS.F ht⟩) hS.2.2 dX0_layDown_90
    have lp_32_4 : ∀ (L2 : Int32) (M_counters : Nat → Int32) (k0 : Int) (k1 : Int) (k2 : Int) (k3 : Int) (hf32_4_0 : 0 ≤ L2.toInt) (hf32_4_1 : L2.toInt ≤ 5) (hf32_4_2 : (M_counters 0).toInt = (f_counters 0).toInt + n0 - 12 * k0) (hf32_4_3 : (M_counters 1).toInt = (f_counters 1).toInt + n1 + k0 - 20 * k1) (hf32_4_4 : (M_counters 2).toInt = (f_counters 2).toInt + n2 + k1 - 20 * k2) (hf32_4_5 : (M_counters 3).toInt = (f_counters 3).toInt + n3 + k2 - 5 * k3) (hf32_4_6 : (M_counters 4).toInt = (f_counters 4).toInt + n4 + k3) (hf32_4_7 : (M_counters 5).toInt = (f_counters 5).toInt + n5) (hf32_4_8 : 0 ≤ (M_counters 0).toInt ∧ (M_counters 0).toInt ≤ 11) (hf32_4_9 : 0 ≤ (M_counters 1).toInt ∧ (M_counters 1).toInt ≤ 19) (hf32_4_10 : 0 ≤ (M_counters 2).toInt ∧ (M_counters 2).toInt ≤ 19) (hf32_4_11 : 0 ≤ (M_counters 3).toInt ∧ (M_counters 3).toInt ≤ 4) (hf32_4_12 : 0 ≤ k0 ∧ k0 ≤ 1) (hf32_4_13 : 0 ≤ k1 ∧ k1 ≤ 1) (hf32_4_14 : 0 ≤ k2 ∧ k2 ≤ 1) (hf32_4_15 : 0 ≤ k3 ∧ k3 ≤ 1) (hf32_4_16 : L2.toInt = k0 + k1 + k2 + k3) (H : Heap) (locs : List Loc) (ls : Array Slot), va_P D vwCl [(A_self, .inr (0, [.ref A_counters])), (A_counters, .inl (c 1, 6, .inl M_counters))] H → va_D A [(A_self, .inr (0, [.ref A_counters])), (A_counters, .inl (c 1, 6, .inl M_counters))] → va_S A s.heap H locs → lv_has ls 4 [(3, .int 4), (0, .ref A_self), (1, .int a1), (2, .int L2)] → W p l e (headSpec wsX0_layDown ({ frames := 1, cells := 0, slots := 0, locals := 21 })).room s m (([.ref A_self, .int a1] : List Value).toArray) below meth cd H locs 0 0 (MQ below (va_Qi (fun (r : Int32) (u : (Nat → Int32) × Unit) => (LayI (f_counters 0).toInt (f_counters 1).toInt (f_counters 2).toInt (f_counters 3).toInt (f_counters 4).toInt (f_counters 5).toInt (u.1 0).toInt (u.1 1).toInt (u.1 2).toInt (u.1 3).toInt (u.1 4).toInt (u.1 5).toInt i_a1 r.toInt) ∧ (0 ≤ (u.1 0).toInt ∧ (u.1 0).toInt ≤ 11) ∧ (0 ≤ (u.1 1).toInt ∧ (u.1 1).toInt ≤ 19) ∧ (0 ≤ (u.1 2).toInt ∧ (u.1 2).toInt ≤ 19) ∧ (0 ≤ (u.1 3).toInt ∧ (u.1 3).toInt ≤ 4) ∧ (0 ≤ (u.1 4).toInt ∧ (u.1 4).toInt ≤ 9)) (fun u t => va_P D vwCl [(A_self, .inr (0, [.ref A_counters])), (A_counters, .inl (c 1, 6, .inl u.1))] t.heap ∧ va_D A [(A_self, .inr (0, [.ref A_counters])), (A_counters, .inl (c 1, 6, .inl u.1))]) A) ([.ref A_self, .int a1] : List Value).toArray s 0 0 A) (F0 m 32 ls []) := by
      intro L2 M_counters k0 k1 k2 k3 hf32_4_0 hf32_4_1 hf32_4_2 hf32_4_3 hf32_4_4 hf32_4_5 hf32_4_6 hf32_4_7 hf32_4_8 hf32_4_9 hf32_4_10 hf32_4_11 hf32_4_12 hf32_4_13 hf32_4_14 hf32_4_15 hf32_4_16 H locs ls hP hD hS hl
      refine lv_iload_n hx hb dX0_layDown_32 rfl (lv_at hl 0 rfl) ?_
      refine va_gets hx hb hSt.2.2.1 hS hown (hts (.fieldLink RX0 23 "CrownTable$Cloth" "OF_THE_NEXT" "[I") (mem_i 2 rfl)) (fun _ h9 => h9) dX0_layDown_33 ?_
      refine va_tlen (v := 5) hx hb hSt.2.2.2.1 hS (by decide) dX0_layDown_36 ?_
      refine iicmp_geF (a := 4) (b := 5) (tgt := 89) hx hb (by decide) (by decide) dX0_layDown_37 (by decide) (by decide) ?_
      refine lv_aload_n hx hb dX0_layDown_40 rfl (lv_at hl 1 rfl) ?_
      refine va_get (D := D) (ci := 0) (v := .ref A_counters) (C := RX0) (T := TX0) (N := 1) hx hb hts (fun _ h => List.mem_cons_of_mem _ (List.mem_append_right _ h)) hown hK hP 0 rfl rfl 0 (by decide) (hts (.fieldLink RX0 9 "CrownTable$Cloth" "counters" "[I") (mem_i 1 rfl)) (fun _ h9 => h9) rfl dX0_layDown_41 ?_
      refine lv_iload_n hx hb dX0_layDown_44 rfl (lv_at hl 0 rfl) ?_
      refine va_iald hx hb hK hP 1 1 rfl rfl (vin (a := 4) (by decide) (by decide) (by decide)) dX0_layDown_45 ?_
      refine lv_topi (fun x_1 ex_1 => ?_)
      have lf_2 : (M_counters 4).toInt = x_1.toInt := by rw [ex_1]; rfl
      refine va_gets hx hb hSt.2.2.1 hS hown (hts (.fieldLink RX0 23 "CrownTable$Cloth" "OF_THE_NEXT" "[I") (mem_i 2 rfl)) (fun _ h9 => h9) dX0_layDown_46 ?_
      refine lv_iload_n hx hb dX0_layDown_49 rfl (lv_at hl 0 rfl) ?_
      refine va_ti (v := .int 10) hx hb hSt.2.2.2.1 hS (vin (a := 4) (by decide) (by decide) (by decide)) rfl dX0_layDown_50 ?_
      refine iicmp_lt (a := x_1.toInt) (b := 10) (tgt := 83) hx hb rfl (by decide) dX0_layDown_51 (by decide) (fun k_3 => ?_) (fun k_3 => ?_)
      · skip
        refine lv_iinc (v := 5) (lv' := [(3, .int 5), (0, .ref A_self), (1, .int a1), (2, .int L2)]) hx hb dX0_layDown_83 hl (k := 0) rfl (by decide) (by decide) rfl (fun ls hl => ?_)
        refine lv_goto (tgt := 32) hx hb dX0_layDown_86 (by decide) ?_
        exact lp_32_5 L2 M_counters k0 k1 k2 k3 0 (by omega) (by omega) (by omega) (by omega) (by omega) (by omega) (by omega) (by omega) (by omega) (by omega) (by omega) (by omega) (by omega) (by omega) (by omega) (by omega) (by omega) (by omega) (by omega) _ _ _ hP hD hS hl
      · skip
        refine lv_aload_n hx hb dX0_layDown_54 rfl (lv_at hl 1 rfl) ?_
        refine va_get (D := D) (ci := 0) (v := .ref A_counters) (C := RX0) (T := TX0) (N := 1) hx hb hts (fun _ h => List.mem_cons_of_mem _ (List.mem_append_right _ h)) hown hK hP 0 rfl rfl 0 (by decide) (hts (.fieldLink RX0 9 "CrownTable$Cloth" "counters" "[I") (mem_i 1 rfl)) (fun _ h9 => h9) rfl dX0_layDown_55 ?_
        refine lv_iload_n hx hb dX0_layDown_58 rfl (lv_at hl 0 rfl) ?_
        refine lv_dup2_11 hx hb dX0_layDown_59 rfl rfl ?_
        refine va_iald hx hb hK hP 1 1 rfl rfl (vin (a := 4) (by decide) (by decide) (by decide)) dX0_layDown_60 ?_
        refine lv_topi (fun x_4 ex_4 => ?_)
        have lf_5 : (M_counters 4).toInt = x_4.toInt := by rw [ex_4]; rfl
        refine va_gets hx hb hSt.2.2.1 hS hown (hts (.fieldLink RX0 23 "CrownTable$Cloth" "OF_THE_NEXT" "[I") (mem_i 2 rfl)) (fun _ h9 => h9) dX0_layDown_61 ?_
        refine lv_iload_n hx hb dX0_layDown_64 rfl (lv_at hl 0 rfl) ?_
        refine va_ti (v := .int 10) hx hb hSt.2.2.2.1 hS (vin (a := 4) (by decide) (by decide) (by decide)) rfl dX0_layDown_65 ?_
        refine lv_isub hx hb dX0_layDown_66 ?_
        refine lv_topi (fun x_6 ex_6 => ?_)
        have tx_6 : x_6.toInt = (x_4.toInt - 10) := by rw [ex_6]; exact sub_ti (a := x_4.toInt) (b := 10) rfl (by decide) (by omega) (by omega)
        refine va_iast hx hb hK hP hD hS 1 1 rfl rfl (vin (a := 4) (by decide) (by decide) (by decide)) dX0_layDown_67 (fun H locs hP hD hS => ?_)
        obtain ⟨f_7, ef_7, hP, hD⟩ : ∃ f_7 : Nat → Int32, f_7 = upd M_counters (4 : Int32).toNatClampNeg x_6 ∧ va_P D vwCl [(A_self, .inr (0, [.ref A_counters])), (A_counters, .inl (c 1, 6, .inl f_7))] H ∧ va_D A [(A_self, .inr (0, [.ref A_counters])), (A_counters, .inl (c 1, 6, .inl f_7))] := ⟨_, rfl, hP, hD⟩
        have cl_8 : (f_7 0).toInt = (M_counters 0).toInt := by rw [ef_7]; rfl
        have cl_9 : (f_7 1).toInt = (M_counters 1).toInt := by rw [ef_7]; rfl
        have cl_10 : (f_7 2).toInt = (M_counters 2).toInt := by rw [ef_7]; rfl
        have cl_11 : (f_7 3).toInt = (M_counters 3).toInt := by rw [ef_7]; rfl
        have cl_12 : (f_7 4).toInt = x_6.toInt := by rw [ef_7]; rfl
        have cl_13 : (f_7 5).toInt = (M_counters 5).toInt := by rw [ef_7]; rfl
        refine lv_aload_n hx hb dX0_layDown_68 rfl (lv_at hl 1 rfl) ?_
        refine va_get (D := D) (ci := 0) (v := .ref A_counters) (C := RX0) (T := TX0) (N := 1) hx hb hts (fun _ h => List.mem_cons_of_mem _ (List.mem_append_right _ h)) hown hK hP 0 rfl rfl 0 (by decide) (hts (.fieldLink RX0 9 "CrownTable$Cloth" "counters" "[I") (mem_i 1 rfl)) (fun _ h9 => h9) rfl dX0_layDown_69 ?_
        refine lv_iload_n hx hb dX0_layDown_72 rfl (lv_at hl 0 rfl) ?_
        refine lv_iconst (v := 1) hx hb dX0_layDown_73 (by decide) ?_
        refine lv_iadd hx hb dX0_layDown_74 ?_
        refine lk_i (y := 5) (by decide) ?_
        refine lv_dup2_11 hx hb dX0_layDown_75 rfl rfl ?_
        refine va_iald hx hb hK hP 1 1 rfl rfl (vin (a := 5) (by decide) (by decide) (by decide)) dX0_layDown_76 ?_
        refine lv_topi (fun x_14 ex_14 => ?_)
        have lf_15 : (f_7 5).toInt = x_14.toInt := by rw [ex_14]; rfl
        refine lv_iconst (v := 1) hx hb dX0_layDown_77 (by decide) ?_
        refine lv_iadd hx hb dX0_layDown_78 ?_
        refine lv_topi (fun x_16 ex_16 => ?_)
        have tx_16 : x_16.toInt = (x_14.toInt + 1) := by rw [ex_16]; exact add_ti (a := x_14.toInt) (b := 1) rfl (by decide) (by omega) (by omega)
        refine va_iast hx hb hK hP hD hS 1 1 rfl rfl (vin (a := 5) (by decide) (by decide) (by decide)) dX0_layDown_79 (fun H locs hP hD hS => ?_)
        obtain ⟨f_17, ef_17, hP, hD⟩ : ∃ f_17 : Nat → Int32, f_17 = upd f_7 (5 : Int32).toNatClampNeg x_16 ∧ va_P D vwCl [(A_self, .inr (0, [.ref A_counters])), (A_counters, .inl (c 1, 6, .inl f_17))] H ∧ va_D A [(A_self, .inr (0, [.ref A_counters])), (A_counters, .inl (c 1, 6, .inl f_17))] := ⟨_, rfl, hP, hD⟩
        have cl_18 : (f_17 0).toInt = (f_7 0).toInt := by rw [ef_17]; rfl
        have cl_19 : (f_17 1).toInt = (f_7 1).toInt := by rw [ef_17]; rfl
        have cl_20 : (f_17 2).toInt = (f_7 2).toInt := by rw [ef_17]; rfl
        have cl_21 : (f_17 3).toInt = (f_7 3).toInt := by rw [ef_17]; rfl
        have cl_22 : (f_17 4).toInt = (f_7 4).toInt := by rw [ef_17]; rfl
        have cl_23 : (f_17 5).toInt = x_16.toInt := by rw [ef_17]; rfl
        obtain ⟨x_24, ex_24⟩ : ∃ y : Int32, y = L2 + 1 := ⟨_, rfl⟩
        have tx_24 : x_24.toInt = L2.toInt + 1 := by rw [ex_24]; exact add_ti (a := L2.toInt) (b := 1) rfl (by decide) (by omega) (by omega)
        refine lv_iinc (v := x_24) (lv' := [(2, .int x_24), (3, .int 4), (0, .ref A_self), (1, .int a1)]) hx hb dX0_layDown_80 hl (k := 3) rfl (by rw [ex_24]; rfl) (by decide) rfl (fun ls hl => ?_)
        refine lv_iinc (v := 5) (lv' := [(3, .int 5), (2, .int x_24), (0, .ref A_self), (1, .int a1)]) hx hb dX0_layDown_83 hl (k := 1) rfl (by decide) (by decide) rfl (fun ls hl => ?_)
        refine lv_goto (tgt := 32) hx hb dX0_layDown_86 (by decide) ?_
        have hl := lv_sub hl [0, 2, 3, 1] rfl
        exact lp_32_5 x_24 f_17 k0 k1 k2 k3 1 (by omega) (by omega) (by omega) (by omega) (by omega) (by omega) (by omega) (by omega) (by omega) (by omega) (by omega) (by omega) (by omega) (by omega) (by omega) (by omega) (by omega) (by omega) (by omega) _ _ _ hP hD hS hl
    have lp_32_3 : ∀ (L2 : Int32) (M_counters : Nat → Int32) (k0 : Int) (k1 : Int) (k2 : Int) (hf32_3_0 : 0 ≤ L2.toInt) (hf32_3_1 : L2.toInt ≤ 5) (hf32_3_2 : (M_counters 0).toInt = (f_counters 0).toInt + n0 - 12 * k0) (hf32_3_3 : (M_counters 1).toInt = (f_counters 1).toInt + n1 + k0 - 20 * k1) (hf32_3_4 : (M_counters 2).toInt = (f_counters 2).toInt + n2 + k1 - 20 * k2) (hf32_3_5 : (M_counters 3).toInt = (f_counters 3).toInt + n3 + k2) (hf32_3_6 : (M_counters 4).toInt = (f_counters 4).toInt + n4) (hf32_3_7 : (M_counters 5).toInt = (f_counters 5).toInt + n5) (hf32_3_8 : 0 ≤ (M_counters 0).toInt ∧ (M_counters 0).toInt ≤ 11) (hf32_3_9 : 0 ≤ (M_counters 1).toInt ∧ (M_counters 1).toInt ≤ 19) (hf32_3_10 : 0 ≤ (M_counters 2).toInt ∧ (M_counters 2).toInt ≤ 19) (hf32_3_11 : 0 ≤ k0 ∧ k0 ≤ 1) (hf32_3_12 : 0 ≤ k1 ∧ k1 ≤ 1) (hf32_3_13 : 0 ≤ k2 ∧ k2 ≤ 1) (hf32_3_14 : L2.toInt = k0 + k1 + k2) (H : Heap) (locs : List Loc) (ls : Array Slot), va_P D vwCl [(A_self, .inr (0, [.ref A_counters])), (A_counters, .inl (c 1, 6, .inl M_counters))] H → va_D A [(A_self, .inr (0, [.ref A_counters])), (A_counters, .inl (c 1, 6, .inl M_counters))] → va_S A s.heap H locs → lv_has ls 4 [(3, .int 3), (0, .ref A_self), (1, .int a1), (2, .int L2)] → W p l e (headSpec wsX0_layDown ({ frames := 1, cells := 0, slots := 0, locals := 21 })).room s m (([.ref A_self, .int a1] : List Value).toArray) below meth cd H locs 0 0 (MQ below (va_Qi (fun (r : Int32) (u : (Nat → Int32) × Unit) => (LayI (f_counters 0).toInt (f_counters 1).toInt (f_counters 2).toInt (f_counters 3).toInt (f_counters 4).toInt (f_counters 5).toInt (u.1 0).toInt (u.1 1).toInt (u.1 2).toInt (u.1 3).toInt (u.1 4).toInt (u.1 5).toInt i_a1 r.toInt) ∧ (0 ≤ (u.1 0).toInt ∧ (u.1 0).toInt ≤ 11) ∧ (0 ≤ (u.1 1).toInt ∧ (u.1 1).toInt ≤ 19) ∧ (0 ≤ (u.1 2).toInt ∧ (u.1 2).toInt ≤ 19) ∧ (0 ≤ (u.1 3).toInt ∧ (u.1 3).toInt ≤ 4) ∧ (0 ≤ (u.1 4).toInt ∧ (u.1 4).toInt ≤ 9)) (fun u t => va_P D vwCl [(A_self, .inr (0, [.ref A_counters])), (A_counters, .inl (c 1, 6, .inl u.1))] t.heap ∧ va_D A [(A_self, .inr (0, [.ref A_counters])), (A_counters, .inl (c 1, 6, .inl u.1))]) A) ([.ref A_self, .int a1] : List Value).toArray s 0 0 A) (F0 m 32 ls []) := by
      intro L2 M_counters k0 k1 k2 hf32_3_0 hf32_3_1 hf32_3_2 hf32_3_3 hf32_3_4 hf32_3_5 hf32_3_6 hf32_3_7 hf32_3_8 hf32_3_9 hf32_3_10 hf32_3_11 hf32_3_12 hf32_3_13 hf32_3_14 H locs ls hP hD hS hl
      refine lv_iload_n hx hb dX0_layDown_32 rfl (lv_at hl 0 rfl) ?_
      refine va_gets hx hb hSt.2.2.1 hS hown (hts (.fieldLink RX0 23 "CrownTable$Cloth" "OF_THE_NEXT" "[I") (mem_i 2 rfl)) (fun _ h9 => h9) dX0_layDown_33 ?_
      refine va_tlen (v := 5) hx hb hSt.2.2.2.1 hS (by decide) dX0_layDown_36 ?_
      refine iicmp_geF (a := 3) (b := 5) (tgt := 89) hx hb (by decide) (by decide) dX0_layDown_37 (by decide) (by decide) ?_
      refine lv_aload_n hx hb dX0_layDown_40 rfl (lv_at hl 1 rfl) ?_
      refine va_get (D := D) (ci := 0) (v := .ref A_counters) (C := RX0) (T := TX0) (N := 1) hx hb hts (fun _ h => List.mem_cons_of_mem _ (List.mem_append_right _ h)) hown hK hP 0 rfl rfl 0 (by decide) (hts (.fieldLink RX0 9 "CrownTable$Cloth" "counters" "[I") (mem_i 1 rfl)) (fun _ h9 => h9) rfl dX0_layDown_41 ?_
      refine lv_iload_n hx hb dX0_layDown_44 rfl (lv_at hl 0 rfl) ?_
      refine va_iald hx hb hK hP 1 1 rfl rfl (vin (a := 3) (by decide) (by decide) (by decide)) dX0_layDown_45 ?_
      refine lv_topi (fun x_25 ex_25 => ?_)
      have lf_26 : (M_counters 3).toInt = x_25.toInt := by rw [ex_25]; rfl
      refine va_gets hx hb hSt.2.2.1 hS hown (hts (.fieldLink RX0 23 "CrownTable$Cloth" "OF_THE_NEXT" "[I") (mem_i 2 rfl)) (fun _ h9 => h9) dX0_layDown_46 ?_
      refine lv_iload_n hx hb dX0_layDown_49 rfl (lv_at hl 0 rfl) ?_
      refine va_ti (v := .int 5) hx hb hSt.2.2.2.1 hS (vin (a := 3) (by decide) (by decide) (by decide)) rfl dX0_layDown_50 ?_
      refine iicmp_lt (a := x_25.toInt) (b := 5) (tgt := 83) hx hb rfl (by decide) dX0_layDown_51 (by decide) (fun k_27 => ?_) (fun k_27 => ?_)
      · skip
        refine lv_iinc (v := 4) (lv' := [(3, .int 4), (0, .ref A_self), (1, .int a1), (2, .int L2)]) hx hb dX0_layDown_83 hl (k := 0) rfl (by decide) (by decide) rfl (fun ls hl => ?_)
        refine lv_goto (tgt := 32) hx hb dX0_layDown_86 (by decide) ?_
        exact lp_32_4 L2 M_counters k0 k1 k2 0 (by omega) (by omega) (by omega) (by omega) (by omega) (by omega) (by omega) (by omega) (by omega) (by omega) (by omega) (by omega) (by omega) (by omega) (by omega) (by omega) (by omega) _ _ _ hP hD hS hl
      · skip
        refine lv_aload_n hx hb dX0_layDown_54 rfl (lv_at hl 1 rfl) ?_
        refine va_get (D := D) (ci := 0) (v := .ref A_counters) (C := RX0) (T := TX0) (N := 1) hx hb hts (fun _ h => List.mem_cons_of_mem _ (List.mem_append_right _ h)) hown hK hP 0 rfl rfl 0 (by decide) (hts (.fieldLink RX0 9 "CrownTable$Cloth" "counters" "[I") (mem_i 1 rfl)) (fun _ h9 => h9) rfl dX0_layDown_55 ?_
        refine lv_iload_n hx hb dX0_layDown_58 rfl (lv_at hl 0 rfl) ?_
        refine lv_dup2_11 hx hb dX0_layDown_59 rfl rfl ?_
        refine va_iald hx hb hK hP 1 1 rfl rfl (vin (a := 3) (by decide) (by decide) (by decide)) dX0_layDown_60 ?_
        refine lv_topi (fun x_28 ex_28 => ?_)
        have lf_29 : (M_counters 3).toInt = x_28.toInt := by rw [ex_28]; rfl
        refine va_gets hx hb hSt.2.2.1 hS hown (hts (.fieldLink RX0 23 "CrownTable$Cloth" "OF_THE_NEXT" "[I") (mem_i 2 rfl)) (fun _ h9 => h9) dX0_layDown_61 ?_
        refine lv_iload_n hx hb dX0_layDown_64 rfl (lv_at hl 0 rfl) ?_
        refine va_ti (v := .int 5) hx hb hSt.2.2.2.1 hS (vin (a := 3) (by decide) (by decide) (by decide)) rfl dX0_layDown_65 ?_
        refine lv_isub hx hb dX0_layDown_66 ?_
        refine lv_topi (fun x_30 ex_30 => ?_)
        have tx_30 : x_30.toInt = (x_28.toInt - 5) := by rw [ex_30]; exact sub_ti (a := x_28.toInt) (b := 5) rfl (by decide) (by omega) (by omega)
        refine va_iast hx hb hK hP hD hS 1 1 rfl rfl (vin (a := 3) (by decide) (by decide) (by decide)) dX0_layDown_67 (fun H locs hP hD hS => ?_)
        obtain ⟨f_31, ef_31, hP, hD⟩ : ∃ f_31 : Nat → Int32, f_31 = upd M_counters (3 : Int32).toNatClampNeg x_30 ∧ va_P D vwCl [(A_self, .inr (0, [.ref A_counters])), (A_counters, .inl (c 1, 6, .inl f_31))] H ∧ va_D A [(A_self, .inr (0, [.ref A_counters])), (A_counters, .inl (c 1, 6, .inl f_31))] := ⟨_, rfl, hP, hD⟩
        have cl_32 : (f_31 0).toInt = (M_counters 0).toInt := by rw [ef_31]; rfl
        have cl_33 : (f_31 1).toInt = (M_counters 1).toInt := by rw [ef_31]; rfl
        have cl_34 : (f_31 2).toInt = (M_counters 2).toInt := by rw [ef_31]; rfl
        have cl_35 : (f_31 3).toInt = x_30.toInt := by rw [ef_31]; rfl
        have cl_36 : (f_31 4).toInt = (M_counters 4).toInt := by rw [ef_31]; rfl
        have cl_37 : (f_31 5).toInt = (M_counters 5).toInt := by rw [ef_31]; rfl
        refine lv_aload_n hx hb dX0_layDown_68 rfl (lv_at hl 1 rfl) ?_
        refine va_get (D := D) (ci := 0) (v := .ref A_counters) (C := RX0) (T := TX0) (N := 1) hx hb hts (fun _ h => List.mem_cons_of_mem _ (List.mem_append_right _ h)) hown hK hP 0 rfl rfl 0 (by decide) (hts (.fieldLink RX0 9 "CrownTable$Cloth" "counters" "[I") (mem_i 1 rfl)) (fun _ h9 => h9) rfl dX0_layDown_69 ?_
        refine lv_iload_n hx hb dX0_layDown_72 rfl (lv_at hl 0 rfl) ?_
        refine lv_iconst (v := 1) hx hb dX0_layDown_73 (by decide) ?_
        refine lv_iadd hx hb dX0_layDown_74 ?_
        refine lk_i (y := 4) (by decide) ?_
        refine lv_dup2_11 hx hb dX0_layDown_75 rfl rfl ?_
        refine va_iald hx hb hK hP 1 1 rfl rfl (vin (a := 4) (by decide) (by decide) (by decide)) dX0_layDown_76 ?_
        refine lv_topi (fun x_38 ex_38 => ?_)
        have lf_39 : (f_31 4).toInt = x_38.toInt := by rw [ex_38]; rfl
        refine lv_iconst (v := 1) hx hb dX0_layDown_77 (by decide) ?_
        refine lv_iadd hx hb dX0_layDown_78 ?_
        refine lv_topi (fun x_40 ex_40 => ?_)
        have tx_40 : x_40.toInt = (x_38.toInt + 1) := by rw [ex_40]; exact add_ti (a := x_38.toInt) (b := 1) rfl (by decide) (by omega) (by omega)
        refine va_iast hx hb hK hP hD hS 1 1 rfl rfl (vin (a := 4) (by decide) (by decide) (by decide)) dX0_layDown_79 (fun H locs hP hD hS => ?_)
        obtain ⟨f_41, ef_41, hP, hD⟩ : ∃ f_41 : Nat → Int32, f_41 = upd f_31 (4 : Int32).toNatClampNeg x_40 ∧ va_P D vwCl [(A_self, .inr (0, [.ref A_counters])), (A_counters, .inl (c 1, 6, .inl f_41))] H ∧ va_D A [(A_self, .inr (0, [.ref A_counters])), (A_counters, .inl (c 1, 6, .inl f_41))] := ⟨_, rfl, hP, hD⟩
        have cl_42 : (f_41 0).toInt = (f_31 0).toInt := by rw [ef_41]; rfl
        have cl_43 : (f_41 1).toInt = (f_31 1).toInt := by rw [ef_41]; rfl
        have cl_44 : (f_41 2).toInt = (f_31 2).toInt := by rw [ef_41]; rfl
        have cl_45 : (f_41 3).toInt = (f_31 3).toInt := by rw [ef_41]; rfl
        have cl_46 : (f_41 4).toInt = x_40.toInt := by rw [ef_41]; rfl
        have cl_47 : (f_41 5).toInt = (f_31 5).toInt := by rw [ef_41]; rfl
        obtain ⟨x_48, ex_48⟩ : ∃ y : Int32, y = L2 + 1 := ⟨_, rfl⟩
        have tx_48 : x_48.toInt = L2.toInt + 1 := by rw [ex_48]; exact add_ti (a := L2.toInt) (b := 1) rfl (by decide) (by omega) (by omega)
        refine lv_iinc (v := x_48) (lv' := [(2, .int x_48), (3, .int 3), (0, .ref A_self), (1, .int a1)]) hx hb dX0_layDown_80 hl (k := 3) rfl (by rw [ex_48]; rfl) (by decide) rfl (fun ls hl => ?_)
        refine lv_iinc (v := 4) (lv' := [(3, .int 4), (2, .int x_48), (0, .ref A_self), (1, .int a1)]) hx hb dX0_layDown_83 hl (k := 1) rfl (by decide) (by decide) rfl (fun ls hl => ?_)
        refine lv_goto (tgt := 32) hx hb dX0_layDown_86 (by decide) ?_
        have hl := lv_sub hl [0, 2, 3, 1] rfl
        exact lp_32_4 x_48 f_41 k0 k1 k2 1 (by omega) (by omega) (by omega) (by omega) (by omega) (by omega) (by omega) (by omega) (by omega) (by omega) (by omega) (by omega) (by omega) (by omega) (by omega) (by omega) (by omega) _ _ _ hP hD hS hl
    have lp_32_2 : ∀ (L2 : Int32) (M_counters : Nat → Int32) (k0 : Int) (k1 : Int) (hf32_2_0 : 0 ≤ L2.toInt) (hf32_2_1 : L2.toInt ≤ 5) (hf32_2_2 : (M_counters 0).toInt = (f_counters 0).toInt + n0 - 12 * k0) (hf32_2_3 : (M_counters 1).toInt = (f_counters 1).toInt + n1 + k0 - 20 * k1) (hf32_2_4 : (M_counters 2).toInt = (f_counters 2).toInt + n2 + k1) (hf32_2_5 : (M_counters 3).toInt = (f_counters 3).toInt + n3) (hf32_2_6 : (M_counters 4).toInt = (f_counters 4).toInt + n4) (hf32_2_7 : (M_counters 5).toInt = (f_counters 5).toInt + n5) (hf32_2_8 : 0 ≤ (M_counters 0).toInt ∧ (M_counters 0).toInt ≤ 11) (hf32_2_9 : 0 ≤ (M_counters 1).toInt ∧ (M_counters 1).toInt ≤ 19) (hf32_2_10 : 0 ≤ k0 ∧ k0 ≤ 1) (hf32_2_11 : 0 ≤ k1 ∧ k1 ≤ 1) (hf32_2_12 : L2.toInt = k0 + k1) (H : Heap) (locs : List Loc) (ls : Array Slot), va_P D vwCl [(A_self, .inr (0, [.ref A_counters])), (A_counters, .inl (c 1, 6, .inl M_counters))] H → va_D A [(A_self, .inr (0, [.ref A_counters])), (A_counters, .inl (c 1, 6, .inl M_counters))] → va_S A s.heap H locs → lv_has ls 4 [(3, .int 2), (0, .ref A_self), (1, .int a1), (2, .int L2)] → W p l e (headSpec wsX0_layDown ({ frames := 1, cells := 0, slots := 0, locals := 21 })).room s m (([.ref A_self, .int a1] : List Value).toArray) below meth cd H locs 0 0 (MQ below (va_Qi (fun (r : Int32) (u : (Nat → Int32) × Unit) => (LayI (f_counters 0).toInt (f_counters 1).toInt (f_counters 2).toInt (f_counters 3).toInt (f_counters 4).toInt (f_counters 5).toInt (u.1 0).toInt (u.1 1).toInt (u.1 2).toInt (u.1 3).toInt (u.1 4).toInt (u.1 5).toInt i_a1 r.toInt) ∧ (0 ≤ (u.1 0).toInt ∧ (u.1 0).toInt ≤ 11) ∧ (0 ≤ (u.1 1).toInt ∧ (u.1 1).toInt ≤ 19) ∧ (0 ≤ (u.1 2).toInt ∧ (u.1 2).toInt ≤ 19) ∧ (0 ≤ (u.1 3).toInt ∧ (u.1 3).toInt ≤ 4) ∧ (0 ≤ (u.1 4).toInt ∧ (u.1 4).toInt ≤ 9)) (fun u t => va_P D vwCl [(A_self, .inr (0, [.ref A_counters])), (A_counters, .inl (c 1, 6, .inl u.1))] t.heap ∧ va_D A [(A_self, .inr (0, [.ref A_counters])), (A_counters, .inl (c 1, 6, .inl u.1))]) A) ([.ref A_self, .int a1] : List Value).toArray s 0 0 A) (F0 m 32 ls []) := by
      intro L2 M_counters k0 k1 hf32_2_0 hf32_2_1 hf32_2_2 hf32_2_3 hf32_2_4 hf32_2_5 hf32_2_6 hf32_2_7 hf32_2_8 hf32_2_9 hf32_2_10 hf32_2_11 hf32_2_12 H locs ls hP hD hS hl
      refine lv_iload_n hx hb dX0_layDown_32 rfl (lv_at hl 0 rfl) ?_
      refine va_gets hx hb hSt.2.2.1 hS hown (hts (.fieldLink RX0 23 "CrownTable$Cloth" "OF_THE_NEXT" "[I") (mem_i 2 rfl)) (fun _ h9 => h9) dX0_layDown_33 ?_
      refine va_tlen (v := 5) hx hb hSt.2.2.2.1 hS (by decide) dX0_layDown_36 ?_
      refine iicmp_geF (a := 2) (b := 5) (tgt := 89) hx hb (by decide) (by decide) dX0_layDown_37 (by decide) (by decide) ?_
      refine lv_aload_n hx hb dX0_layDown_40 rfl (lv_at hl 1 rfl) ?_
      refine va_get (D := D) (ci := 0) (v := .ref A_counters) (C := RX0) (T := TX0) (N := 1) hx hb hts (fun _ h => List.mem_cons_of_mem _ (List.mem_append_right _ h)) hown hK hP 0 rfl rfl 0 (by decide) (hts (.fieldLink RX0 9 "CrownTable$Cloth" "counters" "[I") (mem_i 1 rfl)) (fun _ h9 => h9) rfl dX0_layDown_41 ?_
      refine lv_iload_n hx hb dX0_layDown_44 rfl (lv_at hl 0 rfl) ?_
      refine va_iald hx hb hK hP 1 1 rfl rfl (vin (a := 2) (by decide) (by decide) (by decide)) dX0_layDown_45 ?_
      refine lv_topi (fun x_49 ex_49 => ?_)
      have lf_50 : (M_counters 2).toInt = x_49.toInt := by rw [ex_49]; rfl
      refine va_gets hx hb hSt.2.2.1 hS hown (hts (.fieldLink RX0 23 "CrownTable$Cloth" "OF_THE_NEXT" "[I") (mem_i 2 rfl)) (fun _ h9 => h9) dX0_layDown_46 ?_
      refine lv_iload_n hx hb dX0_layDown_49 rfl (lv_at hl 0 rfl) ?_
      refine va_ti (v := .int 20) hx hb hSt.2.2.2.1 hS (vin (a := 2) (by decide) (by decide) (by decide)) rfl dX0_layDown_50 ?_
      refine iicmp_lt (a := x_49.toInt) (b := 20) (tgt := 83) hx hb rfl (by decide) dX0_layDown_51 (by decide) (fun k_51 => ?_) (fun k_51 => ?_)
      · skip
        refine lv_iinc (v := 3) (lv' := [(3, .int 3), (0, .ref A_self), (1, .int a1), (2, .int L2)]) hx hb dX0_layDown_83 hl (k := 0) rfl (by decide) (by decide) rfl (fun ls hl => ?_)
        refine lv_goto (tgt := 32) hx hb dX0_layDown_86 (by decide) ?_
        exact lp_32_3 L2 M_counters k0 k1 0 (by omega) (by omega) (by omega) (by omega) (by omega) (by omega) (by omega) (by omega) (by omega) (by omega) (by omega) (by omega) (by omega) (by omega) (by omega) _ _ _ hP hD hS hl
      · skip
        refine lv_aload_n hx hb dX0_layDown_54 rfl (lv_at hl 1 rfl) ?_
        refine va_get (D := D) (ci := 0) (v := .ref A_counters) (C := RX0) (T := TX0) (N := 1) hx hb hts (fun _ h => List.mem_cons_of_mem _ (List.mem_append_right _ h)) hown hK hP 0 rfl rfl 0 (by decide) (hts (.fieldLink RX0 9 "CrownTable$Cloth" "counters" "[I") (mem_i 1 rfl)) (fun _ h9 => h9) rfl dX0_layDown_55 ?_
        refine lv_iload_n hx hb dX0_layDown_58 rfl (lv_at hl 0 rfl) ?_
        refine lv_dup2_11 hx hb dX0_layDown_59 rfl rfl ?_
        refine va_iald hx hb hK hP 1 1 rfl rfl (vin (a := 2) (by decide) (by decide) (by decide)) dX0_layDown_60 ?_
        refine lv_topi (fun x_52 ex_52 => ?_)
        have lf_53 : (M_counters 2).toInt = x_52.toInt := by rw [ex_52]; rfl
        refine va_gets hx hb hSt.2.2.1 hS hown (hts (.fieldLink RX0 23 "CrownTable$Cloth" "OF_THE_NEXT" "[I") (mem_i 2 rfl)) (fun _ h9 => h9) dX0_layDown_61 ?_
        refine lv_iload_n hx hb dX0_layDown_64 rfl (lv_at hl 0 rfl) ?_
        refine va_ti (v := .int 20) hx hb hSt.2.2.2.1 hS (vin (a := 2) (by decide) (by decide) (by decide)) rfl dX0_layDown_65 ?_
        refine lv_isub hx hb dX0_layDown_66 ?_
        refine lv_topi (fun x_54 ex_54 => ?_)
        have tx_54 : x_54.toInt = (x_52.toInt - 20) := by rw [ex_54]; exact sub_ti (a := x_52.toInt) (b := 20) rfl (by decide) (by omega) (by omega)
        refine va_iast hx hb hK hP hD hS 1 1 rfl rfl (vin (a := 2) (by decide) (by decide) (by decide)) dX0_layDown_67 (fun H locs hP hD hS => ?_)
        obtain ⟨f_55, ef_55, hP, hD⟩ : ∃ f_55 : Nat → Int32, f_55 = upd M_counters (2 : Int32).toNatClampNeg x_54 ∧ va_P D vwCl [(A_self, .inr (0, [.ref A_counters])), (A_counters, .inl (c 1, 6, .inl f_55))] H ∧ va_D A [(A_self, .inr (0, [.ref A_counters])), (A_counters, .inl (c 1, 6, .inl f_55))] := ⟨_, rfl, hP, hD⟩
        have cl_56 : (f_55 0).toInt = (M_counters 0).toInt := by rw [ef_55]; rfl
        have cl_57 : (f_55 1).toInt = (M_counters 1).toInt := by rw [ef_55]; rfl
        have cl_58 : (f_55 2).toInt = x_54.toInt := by rw [ef_55]; rfl
        have cl_59 : (f_55 3).toInt = (M_counters 3).toInt := by rw [ef_55]; rfl
        have cl_60 : (f_55 4).toInt = (M_counters 4).toInt := by rw [ef_55]; rfl
        have cl_61 : (f_55 5).toInt = (M_counters 5).toInt := by rw [ef_55]; rfl
        refine lv_aload_n hx hb dX0_layDown_68 rfl (lv_at hl 1 rfl) ?_
        refine va_get (D := D) (ci := 0) (v := .ref A_counters) (C := RX0) (T := TX0) (N := 1) hx hb hts (fun _ h => List.mem_cons_of_mem _ (List.mem_append_right _ h)) hown hK hP 0 rfl rfl 0 (by decide) (hts (.fieldLink RX0 9 "CrownTable$Cloth" "counters" "[I") (mem_i 1 rfl)) (fun _ h9 => h9) rfl dX0_layDown_69 ?_
        refine lv_iload_n hx hb dX0_layDown_72 rfl (lv_at hl 0 rfl) ?_
        refine lv_iconst (v := 1) hx hb dX0_layDown_73 (by decide) ?_
        refine lv_iadd hx hb dX0_layDown_74 ?_
        refine lk_i (y := 3) (by decide) ?_
        refine lv_dup2_11 hx hb dX0_layDown_75 rfl rfl ?_
        refine va_iald hx hb hK hP 1 1 rfl rfl (vin (a := 3) (by decide) (by decide) (by decide)) dX0_layDown_76 ?_
        refine lv_topi (fun x_62 ex_62 => ?_)
        have lf_63 : (f_55 3).toInt = x_62.toInt := by rw [ex_62]; rfl
        refine lv_iconst (v := 1) hx hb dX0_layDown_77 (by decide) ?_
        refine lv_iadd hx hb dX0_layDown_78 ?_
        refine lv_topi (fun x_64 ex_64 => ?_)
        have tx_64 : x_64.toInt = (x_62.toInt + 1) := by rw [ex_64]; exact add_ti (a := x_62.toInt) (b := 1) rfl (by decide) (by omega) (by omega)
        refine va_iast hx hb hK hP hD hS 1 1 rfl rfl (vin (a := 3) (by decide) (by decide) (by decide)) dX0_layDown_79 (fun H locs hP hD hS => ?_)
        obtain ⟨f_65, ef_65, hP, hD⟩ : ∃ f_65 : Nat → Int32, f_65 = upd f_55 (3 : Int32).toNatClampNeg x_64 ∧ va_P D vwCl [(A_self, .inr (0, [.ref A_counters])), (A_counters, .inl (c 1, 6, .inl f_65))] H ∧ va_D A [(A_self, .inr (0, [.ref A_counters])), (A_counters, .inl (c 1, 6, .inl f_65))] := ⟨_, rfl, hP, hD⟩
        have cl_66 : (f_65 0).toInt = (f_55 0).toInt := by rw [ef_65]; rfl
        have cl_67 : (f_65 1).toInt = (f_55 1).toInt := by rw [ef_65]; rfl
        have cl_68 : (f_65 2).toInt = (f_55 2).toInt := by rw [ef_65]; rfl
        have cl_69 : (f_65 3).toInt = x_64.toInt := by rw [ef_65]; rfl
        have cl_70 : (f_65 4).toInt = (f_55 4).toInt := by rw [ef_65]; rfl
        have cl_71 : (f_65 5).toInt = (f_55 5).toInt := by rw [ef_65]; rfl
        obtain ⟨x_72, ex_72⟩ : ∃ y : Int32, y = L2 + 1 := ⟨_, rfl⟩
        have tx_72 : x_72.toInt = L2.toInt + 1 := by rw [ex_72]; exact add_ti (a := L2.toInt) (b := 1) rfl (by decide) (by omega) (by omega)
        refine lv_iinc (v := x_72) (lv' := [(2, .int x_72), (3, .int 2), (0, .ref A_self), (1, .int a1)]) hx hb dX0_layDown_80 hl (k := 3) rfl (by rw [ex_72]; rfl) (by decide) rfl (fun ls hl => ?_)
        refine lv_iinc (v := 3) (lv' := [(3, .int 3), (2, .int x_72), (0, .ref A_self), (1, .int a1)]) hx hb dX0_layDown_83 hl (k := 1) rfl (by decide) (by decide) rfl (fun ls hl => ?_)
        refine lv_goto (tgt := 32) hx hb dX0_layDown_86 (by decide) ?_
        have hl := lv_sub hl [0, 2, 3, 1] rfl
        exact lp_32_3 x_72 f_65 k0 k1 1 (by omega) (by omega) (by omega) (by omega) (by omega) (by omega) (by omega) (by omega) (by omega) (by omega) (by omega) (by omega) (by omega) (by omega) (by omega) _ _ _ hP hD hS hl
    have lp_32_1 : ∀ (L2 : Int32) (M_counters : Nat → Int32) (k0 : Int) (hf32_1_0 : 0 ≤ L2.toInt) (hf32_1_1 : L2.toInt ≤ 5) (hf32_1_2 : (M_counters 0).toInt = (f_counters 0).toInt + n0 - 12 * k0) (hf32_1_3 : (M_counters 1).toInt = (f_counters 1).toInt + n1 + k0) (hf32_1_4 : (M_counters 2).toInt = (f_counters 2).toInt + n2) (hf32_1_5 : (M_counters 3).toInt = (f_counters 3).toInt + n3) (hf32_1_6 : (M_counters 4).toInt = (f_counters 4).toInt + n4) (hf32_1_7 : (M_counters 5).toInt = (f_counters 5).toInt + n5) (hf32_1_8 : 0 ≤ (M_counters 0).toInt ∧ (M_counters 0).toInt ≤ 11) (hf32_1_9 : 0 ≤ k0 ∧ k0 ≤ 1) (hf32_1_10 : L2.toInt = k0) (H : Heap) (locs : List Loc) (ls : Array Slot), va_P D vwCl [(A_self, .inr (0, [.ref A_counters])), (A_counters, .inl (c 1, 6, .inl M_counters))] H → va_D A [(A_self, .inr (0, [.ref A_counters])), (A_counters, .inl (c 1, 6, .inl M_counters))] → va_S A s.heap H locs → lv_has ls 4 [(3, .int 1), (0, .ref A_self), (1, .int a1), (2, .int L2)] → W p l e (headSpec wsX0_layDown ({ frames := 1, cells := 0, slots := 0, locals := 21 })).room s m (([.ref A_self, .int a1] : List Value).toArray) below meth cd H locs 0 0 (MQ below (va_Qi (fun (r : Int32) (u : (Nat → Int32) × Unit) => (LayI (f_counters 0).toInt (f_counters 1).toInt (f_counters 2).toInt (f_counters 3).toInt (f_counters 4).toInt (f_counters 5).toInt (u.1 0).toInt (u.1 1).toInt (u.1 2).toInt (u.1 3).toInt (u.1 4).toInt (u.1 5).toInt i_a1 r.toInt) ∧ (0 ≤ (u.1 0).toInt ∧ (u.1 0).toInt ≤ 11) ∧ (0 ≤ (u.1 1).toInt ∧ (u.1 1).toInt ≤ 19) ∧ (0 ≤ (u.1 2).toInt ∧ (u.1 2).toInt ≤ 19) ∧ (0 ≤ (u.1 3).toInt ∧ (u.1 3).toInt ≤ 4) ∧ (0 ≤ (u.1 4).toInt ∧ (u.1 4).toInt ≤ 9)) (fun u t => va_P D vwCl [(A_self, .inr (0, [.ref A_counters])), (A_counters, .inl (c 1, 6, .inl u.1))] t.heap ∧ va_D A [(A_self, .inr (0, [.ref A_counters])), (A_counters, .inl (c 1, 6, .inl u.1))]) A) ([.ref A_self, .int a1] : List Value).toArray s 0 0 A) (F0 m 32 ls []) := by
      intro L2 M_counters k0 hf32_1_0 hf32_1_1 hf32_1_2 hf32_1_3 hf32_1_4 hf32_1_5 hf32_1_6 hf32_1_7 hf32_1_8 hf32_1_9 hf32_1_10 H locs ls hP hD hS hl
      refine lv_iload_n hx hb dX0_layDown_32 rfl (lv_at hl 0 rfl) ?_
      refine va_gets hx hb hSt.2.2.1 hS hown (hts (.fieldLink RX0 23 "CrownTable$Cloth" "OF_THE_NEXT" "[I") (mem_i 2 rfl)) (fun _ h9 => h9) dX0_layDown_33 ?_
      refine va_tlen (v := 5) hx hb hSt.2.2.2.1 hS (by decide) dX0_layDown_36 ?_
      refine iicmp_geF (a := 1) (b := 5) (tgt := 89) hx hb (by decide) (by decide) dX0_layDown_37 (by decide) (by decide) ?_
      refine lv_aload_n hx hb dX0_layDown_40 rfl (lv_at hl 1 rfl) ?_
      refine va_get (D := D) (ci := 0) (v := .ref A_counters) (C := RX0) (T := TX0) (N := 1) hx hb hts (fun _ h => List.mem_cons_of_mem _ (List.mem_append_right _ h)) hown hK hP 0 rfl rfl 0 (by decide) (hts (.fieldLink RX0 9 "CrownTable$Cloth" "counters" "[I") (mem_i 1 rfl)) (fun _ h9 => h9) rfl dX0_layDown_41 ?_
      refine lv_iload_n hx hb dX0_layDown_44 rfl (lv_at hl 0 rfl) ?_
      refine va_iald hx hb hK hP 1 1 rfl rfl (vin (a := 1) (by decide) (by decide) (by decide)) dX0_layDown_45 ?_
      refine lv_topi (fun x_73 ex_73 => ?_)
      have lf_74 : (M_counters 1).toInt = x_73.toInt := by rw [ex_73]; rfl
      refine va_gets hx hb hSt.2.2.1 hS hown (hts (.fieldLink RX0 23 "CrownTable$Cloth" "OF_THE_NEXT" "[I") (mem_i 2 rfl)) (fun _ h9 => h9) dX0_layDown_46 ?_
      refine lv_iload_n hx hb dX0_layDown_49 rfl (lv_at hl 0 rfl) ?_
      refine va_ti (v := .int 20) hx hb hSt.2.2.2.1 hS (vin (a := 1) (by decide) (by decide) (by decide)) rfl dX0_layDown_50 ?_
      refine iicmp_lt (a := x_73.toInt) (b := 20) (tgt := 83) hx hb rfl (by decide) dX0_layDown_51 (by decide) (fun k_75 => ?_) (fun k_75 => ?_)
      · skip
        refine lv_iinc (v := 2) (lv' := [(3, .int 2), (0, .ref A_self), (1, .int a1), (2, .int L2)]) hx hb dX0_layDown_83 hl (k := 0) rfl (by decide) (by decide) rfl (fun ls hl => ?_)
        refine lv_goto (tgt := 32) hx hb dX0_layDown_86 (by decide) ?_
        exact lp_32_2 L2 M_counters k0 0 (by omega) (by omega) (by omega) (by omega) (by omega) (by omega) (by omega) (by omega) (by omega) (by omega) (by omega) (by omega) (by omega) _ _ _ hP hD hS hl
      · skip
        refine lv_aload_n hx hb dX0_layDown_54 rfl (lv_at hl 1 rfl) ?_
        refine va_get (D := D) (ci := 0) (v := .ref A_counters) (C := RX0) (T := TX0) (N := 1) hx hb hts (fun _ h => List.mem_cons_of_mem _ (List.mem_append_right _ h)) hown hK hP 0 rfl rfl 0 (by decide) (hts (.fieldLink RX0 9 "CrownTable$Cloth" "counters" "[I") (mem_i 1 rfl)) (fun _ h9 => h9) rfl dX0_layDown_55 ?_
        refine lv_iload_n hx hb dX0_layDown_58 rfl (lv_at hl 0 rfl) ?_
        refine lv_dup2_11 hx hb dX0_layDown_59 rfl rfl ?_
        refine va_iald hx hb hK hP 1 1 rfl rfl (vin (a := 1) (by decide) (by decide) (by decide)) dX0_layDown_60 ?_
        refine lv_topi (fun x_76 ex_76 => ?_)
        have lf_77 : (M_counters 1).toInt = x_76.toInt := by rw [ex_76]; rfl
        refine va_gets hx hb hSt.2.2.1 hS hown (hts (.fieldLink RX0 23 "CrownTable$Cloth" "OF_THE_NEXT" "[I") (mem_i 2 rfl)) (fun _ h9 => h9) dX0_layDown_61 ?_
        refine lv_iload_n hx hb dX0_layDown_64 rfl (lv_at hl 0 rfl) ?_
        refine va_ti (v := .int 20) hx hb hSt.2.2.2.1 hS (vin (a := 1) (by decide) (by decide) (by decide)) rfl dX0_layDown_65 ?_
        refine lv_isub hx hb dX0_layDown_66 ?_
        refine lv_topi (fun x_78 ex_78 => ?_)
        have tx_78 : x_78.toInt = (x_76.toInt - 20) := by rw [ex_78]; exact sub_ti (a := x_76.toInt) (b := 20) rfl (by decide) (by omega) (by omega)
        refine va_iast hx hb hK hP hD hS 1 1 rfl rfl (vin (a := 1) (by decide) (by decide) (by decide)) dX0_layDown_67 (fun H locs hP hD hS => ?_)
        obtain ⟨f_79, ef_79, hP, hD⟩ : ∃ f_79 : Nat → Int32, f_79 = upd M_counters (1 : Int32).toNatClampNeg x_78 ∧ va_P D vwCl [(A_self, .inr (0, [.ref A_counters])), (A_counters, .inl (c 1, 6, .inl f_79))] H ∧ va_D A [(A_self, .inr (0, [.ref A_counters])), (A_counters, .inl (c 1, 6, .inl f_79))] := ⟨_, rfl, hP, hD⟩
        have cl_80 : (f_79 0).toInt = (M_counters 0).toInt := by rw [ef_79]; rfl
        have cl_81 : (f_79 1).toInt = x_78.toInt := by rw [ef_79]; rfl
        have cl_82 : (f_79 2).toInt = (M_counters 2).toInt := by rw [ef_79]; rfl
        have cl_83 : (f_79 3).toInt = (M_counters 3).toInt := by rw [ef_79]; rfl
        have cl_84 : (f_79 4).toInt = (M_counters 4).toInt := by rw [ef_79]; rfl
        have cl_85 : (f_79 5).toInt = (M_counters 5).toInt := by rw [ef_79]; rfl
        refine lv_aload_n hx hb dX0_layDown_68 rfl (lv_at hl 1 rfl) ?_
        refine va_get (D := D) (ci := 0) (v := .ref A_counters) (C := RX0) (T := TX0) (N := 1) hx hb hts (fun _ h => List.mem_cons_of_mem _ (List.mem_append_right _ h)) hown hK hP 0 rfl rfl 0 (by decide) (hts (.fieldLink RX0 9 "CrownTable$Cloth" "counters" "[I") (mem_i 1 rfl)) (fun _ h9 => h9) rfl dX0_layDown_69 ?_
        refine lv_iload_n hx hb dX0_layDown_72 rfl (lv_at hl 0 rfl) ?_
        refine lv_iconst (v := 1) hx hb dX0_layDown_73 (by decide) ?_
        refine lv_iadd hx hb dX0_layDown_74 ?_
        refine lk_i (y := 2) (by decide) ?_
        refine lv_dup2_11 hx hb dX0_layDown_75 rfl rfl ?_
        refine va_iald hx hb hK hP 1 1 rfl rfl (vin (a := 2) (by decide) (by decide) (by decide)) dX0_layDown_76 ?_
        refine lv_topi (fun x_86 ex_86 => ?_)
        have lf_87 : (f_79 2).toInt = x_86.toInt := by rw [ex_86]; rfl
        refine lv_iconst (v := 1) hx hb dX0_layDown_77 (by decide) ?_
        refine lv_iadd hx hb dX0_layDown_78 ?_
        refine lv_topi (fun x_88 ex_88 => ?_)
        have tx_88 : x_88.toInt = (x_86.toInt + 1) := by rw [ex_88]; exact add_ti (a := x_86.toInt) (b := 1) rfl (by decide) (by omega) (by omega)
        refine va_iast hx hb hK hP hD hS 1 1 rfl rfl (vin (a := 2) (by decide) (by decide) (by decide)) dX0_layDown_79 (fun H locs hP hD hS => ?_)
        obtain ⟨f_89, ef_89, hP, hD⟩ : ∃ f_89 : Nat → Int32, f_89 = upd f_79 (2 : Int32).toNatClampNeg x_88 ∧ va_P D vwCl [(A_self, .inr (0, [.ref A_counters])), (A_counters, .inl (c 1, 6, .inl f_89))] H ∧ va_D A [(A_self, .inr (0, [.ref A_counters])), (A_counters, .inl (c 1, 6, .inl f_89))] := ⟨_, rfl, hP, hD⟩
        have cl_90 : (f_89 0).toInt = (f_79 0).toInt := by rw [ef_89]; rfl
        have cl_91 : (f_89 1).toInt = (f_79 1).toInt := by rw [ef_89]; rfl
        have cl_92 : (f_89 2).toInt = x_88.toInt := by rw [ef_89]; rfl
        have cl_93 : (f_89 3).toInt = (f_79 3).toInt := by rw [ef_89]; rfl
        have cl_94 : (f_89 4).toInt = (f_79 4).toInt := by rw [ef_89]; rfl
        have cl_95 : (f_89 5).toInt = (f_79 5).toInt := by rw [ef_89]; rfl
        obtain ⟨x_96, ex_96⟩ : ∃ y : Int32, y = L2 + 1 := ⟨_, rfl⟩
        have tx_96 : x_96.toInt = L2.toInt + 1 := by rw [ex_96]; exact add_ti (a := L2.toInt) (b := 1) rfl (by decide) (by omega) (by omega)
        refine lv_iinc (v := x_96) (lv' := [(2, .int x_96), (3, .int 1), (0, .ref A_self), (1, .int a1)]) hx hb dX0_layDown_80 hl (k := 3) rfl (by rw [ex_96]; rfl) (by decide) rfl (fun ls hl => ?_)
        refine lv_iinc (v := 2) (lv' := [(3, .int 2), (2, .int x_96), (0, .ref A_self), (1, .int a1)]) hx hb dX0_layDown_83 hl (k := 1) rfl (by decide) (by decide) rfl (fun ls hl => ?_)
        refine lv_goto (tgt := 32) hx hb dX0_layDown_86 (by decide) ?_
        have hl := lv_sub hl [0, 2, 3, 1] rfl
        exact lp_32_2 x_96 f_89 k0 1 (by omega) (by omega) (by omega) (by omega) (by omega) (by omega) (by omega) (by omega) (by omega) (by omega) (by omega) (by omega) (by omega) _ _ _ hP hD hS hl
    have lp_32_0 : ∀ (L2 : Int32) (M_counters : Nat → Int32) (hf32_0_0 : 0 ≤ L2.toInt) (hf32_0_1 : L2.toInt ≤ 5) (hf32_0_2 : (M_counters 0).toInt = (f_counters 0).toInt + n0) (hf32_0_3 : (M_counters 1).toInt = (f_counters 1).toInt + n1) (hf32_0_4 : (M_counters 2).toInt = (f_counters 2).toInt + n2) (hf32_0_5 : (M_counters 3).toInt = (f_counters 3).toInt + n3) (hf32_0_6 : (M_counters 4).toInt = (f_counters 4).toInt + n4) (hf32_0_7 : (M_counters 5).toInt = (f_counters 5).toInt + n5) (hf32_0_8 : L2.toInt = 0) (H : Heap) (locs : List Loc) (ls : Array Slot), va_P D vwCl [(A_self, .inr (0, [.ref A_counters])), (A_counters, .inl (c 1, 6, .inl M_counters))] H → va_D A [(A_self, .inr (0, [.ref A_counters])), (A_counters, .inl (c 1, 6, .inl M_counters))] → va_S A s.heap H locs → lv_has ls 4 [(3, .int 0), (0, .ref A_self), (1, .int a1), (2, .int L2)] → W p l e (headSpec wsX0_layDown ({ frames := 1, cells := 0, slots := 0, locals := 21 })).room s m (([.ref A_self, .int a1] : List Value).toArray) below meth cd H locs 0 0 (MQ below (va_Qi (fun (r : Int32) (u : (Nat → Int32) × Unit) => (LayI (f_counters 0).toInt (f_counters 1).toInt (f_counters 2).toInt (f_counters 3).toInt (f_counters 4).toInt (f_counters 5).toInt (u.1 0).toInt (u.1 1).toInt (u.1 2).toInt (u.1 3).toInt (u.1 4).toInt (u.1 5).toInt i_a1 r.toInt) ∧ (0 ≤ (u.1 0).toInt ∧ (u.1 0).toInt ≤ 11) ∧ (0 ≤ (u.1 1).toInt ∧ (u.1 1).toInt ≤ 19) ∧ (0 ≤ (u.1 2).toInt ∧ (u.1 2).toInt ≤ 19) ∧ (0 ≤ (u.1 3).toInt ∧ (u.1 3).toInt ≤ 4) ∧ (0 ≤ (u.1 4).toInt ∧ (u.1 4).toInt ≤ 9)) (fun u t => va_P D vwCl [(A_self, .inr (0, [.ref A_counters])), (A_counters, .inl (c 1, 6, .inl u.1))] t.heap ∧ va_D A [(A_self, .inr (0, [.ref A_counters])), (A_counters, .inl (c 1, 6, .inl u.1))]) A) ([.ref A_self, .int a1] : List Value).toArray s 0 0 A) (F0 m 32 ls []) := by
      intro L2 M_counters hf32_0_0 hf32_0_1 hf32_0_2 hf32_0_3 hf32_0_4 hf32_0_5 hf32_0_6 hf32_0_7 hf32_0_8 H locs ls hP hD hS hl
      refine lv_iload_n hx hb dX0_layDown_32 rfl (lv_at hl 0 rfl) ?_
      refine va_gets hx hb hSt.2.2.1 hS hown (hts (.fieldLink RX0 23 "CrownTable$Cloth" "OF_THE_NEXT" "[I") (mem_i 2 rfl)) (fun _ h9 => h9) dX0_layDown_33 ?_
      refine va_tlen (v := 5) hx hb hSt.2.2.2.1 hS (by decide) dX0_layDown_36 ?_
      refine iicmp_geF (a := 0) (b := 5) (tgt := 89) hx hb (by decide) (by decide) dX0_layDown_37 (by decide) (by decide) ?_
      refine lv_aload_n hx hb dX0_layDown_40 rfl (lv_at hl 1 rfl) ?_
      refine va_get (D := D) (ci := 0) (v := .ref A_counters) (C := RX0) (T := TX0) (N := 1) hx hb hts (fun _ h => List.mem_cons_of_mem _ (List.mem_append_right _ h)) hown hK hP 0 rfl rfl 0 (by decide) (hts (.fieldLink RX0 9 "CrownTable$Cloth" "counters" "[I") (mem_i 1 rfl)) (fun _ h9 => h9) rfl dX0_layDown_41 ?_
      refine lv_iload_n hx hb dX0_layDown_44 rfl (lv_at hl 0 rfl) ?_
      refine va_iald hx hb hK hP 1 1 rfl rfl (vin (a := 0) (by decide) (by decide) (by decide)) dX0_layDown_45 ?_
      refine lv_topi (fun x_97 ex_97 => ?_)
      have lf_98 : (M_counters 0).toInt = x_97.toInt := by rw [ex_97]; rfl
      refine va_gets hx hb hSt.2.2.1 hS hown (hts (.fieldLink RX0 23 "CrownTable$Cloth" "OF_THE_NEXT" "[I") (mem_i 2 rfl)) (fun _ h9 => h9) dX0_layDown_46 ?_
      refine lv_iload_n hx hb dX0_layDown_49 rfl (lv_at hl 0 rfl) ?_
      refine va_ti (v := .int 12) hx hb hSt.2.2.2.1 hS (vin (a := 0) (by decide) (by decide) (by decide)) rfl dX0_layDown_50 ?_
      refine iicmp_lt (a := x_97.toInt) (b := 12) (tgt := 83) hx hb rfl (by decide) dX0_layDown_51 (by decide) (fun k_99 => ?_) (fun k_99 => ?_)
      · skip
        refine lv_iinc (v := 1) (lv' := [(3, .int 1), (0, .ref A_self), (1, .int a1), (2, .int L2)]) hx hb dX0_layDown_83 hl (k := 0) rfl (by decide) (by decide) rfl (fun ls hl => ?_)
        refine lv_goto (tgt := 32) hx hb dX0_layDown_86 (by decide) ?_
        exact lp_32_1 L2 M_counters 0 (by omega) (by omega) (by omega) (by omega) (by omega) (by omega) (by omega) (by omega) (by omega) (by omega) (by omega) _ _ _ hP hD hS hl
      · skip
        refine lv_aload_n hx hb dX0_layDown_54 rfl (lv_at hl 1 rfl) ?_
        refine va_get (D := D) (ci := 0) (v := .ref A_counters) (C := RX0) (T := TX0) (N := 1) hx hb hts (fun _ h => List.mem_cons_of_mem _ (List.mem_append_right _ h)) hown hK hP 0 rfl rfl 0 (by decide) (hts (.fieldLink RX0 9 "CrownTable$Cloth" "counters" "[I") (mem_i 1 rfl)) (fun _ h9 => h9) rfl dX0_layDown_55 ?_
        refine lv_iload_n hx hb dX0_layDown_58 rfl (lv_at hl 0 rfl) ?_
        refine lv_dup2_11 hx hb dX0_layDown_59 rfl rfl ?_
        refine va_iald hx hb hK hP 1 1 rfl rfl (vin (a := 0) (by decide) (by decide) (by decide)) dX0_layDown_60 ?_
        refine lv_topi (fun x_100 ex_100 => ?_)
        have lf_101 : (M_counters 0).toInt = x_100.toInt := by rw [ex_100]; rfl
        refine va_gets hx hb hSt.2.2.1 hS hown (hts (.fieldLink RX0 23 "CrownTable$Cloth" "OF_THE_NEXT" "[I") (mem_i 2 rfl)) (fun _ h9 => h9) dX0_layDown_61 ?_
        refine lv_iload_n hx hb dX0_layDown_64 rfl (lv_at hl 0 rfl) ?_
        refine va_ti (v := .int 12) hx hb hSt.2.2.2.1 hS (vin (a := 0) (by decide) (by decide) (by decide)) rfl dX0_layDown_65 ?_
        refine lv_isub hx hb dX0_layDown_66 ?_
        refine lv_topi (fun x_102 ex_102 => ?_)
        have tx_102 : x_102.toInt = (x_100.toInt - 12) := by rw [ex_102]; exact sub_ti (a := x_100.toInt) (b := 12) rfl (by decide) (by omega) (by omega)
        refine va_iast hx hb hK hP hD hS 1 1 rfl rfl (vin (a := 0) (by decide) (by decide) (by decide)) dX0_layDown_67 (fun H locs hP hD hS => ?_)
        obtain ⟨f_103, ef_103, hP, hD⟩ : ∃ f_103 : Nat → Int32, f_103 = upd M_counters (0 : Int32).toNatClampNeg x_102 ∧ va_P D vwCl [(A_self, .inr (0, [.ref A_counters])), (A_counters, .inl (c 1, 6, .inl f_103))] H ∧ va_D A [(A_self, .inr (0, [.ref A_counters])), (A_counters, .inl (c 1, 6, .inl f_103))] := ⟨_, rfl, hP, hD⟩
        have cl_104 : (f_103 0).toInt = x_102.toInt := by rw [ef_103]; rfl
        have cl_105 : (f_103 1).toInt = (M_counters 1).toInt := by rw [ef_103]; rfl
        have cl_106 : (f_103 2).toInt = (M_counters 2).toInt := by rw [ef_103]; rfl
        have cl_107 : (f_103 3).toInt = (M_counters 3).toInt := by rw [ef_103]; rfl
        have cl_108 : (f_103 4).toInt = (M_counters 4).toInt := by rw [ef_103]; rfl
        have cl_109 : (f_103 5).toInt = (M_counters 5).toInt := by rw [ef_103]; rfl
        refine lv_aload_n hx hb dX0_layDown_68 rfl (lv_at hl 1 rfl) ?_
        refine va_get (D := D) (ci := 0) (v := .ref A_counters) (C := RX0) (T := TX0) (N := 1) hx hb hts (fun _ h => List.mem_cons_of_mem _ (List.mem_append_right _ h)) hown hK hP 0 rfl rfl 0 (by decide) (hts (.fieldLink RX0 9 "CrownTable$Cloth" "counters" "[I") (mem_i 1 rfl)) (fun _ h9 => h9) rfl dX0_layDown_69 ?_
        refine lv_iload_n hx hb dX0_layDown_72 rfl (lv_at hl 0 rfl) ?_
        refine lv_iconst (v := 1) hx hb dX0_layDown_73 (by decide) ?_
        refine lv_iadd hx hb dX0_layDown_74 ?_
        refine lk_i (y := 1) (by decide) ?_
        refine lv_dup2_11 hx hb dX0_layDown_75 rfl rfl ?_
        refine va_iald hx hb hK hP 1 1 rfl rfl (vin (a := 1) (by decide) (by decide) (by decide)) dX0_layDown_76 ?_
        refine lv_topi (fun x_110 ex_110 => ?_)
        have lf_111 : (f_103 1).toInt = x_110.toInt := by rw [ex_110]; rfl
        refine lv_iconst (v := 1) hx hb dX0_layDown_77 (by decide) ?_
        refine lv_iadd hx hb dX0_layDown_78 ?_
        refine lv_topi (fun x_112 ex_112 => ?_)
        have tx_112 : x_112.toInt = (x_110.toInt + 1) := by rw [ex_112]; exact add_ti (a := x_110.toInt) (b := 1) rfl (by decide) (by omega) (by omega)
        refine va_iast hx hb hK hP hD hS 1 1 rfl rfl (vin (a := 1) (by decide) (by decide) (by decide)) dX0_layDown_79 (fun H locs hP hD hS => ?_)
        obtain ⟨f_113, ef_113, hP, hD⟩ : ∃ f_113 : Nat → Int32, f_113 = upd f_103 (1 : Int32).toNatClampNeg x_112 ∧ va_P D vwCl [(A_self, .inr (0, [.ref A_counters])), (A_counters, .inl (c 1, 6, .inl f_113))] H ∧ va_D A [(A_self, .inr (0, [.ref A_counters])), (A_counters, .inl (c 1, 6, .inl f_113))] := ⟨_, rfl, hP, hD⟩
        have cl_114 : (f_113 0).toInt = (f_103 0).toInt := by rw [ef_113]; rfl
        have cl_115 : (f_113 1).toInt = x_112.toInt := by rw [ef_113]; rfl
        have cl_116 : (f_113 2).toInt = (f_103 2).toInt := by rw [ef_113]; rfl
        have cl_117 : (f_113 3).toInt = (f_103 3).toInt := by rw [ef_113]; rfl
        have cl_118 : (f_113 4).toInt = (f_103 4).toInt := by rw [ef_113]; rfl
        have cl_119 : (f_113 5).toInt = (f_103 5).toInt := by rw [ef_113]; rfl
        obtain ⟨x_120, ex_120⟩ : ∃ y : Int32, y = L2 + 1 := ⟨_, rfl⟩
        have tx_120 : x_120.toInt = L2.toInt + 1 := by rw [ex_120]; exact add_ti (a := L2.toInt) (b := 1) rfl (by decide) (by omega) (by omega)
        refine lv_iinc (v := x_120) (lv' := [(2, .int x_120), (3, .int 0), (0, .ref A_self), (1, .int a1)]) hx hb dX0_layDown_80 hl (k := 3) rfl (by rw [ex_120]; rfl) (by decide) rfl (fun ls hl => ?_)
        refine lv_iinc (v := 1) (lv' := [(3, .int 1), (2, .int x_120), (0, .ref A_self), (1, .int a1)]) hx hb dX0_layDown_83 hl (k := 1) rfl (by decide) (by decide) rfl (fun ls hl => ?_)
        refine lv_goto (tgt := 32) hx hb dX0_layDown_86 (by decide) ?_
        have hl := lv_sub hl [0, 2, 3, 1] rfl
        exact lp_32_1 x_120 f_113 1 (by omega) (by omega) (by omega) (by omega) (by omega) (by omega) (by omega) (by omega) (by omega) (by omega) (by omega) _ _ _ hP hD hS hl
    have kzz_121 : (0 : Int32).toInt = 0 := by decide
    have hl := lv_sub hl [0, 2, 3, 1] rfl
    exact lp_32_0 0 M_counters (by omega) (by omega) (by omega) (by omega) (by omega) (by omega) (by omega) (by omega) (by omega) _ _ _ hP hD hS hl
  have lp_2_5 : ∀ (M_counters : Nat → Int32) (hf2_5_0 : (M_counters 0).toInt = (f_counters 0).toInt + n0) (hf2_5_1 : (M_counters 1).toInt = (f_counters 1).toInt + n1) (hf2_5_2 : (M_counters 2).toInt = (f_counters 2).toInt + n2) (hf2_5_3 : (M_counters 3).toInt = (f_counters 3).toInt + n3) (hf2_5_4 : (M_counters 4).toInt = (f_counters 4).toInt + n4) (hf2_5_5 : (M_counters 5).toInt = (f_counters 5).toInt) (H : Heap) (locs : List Loc) (ls : Array Slot), va_P D vwCl [(A_self, .inr (0, [.ref A_counters])), (A_counters, .inl (c 1, 6, .inl M_counters))] H → va_D A [(A_self, .inr (0, [.ref A_counters])), (A_counters, .inl (c 1, 6, .inl M_counters))] → va_S A s.heap H locs → lv_has ls 4 [(2, .int 5), (0, .ref A_self), (1, .int a1)] → W p l e (headSpec wsX0_layDown ({ frames := 1, cells := 0, slots := 0, locals := 21 })).room s m (([.ref A_self, .int a1] : List Value).toArray) below meth cd H locs 0 0 (MQ below (va_Qi (fun (r : Int32) (u : (Nat → Int32) × Unit) => (LayI (f_counters 0).toInt (f_counters 1).toInt (f_counters 2).toInt (f_counters 3).toInt (f_counters 4).toInt (f_counters 5).toInt (u.1 0).toInt (u.1 1).toInt (u.1 2).toInt (u.1 3).toInt (u.1 4).toInt (u.1 5).toInt i_a1 r.toInt) ∧ (0 ≤ (u.1 0).toInt ∧ (u.1 0).toInt ≤ 11) ∧ (0 ≤ (u.1 1).toInt ∧ (u.1 1).toInt ≤ 19) ∧ (0 ≤ (u.1 2).toInt ∧ (u.1 2).toInt ≤ 19) ∧ (0 ≤ (u.1 3).toInt ∧ (u.1 3).toInt ≤ 4) ∧ (0 ≤ (u.1 4).toInt ∧ (u.1 4).toInt ≤ 9)) (fun u t => va_P D vwCl [(A_self, .inr (0, [.ref A_counters])), (A_counters, .inl (c 1, 6, .inl u.1))] t.heap ∧ va_D A [(A_self, .inr (0, [.ref A_counters])), (A_counters, .inl (c 1, 6, .inl u.1))]) A) ([.ref A_self, .int a1] : List Value).toArray s 0 0 A) (F0 m 2 ls []) := by
    intro M_counters hf2_5_0 hf2_5_1 hf2_5_2 hf2_5_3 hf2_5_4 hf2_5_5 H locs ls hP hD hS hl
    refine lv_iload_n hx hb dX0_layDown_2 rfl (lv_at hl 0 rfl) ?_
    refine lv_bipush (v := 6) hx hb dX0_layDown_3 (by decide) ?_
    refine iicmp_geF (a := 5) (b := 6) (tgt := 28) hx hb (by decide) (by decide) dX0_layDown_5 (by decide) (by decide) ?_
    refine lv_aload_n hx hb dX0_layDown_8 rfl (lv_at hl 1 rfl) ?_
    refine va_get (D := D) (ci := 0) (v := .ref A_counters) (C := RX0) (T := TX0) (N := 1) hx hb hts (fun _ h => List.mem_cons_of_mem _ (List.mem_append_right _ h)) hown hK hP 0 rfl rfl 0 (by decide) (hts (.fieldLink RX0 9 "CrownTable$Cloth" "counters" "[I") (mem_i 1 rfl)) (fun _ h9 => h9) rfl dX0_layDown_9 ?_
    refine lv_iload_n hx hb dX0_layDown_12 rfl (lv_at hl 0 rfl) ?_
    refine lv_dup2_11 hx hb dX0_layDown_13 rfl rfl ?_
    refine va_iald hx hb hK hP 1 1 rfl rfl (vin (a := 5) (by decide) (by decide) (by decide)) dX0_layDown_14 ?_
    refine lv_topi (fun x_122 ex_122 => ?_)
    have lf_123 : (M_counters 5).toInt = x_122.toInt := by rw [ex_122]; rfl
    refine lv_iload_n hx hb dX0_layDown_15 rfl (lv_at hl 2 rfl) ?_
    refine lv_iload_n hx hb dX0_layDown_16 rfl (lv_at hl 0 rfl) ?_
    have hPc := hP.sub (ws' := []) [] rfl
    have hDc := hD.sub (ws' := []) [] (by decide) rfl
    have hFc := va_free (wc := []) hD hS hA [] rfl
    have kzz_124 : (5 : Int32).toInt = 5 := by decide
    refine va_csi (va_runS (As := [.int a1, .int 5]) (rest := [.int x_122, .int 5, .ref A_counters]) ⟨hx, hb, hml, hown, hts⟩ (k_X0_notches_P l D c ts H.size a1 i_a1 hi_a1 5 5 (by decide) (by omega) (by omega)) (cwS 2 hts gX0_layDown_X0_notches rfl rfl rfl ⟨rfl, hdX0_notches⟩ ⟨(show 0 + 1 ≤ 1 by decide), (show 8 + (2 + 11) + 0 ≤ 21 by decide)⟩) ⟨Pre0.blind, Pre0.at hPc hDc hAm hSt hS hFc⟩ rfl rfl hl.1 rfl (lv_room (Nat.le_of_ble_eq_true rfl)) dX0_layDown_17 ⟨(show 0 + 0 ≤ 0 by decide), (show 0 + 0 ≤ 0 by decide)⟩) (fun r_126 hw_125 => ?_)
    have nf_127 : r_126.toInt = n5 := (hw_125.2.2.2.2.2.2 rfl).trans hDg.2.2.2.2.2
    clear hw_125
    have rg_r_126 := i32r r_126
    refine lv_iadd hx hb dX0_layDown_20 ?_
    refine lv_topi (fun x_128 ex_128 => ?_)
    have tx_128 : x_128.toInt = (x_122.toInt + r_126.toInt) := by rw [ex_128]; exact add_ti (a := x_122.toInt) (b := r_126.toInt) rfl rfl (by omega) (by omega)
    refine va_iast hx hb hK hP hD hS 1 1 rfl rfl (vin (a := 5) (by decide) (by decide) (by decide)) dX0_layDown_21 (fun H locs hP hD hS => ?_)
    obtain ⟨f_129, ef_129, hP, hD⟩ : ∃ f_129 : Nat → Int32, f_129 = upd M_counters (5 : Int32).toNatClampNeg x_128 ∧ va_P D vwCl [(A_self, .inr (0, [.ref A_counters])), (A_counters, .inl (c 1, 6, .inl f_129))] H ∧ va_D A [(A_self, .inr (0, [.ref A_counters])), (A_counters, .inl (c 1, 6, .inl f_129))] := ⟨_, rfl, hP, hD⟩
    have cl_130 : (f_129 0).toInt = (M_counters 0).toInt := by rw [ef_129]; rfl
    have cl_131 : (f_129 1).toInt = (M_counters 1).toInt := by rw [ef_129]; rfl
    have cl_132 : (f_129 2).toInt = (M_counters 2).toInt := by rw [ef_129]; rfl
    have cl_133 : (f_129 3).toInt = (M_counters 3).toInt := by rw [ef_129]; rfl
    have cl_134 : (f_129 4).toInt = (M_counters 4).toInt := by rw [ef_129]; rfl
    have cl_135 : (f_129 5).toInt = x_128.toInt := by rw [ef_129]; rfl
    refine lv_iinc (v := 6) (lv' := [(2, .int 6), (0, .ref A_self), (1, .int a1)]) hx hb dX0_layDown_22 hl (k := 0) rfl (by decide) (by decide) rfl (fun ls hl => ?_)
    refine lv_goto (tgt := 2) hx hb dX0_layDown_25 (by decide) ?_
    exact lp_2_6 f_129 (by omega) (by omega) (by omega) (by omega) (by omega) (by omega) _ _ _ hP hD hS hl
  have lp_2_4 : ∀ (M_counters : Nat → Int32) (hf2_4_0 : (M_counters 0).toInt = (f_counters 0).toInt + n0) (hf2_4_1 : (M_counters 1).toInt = (f_counters 1).toInt + n1) (hf2_4_2 : (M_counters 2).toInt = (f_counters 2).toInt + n2) (hf2_4_3 : (M_counters 3).toInt = (f_counters 3).toInt + n3) (hf2_4_4 : (M_counters 4).toInt = (f_counters 4).toInt) (hf2_4_5 : (M_counters 5).toInt = (f_counters 5).toInt) (H : Heap) (locs : List Loc) (ls : Array Slot), va_P D vwCl [(A_self, .inr (0, [.ref A_counters])), (A_counters, .inl (c 1, 6, .inl M_counters))] H → va_D A [(A_self, .inr (0, [.ref A_counters])), (A_counters, .inl (c 1, 6, .inl M_counters))] → va_S A s.heap H locs → lv_has ls 4 [(2, .int 4), (0, .ref A_self), (1, .int a1)] → W p l e (headSpec wsX0_layDown ({ frames := 1, cells := 0, slots := 0, locals := 21 })).room s m (([.ref A_self, .int a1] : List Value).toArray) below meth cd H locs 0 0 (MQ below (va_Qi (fun (r : Int32) (u : (Nat → Int32) × Unit) => (LayI (f_counters 0).toInt (f_counters 1).toInt (f_counters 2).toInt (f_counters 3).toInt (f_counters 4).toInt (f_counters 5).toInt (u.1 0).toInt (u.1 1).toInt (u.1 2).toInt (u.1 3).toInt (u.1 4).toInt (u.1 5).toInt i_a1 r.toInt) ∧ (0 ≤ (u.1 0).toInt ∧ (u.1 0).toInt ≤ 11) ∧ (0 ≤ (u.1 1).toInt ∧ (u.1 1).toInt ≤ 19) ∧ (0 ≤ (u.1 2).toInt ∧ (u.1 2).toInt ≤ 19) ∧ (0 ≤ (u.1 3).toInt ∧ (u.1 3).toInt ≤ 4) ∧ (0 ≤ (u.1 4).toInt ∧ (u.1 4).toInt ≤ 9)) (fun u t => va_P D vwCl [(A_self, .inr (0, [.ref A_counters])), (A_counters, .inl (c 1, 6, .inl u.1))] t.heap ∧ va_D A [(A_self, .inr (0, [.ref A_counters])), (A_counters, .inl (c 1, 6, .inl u.1))]) A) ([.ref A_self, .int a1] : List Value).toArray s 0 0 A) (F0 m 2 ls []) := by
    intro M_counters hf2_4_0 hf2_4_1 hf2_4_2 hf2_4_3 hf2_4_4 hf2_4_5 H locs ls hP hD hS hl
    refine lv_iload_n hx hb dX0_layDown_2 rfl (lv_at hl 0 rfl) ?_
    refine lv_bipush (v := 6) hx hb dX0_layDown_3 (by decide) ?_
    refine iicmp_geF (a := 4) (b := 6) (tgt := 28) hx hb (by decide) (by decide) dX0_layDown_5 (by decide) (by decide) ?_
    refine lv_aload_n hx hb dX0_layDown_8 rfl (lv_at hl 1 rfl) ?_
    refine va_get (D := D) (ci := 0) (v := .ref A_counters) (C := RX0) (T := TX0) (N := 1) hx hb hts (fun _ h => List.mem_cons_of_mem _ (List.mem_append_right _ h)) hown hK hP 0 rfl rfl 0 (by decide) (hts (.fieldLink RX0 9 "CrownTable$Cloth" "counters" "[I") (mem_i 1 rfl)) (fun _ h9 => h9) rfl dX0_layDown_9 ?_
    refine lv_iload_n hx hb dX0_layDown_12 rfl (lv_at hl 0 rfl) ?_
    refine lv_dup2_11 hx hb dX0_layDown_13 rfl rfl ?_
    refine va_iald hx hb hK hP 1 1 rfl rfl (vin (a := 4) (by decide) (by decide) (by decide)) dX0_layDown_14 ?_
    refine lv_topi (fun x_136 ex_136 => ?_)
    have lf_137 : (M_counters 4).toInt = x_136.toInt := by rw [ex_136]; rfl
    refine lv_iload_n hx hb dX0_layDown_15 rfl (lv_at hl 2 rfl) ?_
    refine lv_iload_n hx hb dX0_layDown_16 rfl (lv_at hl 0 rfl) ?_
    have hPc := hP.sub (ws' := []) [] rfl
    have hDc := hD.sub (ws' := []) [] (by decide) rfl
    have hFc := va_free (wc := []) hD hS hA [] rfl
    have kzz_138 : (4 : Int32).toInt = 4 := by decide
    refine va_csi (va_runS (As := [.int a1, .int 4]) (rest := [.int x_136, .int 4, .ref A_counters]) ⟨hx, hb, hml, hown, hts⟩ (k_X0_notches_P l D c ts H.size a1 i_a1 hi_a1 4 4 (by decide) (by omega) (by omega)) (cwS 2 hts gX0_layDown_X0_notches rfl rfl rfl ⟨rfl, hdX0_notches⟩ ⟨(show 0 + 1 ≤ 1 by decide), (show 8 + (2 + 11) + 0 ≤ 21 by decide)⟩) ⟨Pre0.blind, Pre0.at hPc hDc hAm hSt hS hFc⟩ rfl rfl hl.1 rfl (lv_room (Nat.le_of_ble_eq_true rfl)) dX0_layDown_17 ⟨(show 0 + 0 ≤ 0 by decide), (show 0 + 0 ≤ 0 by decide)⟩) (fun r_140 hw_139 => ?_)
    have nf_141 : r_140.toInt = n4 := (hw_139.2.2.2.2.2.1 rfl).trans hDg.2.2.2.2.1
    clear hw_139
    have rg_r_140 := i32r r_140
    refine lv_iadd hx hb dX0_layDown_20 ?_
    refine lv_topi (fun x_142 ex_142 => ?_)
    have tx_142 : x_142.toInt = (x_136.toInt + r_140.toInt) := by rw [ex_142]; exact add_ti (a := x_136.toInt) (b := r_140.toInt) rfl rfl (by omega) (by omega)
    refine va_iast hx hb hK hP hD hS 1 1 rfl rfl (vin (a := 4) (by decide) (by decide) (by decide)) dX0_layDown_21 (fun H locs hP hD hS => ?_)
    obtain ⟨f_143, ef_143, hP, hD⟩ : ∃ f_143 : Nat → Int32, f_143 = upd M_counters (4 : Int32).toNatClampNeg x_142 ∧ va_P D vwCl [(A_self, .inr (0, [.ref A_counters])), (A_counters, .inl (c 1, 6, .inl f_143))] H ∧ va_D A [(A_self, .inr (0, [.ref A_counters])), (A_counters, .inl (c 1, 6, .inl f_143))] := ⟨_, rfl, hP, hD⟩
    have cl_144 : (f_143 0).toInt = (M_counters 0).toInt := by rw [ef_143]; rfl
    have cl_145 : (f_143 1).toInt = (M_counters 1).toInt := by rw [ef_143]; rfl
    have cl_146 : (f_143 2).toInt = (M_counters 2).toInt := by rw [ef_143]; rfl
    have cl_147 : (f_143 3).toInt = (M_counters 3).toInt := by rw [ef_143]; rfl
    have cl_148 : (f_143 4).toInt = x_142.toInt := by rw [ef_143]; rfl
    have cl_149 : (f_143 5).toInt = (M_counters 5).toInt := by rw [ef_143]; rfl
    refine lv_iinc (v := 5) (lv' := [(2, .int 5), (0, .ref A_self), (1, .int a1)]) hx hb dX0_layDown_22 hl (k := 0) rfl (by decide) (by decide) rfl (fun ls hl => ?_)
    refine lv_goto (tgt := 2) hx hb dX0_layDown_25 (by decide) ?_
    exact lp_2_5 f_143 (by omega) (by omega) (by omega) (by omega) (by omega) (by omega) _ _ _ hP hD hS hl
  have lp_2_3 : ∀ (M_counters : Nat → Int32) (hf2_3_0 : (M_counters 0).toInt = (f_counters 0).toInt + n0) (hf2_3_1 : (M_counters 1).toInt = (f_counters 1).toInt + n1) (hf2_3_2 : (M_counters 2).toInt = (f_counters 2).toInt + n2) (hf2_3_3 : (M_counters 3).toInt = (f_counters 3).toInt) (hf2_3_4 : (M_counters 4).toInt = (f_counters 4).toInt) (hf2_3_5 : (M_counters 5).toInt = (f_counters 5).toInt) (H : Heap) (locs : List Loc) (ls : Array Slot), va_P D vwCl [(A_self, .inr (0, [.ref A_counters])), (A_counters, .inl (c 1, 6, .inl M_counters))] H → va_D A [(A_self, .inr (0, [.ref A_counters])), (A_counters, .inl (c 1, 6, .inl M_counters))] → va_S A s.heap H locs → lv_has ls 4 [(2, .int 3), (0, .ref A_self), (1, .int a1)] → W p l e (headSpec wsX0_layDown ({ frames := 1, cells := 0, slots := 0, locals := 21 })).room s m (([.ref A_self, .int a1] : List Value).toArray) below meth cd H locs 0 0 (MQ below (va_Qi (fun (r : Int32) (u : (Nat → Int32) × Unit) => (LayI (f_counters 0).toInt (f_counters 1).toInt (f_counters 2).toInt (f_counters 3).toInt (f_counters 4).toInt (f_counters 5).toInt (u.1 0).toInt (u.1 1).toInt (u.1 2).toInt (u.1 3).toInt (u.1 4).toInt (u.1 5).toInt i_a1 r.toInt) ∧ (0 ≤ (u.1 0).toInt ∧ (u.1 0).toInt ≤ 11) ∧ (0 ≤ (u.1 1).toInt ∧ (u.1 1).toInt ≤ 19) ∧ (0 ≤ (u.1 2).toInt ∧ (u.1 2).toInt ≤ 19) ∧ (0 ≤ (u.1 3).toInt ∧ (u.1 3).toInt ≤ 4) ∧ (0 ≤ (u.1 4).toInt ∧ (u.1 4).toInt ≤ 9)) (fun u t => va_P D vwCl [(A_self, .inr (0, [.ref A_counters])), (A_counters, .inl (c 1, 6, .inl u.1))] t.heap ∧ va_D A [(A_self, .inr (0, [.ref A_counters])), (A_counters, .inl (c 1, 6, .inl u.1))]) A) ([.ref A_self, .int a1] : List Value).toArray s 0 0 A) (F0 m 2 ls []) := by
    intro M_counters hf2_3_0 hf2_3_1 hf2_3_2 hf2_3_3 hf2_3_4 hf2_3_5 H locs ls hP hD hS hl
    refine lv_iload_n hx hb dX0_layDown_2 rfl (lv_at hl 0 rfl) ?_
    refine lv_bipush (v := 6) hx hb dX0_layDown_3 (by decide) ?_
    refine iicmp_geF (a := 3) (b := 6) (tgt := 28) hx hb (by decide) (by decide) dX0_layDown_5 (by decide) (by decide) ?_
    refine lv_aload_n hx hb dX0_layDown_8 rfl (lv_at hl 1 rfl) ?_
    refine va_get (D := D) (ci := 0) (v := .ref A_counters) (C := RX0) (T := TX0) (N := 1) hx hb hts (fun _ h => List.mem_cons_of_mem _ (List.mem_append_right _ h)) hown hK hP 0 rfl rfl 0 (by decide) (hts (.fieldLink RX0 9 "CrownTable$Cloth" "counters" "[I") (mem_i 1 rfl)) (fun _ h9 => h9) rfl dX0_layDown_9 ?_
    refine lv_iload_n hx hb dX0_layDown_12 rfl (lv_at hl 0 rfl) ?_
    refine lv_dup2_11 hx hb dX0_layDown_13 rfl rfl ?_
    refine va_iald hx hb hK hP 1 1 rfl rfl (vin (a := 3) (by decide) (by decide) (by decide)) dX0_layDown_14 ?_
    refine lv_topi (fun x_150 ex_150 => ?_)
    have lf_151 : (M_counters 3).toInt = x_150.toInt := by rw [ex_150]; rfl
    refine lv_iload_n hx hb dX0_layDown_15 rfl (lv_at hl 2 rfl) ?_
    refine lv_iload_n hx hb dX0_layDown_16 rfl (lv_at hl 0 rfl) ?_
    have hPc := hP.sub (ws' := []) [] rfl
    have hDc := hD.sub (ws' := []) [] (by decide) rfl
    have hFc := va_free (wc := []) hD hS hA [] rfl
    have kzz_152 : (3 : Int32).toInt = 3 := by decide
    refine va_csi (va_runS (As := [.int a1, .int 3]) (rest := [.int x_150, .int 3, .ref A_counters]) ⟨hx, hb, hml, hown, hts⟩ (k_X0_notches_P l D c ts H.size a1 i_a1 hi_a1 3 3 (by decide) (by omega) (by omega)) (cwS 2 hts gX0_layDown_X0_notches rfl rfl rfl ⟨rfl, hdX0_notches⟩ ⟨(show 0 + 1 ≤ 1 by decide), (show 8 + (2 + 11) + 0 ≤ 21 by decide)⟩) ⟨Pre0.blind, Pre0.at hPc hDc hAm hSt hS hFc⟩ rfl rfl hl.1 rfl (lv_room (Nat.le_of_ble_eq_true rfl)) dX0_layDown_17 ⟨(show 0 + 0 ≤ 0 by decide), (show 0 + 0 ≤ 0 by decide)⟩) (fun r_154 hw_153 => ?_)
    have nf_155 : r_154.toInt = n3 := (hw_153.2.2.2.2.1 rfl).trans hDg.2.2.2.1
    clear hw_153
    have rg_r_154 := i32r r_154
    refine lv_iadd hx hb dX0_layDown_20 ?_
    refine lv_topi (fun x_156 ex_156 => ?_)
    have tx_156 : x_156.toInt = (x_150.toInt + r_154.toInt) := by rw [ex_156]; exact add_ti (a := x_150.toInt) (b := r_154.toInt) rfl rfl (by omega) (by omega)
    refine va_iast hx hb hK hP hD hS 1 1 rfl rfl (vin (a := 3) (by decide) (by decide) (by decide)) dX0_layDown_21 (fun H locs hP hD hS => ?_)
    obtain ⟨f_157, ef_157, hP, hD⟩ : ∃ f_157 : Nat → Int32, f_157 = upd M_counters (3 : Int32).toNatClampNeg x_156 ∧ va_P D vwCl [(A_self, .inr (0, [.ref A_counters])), (A_counters, .inl (c 1, 6, .inl f_157))] H ∧ va_D A [(A_self, .inr (0, [.ref A_counters])), (A_counters, .inl (c 1, 6, .inl f_157))] := ⟨_, rfl, hP, hD⟩
    have cl_158 : (f_157 0).toInt = (M_counters 0).toInt := by rw [ef_157]; rfl
    have cl_159 : (f_157 1).toInt = (M_counters 1).toInt := by rw [ef_157]; rfl
    have cl_160 : (f_157 2).toInt = (M_counters 2).toInt := by rw [ef_157]; rfl
    have cl_161 : (f_157 3).toInt = x_156.toInt := by rw [ef_157]; rfl
    have cl_162 : (f_157 4).toInt = (M_counters 4).toInt := by rw [ef_157]; rfl
    have cl_163 : (f_157 5).toInt = (M_counters 5).toInt := by rw [ef_157]; rfl
    refine lv_iinc (v := 4) (lv' := [(2, .int 4), (0, .ref A_self), (1, .int a1)]) hx hb dX0_layDown_22 hl (k := 0) rfl (by decide) (by decide) rfl (fun ls hl => ?_)
    refine lv_goto (tgt := 2) hx hb dX0_layDown_25 (by decide) ?_
    exact lp_2_4 f_157 (by omega) (by omega) (by omega) (by omega) (by omega) (by omega) _ _ _ hP hD hS hl
  have lp_2_2 : ∀ (M_counters : Nat → Int32) (hf2_2_0 : (M_counters 0).toInt = (f_counters 0).toInt + n0) (hf2_2_1 : (M_counters 1).toInt = (f_counters 1).toInt + n1) (hf2_2_2 : (M_counters 2).toInt = (f_counters 2).toInt) (hf2_2_3 : (M_counters 3).toInt = (f_counters 3).toInt) (hf2_2_4 : (M_counters 4).toInt = (f_counters 4).toInt) (hf2_2_5 : (M_counters 5).toInt = (f_counters 5).toInt) (H : Heap) (locs : List Loc) (ls : Array Slot), va_P D vwCl [(A_self, .inr (0, [.ref A_counters])), (A_counters, .inl (c 1, 6, .inl M_counters))] H → va_D A [(A_self, .inr (0, [.ref A_counters])), (A_counters, .inl (c 1, 6, .inl M_counters))] → va_S A s.heap H locs → lv_has ls 4 [(2, .int 2), (0, .ref A_self), (1, .int a1)] → W p l e (headSpec wsX0_layDown ({ frames := 1, cells := 0, slots := 0, locals := 21 })).room s m (([.ref A_self, .int a1] : List Value).toArray) below meth cd H locs 0 0 (MQ below (va_Qi (fun (r : Int32) (u : (Nat → Int32) × Unit) => (LayI (f_counters 0).toInt (f_counters 1).toInt (f_counters 2).toInt (f_counters 3).toInt (f_counters 4).toInt (f_counters 5).toInt (u.1 0).toInt (u.1 1).toInt (u.1 2).toInt (u.1 3).toInt (u.1 4).toInt (u.1 5).toInt i_a1 r.toInt) ∧ (0 ≤ (u.1 0).toInt ∧ (u.1 0).toInt ≤ 11) ∧ (0 ≤ (u.1 1).toInt ∧ (u.1 1).toInt ≤ 19) ∧ (0 ≤ (u.1 2).toInt ∧ (u.1 2).toInt ≤ 19) ∧ (0 ≤ (u.1 3).toInt ∧ (u.1 3).toInt ≤ 4) ∧ (0 ≤ (u.1 4).toInt ∧ (u.1 4).toInt ≤ 9)) (fun u t => va_P D vwCl [(A_self, .inr (0, [.ref A_counters])), (A_counters, .inl (c 1, 6, .inl u.1))] t.heap ∧ va_D A [(A_self, .inr (0, [.ref A_counters])), (A_counters, .inl (c 1, 6, .inl u.1))]) A) ([.ref A_self, .int a1] : List Value).toArray s 0 0 A) (F0 m 2 ls []) := by
    intro M_counters hf2_2_0 hf2_2_1 hf2_2_2 hf2_2_3 hf2_2_4 hf2_2_5 H locs ls hP hD hS hl
    refine lv_iload_n hx hb dX0_layDown_2 rfl (lv_at hl 0 rfl) ?_
    refine lv_bipush (v := 6) hx hb dX0_layDown_3 (by decide) ?_
    refine iicmp_geF (a := 2) (b := 6) (tgt := 28) hx hb (by decide) (by decide) dX0_layDown_5 (by decide) (by decide) ?_
    refine lv_aload_n hx hb dX0_layDown_8 rfl (lv_at hl 1 rfl) ?_
    refine va_get (D := D) (ci := 0) (v := .ref A_counters) (C := RX0) (T := TX0) (N := 1) hx hb hts (fun _ h => List.mem_cons_of_mem _ (List.mem_append_right _ h)) hown hK hP 0 rfl rfl 0 (by decide) (hts (.fieldLink RX0 9 "CrownTable$Cloth" "counters" "[I") (mem_i 1 rfl)) (fun _ h9 => h9) rfl dX0_layDown_9 ?_
    refine lv_iload_n hx hb dX0_layDown_12 rfl (lv_at hl 0 rfl) ?_
    refine lv_dup2_11 hx hb dX0_layDown_13 rfl rfl ?_
    refine va_iald hx hb hK hP 1 1 rfl rfl (vin (a := 2) (by decide) (by decide) (by decide)) dX0_layDown_14 ?_
    refine lv_topi (fun x_164 ex_164 => ?_)
    have lf_165 : (M_counters 2).toInt = x_164.toInt := by rw [ex_164]; rfl
    refine lv_iload_n hx hb dX0_layDown_15 rfl (lv_at hl 2 rfl) ?_
    refine lv_iload_n hx hb dX0_layDown_16 rfl (lv_at hl 0 rfl) ?_
    have hPc := hP.sub (ws' := []) [] rfl
    have hDc := hD.sub (ws' := []) [] (by decide) rfl
    have hFc := va_free (wc := []) hD hS hA [] rfl
    have kzz_166 : (2 : Int32).toInt = 2 := by decide
    refine va_csi (va_runS (As := [.int a1, .int 2]) (rest := [.int x_164, .int 2, .ref A_counters]) ⟨hx, hb, hml, hown, hts⟩ (k_X0_notches_P l D c ts H.size a1 i_a1 hi_a1 2 2 (by decide) (by omega) (by omega)) (cwS 2 hts gX0_layDown_X0_notches rfl rfl rfl ⟨rfl, hdX0_notches⟩ ⟨(show 0 + 1 ≤ 1 by decide), (show 8 + (2 + 11) + 0 ≤ 21 by decide)⟩) ⟨Pre0.blind, Pre0.at hPc hDc hAm hSt hS hFc⟩ rfl rfl hl.1 rfl (lv_room (Nat.le_of_ble_eq_true rfl)) dX0_layDown_17 ⟨(show 0 + 0 ≤ 0 by decide), (show 0 + 0 ≤ 0 by decide)⟩) (fun r_168 hw_167 => ?_)
    have nf_169 : r_168.toInt = n2 := (hw_167.2.2.2.1 rfl).trans hDg.2.2.1
    clear hw_167
    have rg_r_168 := i32r r_168
    refine lv_iadd hx hb dX0_layDown_20 ?_
    refine lv_topi (fun x_170 ex_170 => ?_)
    have tx_170 : x_170.toInt = (x_164.toInt + r_168.toInt) := by rw [ex_170]; exact add_ti (a := x_164.toInt) (b := r_168.toInt) rfl rfl (by omega) (by omega)
    refine va_iast hx hb hK hP hD hS 1 1 rfl rfl (vin (a := 2) (by decide) (by decide) (by decide)) dX0_layDown_21 (fun H locs hP hD hS => ?_)
    obtain ⟨f_171, ef_171, hP, hD⟩ : ∃ f_171 : Nat → Int32, f_171 = upd M_counters (2 : Int32).toNatClampNeg x_170 ∧ va_P D vwCl [(A_self, .inr (0, [.ref A_counters])), (A_counters, .inl (c 1, 6, .inl f_171))] H ∧ va_D A [(A_self, .inr (0, [.ref A_counters])), (A_counters, .inl (c 1, 6, .inl f_171))] := ⟨_, rfl, hP, hD⟩
    have cl_172 : (f_171 0).toInt = (M_counters 0).toInt := by rw [ef_171]; rfl
    have cl_173 : (f_171 1).toInt = (M_counters 1).toInt := by rw [ef_171]; rfl
    have cl_174 : (f_171 2).toInt = x_170.toInt := by rw [ef_171]; rfl
    have cl_175 : (f_171 3).toInt = (M_counters 3).toInt := by rw [ef_171]; rfl
    have cl_176 : (f_171 4).toInt = (M_counters 4).toInt := by rw [ef_171]; rfl
    have cl_177 : (f_171 5).toInt = (M_counters 5).toInt := by rw [ef_171]; rfl
    refine lv_iinc (v := 3) (lv' := [(2, .int 3), (0, .ref A_self), (1, .int a1)]) hx hb dX0_layDown_22 hl (k := 0) rfl (by decide) (by decide) rfl (fun ls hl => ?_)
    refine lv_goto (tgt := 2) hx hb dX0_layDown_25 (by decide) ?_
    exact lp_2_3 f_171 (by omega) (by omega) (by omega) (by omega) (by omega) (by omega) _ _ _ hP hD hS hl
  have lp_2_1 : ∀ (M_counters : Nat → Int32) (hf2_1_0 : (M_counters 0).toInt = (f_counters 0).toInt + n0) (hf2_1_1 : (M_counters 1).toInt = (f_counters 1).toInt) (hf2_1_2 : (M_counters 2).toInt = (f_counters 2).toInt) (hf2_1_3 : (M_counters 3).toInt = (f_counters 3).toInt) (hf2_1_4 : (M_counters 4).toInt = (f_counters 4).toInt) (hf2_1_5 : (M_counters 5).toInt = (f_counters 5).toInt) (H : Heap) (locs : List Loc) (ls : Array Slot), va_P D vwCl [(A_self, .inr (0, [.ref A_counters])), (A_counters, .inl (c 1, 6, .inl M_counters))] H → va_D A [(A_self, .inr (0, [.ref A_counters])), (A_counters, .inl (c 1, 6, .inl M_counters))] → va_S A s.heap H locs → lv_has ls 4 [(2, .int 1), (0, .ref A_self), (1, .int a1)] → W p l e (headSpec wsX0_layDown ({ frames := 1, cells := 0, slots := 0, locals := 21 })).room s m (([.ref A_self, .int a1] : List Value).toArray) below meth cd H locs 0 0 (MQ below (va_Qi (fun (r : Int32) (u : (Nat → Int32) × Unit) => (LayI (f_counters 0).toInt (f_counters 1).toInt (f_counters 2).toInt (f_counters 3).toInt (f_counters 4).toInt (f_counters 5).toInt (u.1 0).toInt (u.1 1).toInt (u.1 2).toInt (u.1 3).toInt (u.1 4).toInt (u.1 5).toInt i_a1 r.toInt) ∧ (0 ≤ (u.1 0).toInt ∧ (u.1 0).toInt ≤ 11) ∧ (0 ≤ (u.1 1).toInt ∧ (u.1 1).toInt ≤ 19) ∧ (0 ≤ (u.1 2).toInt ∧ (u.1 2).toInt ≤ 19) ∧ (0 ≤ (u.1 3).toInt ∧ (u.1 3).toInt ≤ 4) ∧ (0 ≤ (u.1 4).toInt ∧ (u.1 4).toInt ≤ 9)) (fun u t => va_P D vwCl [(A_self, .inr (0, [.ref A_counters])), (A_counters, .inl (c 1, 6, .inl u.1))] t.heap ∧ va_D A [(A_self, .inr (0, [.ref A_counters])), (A_counters, .inl (c 1, 6, .inl u.1))]) A) ([.ref A_self, .int a1] : List Value).toArray s 0 0 A) (F0 m 2 ls []) := by
    intro M_counters hf2_1_0 hf2_1_1 hf2_1_2 hf2_1_3 hf2_1_4 hf2_1_5 H locs ls hP hD hS hl
    refine lv_iload_n hx hb dX0_layDown_2 rfl (lv_at hl 0 rfl) ?_
    refine lv_bipush (v := 6) hx hb dX0_layDown_3 (by decide) ?_
    refine iicmp_geF (a := 1) (b := 6) (tgt := 28) hx hb (by decide) (by decide) dX0_layDown_5 (by decide) (by decide) ?_
    refine lv_aload_n hx hb dX0_layDown_8 rfl (lv_at hl 1 rfl) ?_
    refine va_get (D := D) (ci := 0) (v := .ref A_counters) (C := RX0) (T := TX0) (N := 1) hx hb hts (fun _ h => List.mem_cons_of_mem _ (List.mem_append_right _ h)) hown hK hP 0 rfl rfl 0 (by decide) (hts (.fieldLink RX0 9 "CrownTable$Cloth" "counters" "[I") (mem_i 1 rfl)) (fun _ h9 => h9) rfl dX0_layDown_9 ?_
    refine lv_iload_n hx hb dX0_layDown_12 rfl (lv_at hl 0 rfl) ?_
    refine lv_dup2_11 hx hb dX0_layDown_13 rfl rfl ?_
    refine va_iald hx hb hK hP 1 1 rfl rfl (vin (a := 1) (by decide) (by decide) (by decide)) dX0_layDown_14 ?_
    refine lv_topi (fun x_178 ex_178 => ?_)
    have lf_179 : (M_counters 1).toInt = x_178.toInt := by rw [ex_178]; rfl
    refine lv_iload_n hx hb dX0_layDown_15 rfl (lv_at hl 2 rfl) ?_
    refine lv_iload_n hx hb dX0_layDown_16 rfl (lv_at hl 0 rfl) ?_
    have hPc := hP.sub (ws' := []) [] rfl
    have hDc := hD.sub (ws' := []) [] (by decide) rfl
    have hFc := va_free (wc := []) hD hS hA [] rfl
    have kzz_180 : (1 : Int32).toInt = 1 := by decide
    refine va_csi (va_runS (As := [.int a1, .int 1]) (rest := [.int x_178, .int 1, .ref A_counters]) ⟨hx, hb, hml, hown, hts⟩ (k_X0_notches_P l D c ts H.size a1 i_a1 hi_a1 1 1 (by decide) (by omega) (by omega)) (cwS 2 hts gX0_layDown_X0_notches rfl rfl rfl ⟨rfl, hdX0_notches⟩ ⟨(show 0 + 1 ≤ 1 by decide), (show 8 + (2 + 11) + 0 ≤ 21 by decide)⟩) ⟨Pre0.blind, Pre0.at hPc hDc hAm hSt hS hFc⟩ rfl rfl hl.1 rfl (lv_room (Nat.le_of_ble_eq_true rfl)) dX0_layDown_17 ⟨(show 0 + 0 ≤ 0 by decide), (show 0 + 0 ≤ 0 by decide)⟩) (fun r_182 hw_181 => ?_)
    have nf_183 : r_182.toInt = n1 := (hw_181.2.2.1 rfl).trans hDg.2.1
    clear hw_181
    have rg_r_182 := i32r r_182
    refine lv_iadd hx hb dX0_layDown_20 ?_
    refine lv_topi (fun x_184 ex_184 => ?_)
    have tx_184 : x_184.toInt = (x_178.toInt + r_182.toInt) := by rw [ex_184]; exact add_ti (a := x_178.toInt) (b := r_182.toInt) rfl rfl (by omega) (by omega)
    refine va_iast hx hb hK hP hD hS 1 1 rfl rfl (vin (a := 1) (by decide) (by decide) (by decide)) dX0_layDown_21 (fun H locs hP hD hS => ?_)
    obtain ⟨f_185, ef_185, hP, hD⟩ : ∃ f_185 : Nat → Int32, f_185 = upd M_counters (1 : Int32).toNatClampNeg x_184 ∧ va_P D vwCl [(A_self, .inr (0, [.ref A_counters])), (A_counters, .inl (c 1, 6, .inl f_185))] H ∧ va_D A [(A_self, .inr (0, [.ref A_counters])), (A_counters, .inl (c 1, 6, .inl f_185))] := ⟨_, rfl, hP, hD⟩
    have cl_186 : (f_185 0).toInt = (M_counters 0).toInt := by rw [ef_185]; rfl
    have cl_187 : (f_185 1).toInt = x_184.toInt := by rw [ef_185]; rfl
    have cl_188 : (f_185 2).toInt = (M_counters 2).toInt := by rw [ef_185]; rfl
    have cl_189 : (f_185 3).toInt = (M_counters 3).toInt := by rw [ef_185]; rfl
    have cl_190 : (f_185 4).toInt = (M_counters 4).toInt := by rw [ef_185]; rfl
    have cl_191 : (f_185 5).toInt = (M_counters 5).toInt := by rw [ef_185]; rfl
    refine lv_iinc (v := 2) (lv' := [(2, .int 2), (0, .ref A_self), (1, .int a1)]) hx hb dX0_layDown_22 hl (k := 0) rfl (by decide) (by decide) rfl (fun ls hl => ?_)
    refine lv_goto (tgt := 2) hx hb dX0_layDown_25 (by decide) ?_
    exact lp_2_2 f_185 (by omega) (by omega) (by omega) (by omega) (by omega) (by omega) _ _ _ hP hD hS hl
  have lp_2_0 : ∀ (M_counters : Nat → Int32) (hf2_0_0 : (M_counters 0).toInt = (f_counters 0).toInt) (hf2_0_1 : (M_counters 1).toInt = (f_counters 1).toInt) (hf2_0_2 : (M_counters 2).toInt = (f_counters 2).toInt) (hf2_0_3 : (M_counters 3).toInt = (f_counters 3).toInt) (hf2_0_4 : (M_counters 4).toInt = (f_counters 4).toInt) (hf2_0_5 : (M_counters 5).toInt = (f_counters 5).toInt) (H : Heap) (locs : List Loc) (ls : Array Slot), va_P D vwCl [(A_self, .inr (0, [.ref A_counters])), (A_counters, .inl (c 1, 6, .inl M_counters))] H → va_D A [(A_self, .inr (0, [.ref A_counters])), (A_counters, .inl (c 1, 6, .inl M_counters))] → va_S A s.heap H locs → lv_has ls 4 [(2, .int 0), (0, .ref A_self), (1, .int a1)] → W p l e (headSpec wsX0_layDown ({ frames := 1, cells := 0, slots := 0, locals := 21 })).room s m (([.ref A_self, .int a1] : List Value).toArray) below meth cd H locs 0 0 (MQ below (va_Qi (fun (r : Int32) (u : (Nat → Int32) × Unit) => (LayI (f_counters 0).toInt (f_counters 1).toInt (f_counters 2).toInt (f_counters 3).toInt (f_counters 4).toInt (f_counters 5).toInt (u.1 0).toInt (u.1 1).toInt (u.1 2).toInt (u.1 3).toInt (u.1 4).toInt (u.1 5).toInt i_a1 r.toInt) ∧ (0 ≤ (u.1 0).toInt ∧ (u.1 0).toInt ≤ 11) ∧ (0 ≤ (u.1 1).toInt ∧ (u.1 1).toInt ≤ 19) ∧ (0 ≤ (u.1 2).toInt ∧ (u.1 2).toInt ≤ 19) ∧ (0 ≤ (u.1 3).toInt ∧ (u.1 3).toInt ≤ 4) ∧ (0 ≤ (u.1 4).toInt ∧ (u.1 4).toInt ≤ 9)) (fun u t => va_P D vwCl [(A_self, .inr (0, [.ref A_counters])), (A_counters, .inl (c 1, 6, .inl u.1))] t.heap ∧ va_D A [(A_self, .inr (0, [.ref A_counters])), (A_counters, .inl (c 1, 6, .inl u.1))]) A) ([.ref A_self, .int a1] : List Value).toArray s 0 0 A) (F0 m 2 ls []) := by
    intro M_counters hf2_0_0 hf2_0_1 hf2_0_2 hf2_0_3 hf2_0_4 hf2_0_5 H locs ls hP hD hS hl
    refine lv_iload_n hx hb dX0_layDown_2 rfl (lv_at hl 0 rfl) ?_
    refine lv_bipush (v := 6) hx hb dX0_layDown_3 (by decide) ?_
    refine iicmp_geF (a := 0) (b := 6) (tgt := 28) hx hb (by decide) (by decide) dX0_layDown_5 (by decide) (by decide) ?_
    refine lv_aload_n hx hb dX0_layDown_8 rfl (lv_at hl 1 rfl) ?_
    refine va_get (D := D) (ci := 0) (v := .ref A_counters) (C := RX0) (T := TX0) (N := 1) hx hb hts (fun _ h => List.mem_cons_of_mem _ (List.mem_append_right _ h)) hown hK hP 0 rfl rfl 0 (by decide) (hts (.fieldLink RX0 9 "CrownTable$Cloth" "counters" "[I") (mem_i 1 rfl)) (fun _ h9 => h9) rfl dX0_layDown_9 ?_
    refine lv_iload_n hx hb dX0_layDown_12 rfl (lv_at hl 0 rfl) ?_
    refine lv_dup2_11 hx hb dX0_layDown_13 rfl rfl ?_
    refine va_iald hx hb hK hP 1 1 rfl rfl (vin (a := 0) (by decide) (by decide) (by decide)) dX0_layDown_14 ?_
    refine lv_topi (fun x_192 ex_192 => ?_)
    have lf_193 : (M_counters 0).toInt = x_192.toInt := by rw [ex_192]; rfl
    refine lv_iload_n hx hb dX0_layDown_15 rfl (lv_at hl 2 rfl) ?_
    refine lv_iload_n hx hb dX0_layDown_16 rfl (lv_at hl 0 rfl) ?_
    have hPc := hP.sub (ws' := []) [] rfl
    have hDc := hD.sub (ws' := []) [] (by decide) rfl
    have hFc := va_free (wc := []) hD hS hA [] rfl
    have kzz_194 : (0 : Int32).toInt = 0 := by decide
    refine va_csi (va_runS (As := [.int a1, .int 0]) (rest := [.int x_192, .int 0, .ref A_counters]) ⟨hx, hb, hml, hown, hts⟩ (k_X0_notches_P l D c ts H.size a1 i_a1 hi_a1 0 0 (by decide) (by omega) (by omega)) (cwS 2 hts gX0_layDown_X0_notches rfl rfl rfl ⟨rfl, hdX0_notches⟩ ⟨(show 0 + 1 ≤ 1 by decide), (show 8 + (2 + 11) + 0 ≤ 21 by decide)⟩) ⟨Pre0.blind, Pre0.at hPc hDc hAm hSt hS hFc⟩ rfl rfl hl.1 rfl (lv_room (Nat.le_of_ble_eq_true rfl)) dX0_layDown_17 ⟨(show 0 + 0 ≤ 0 by decide), (show 0 + 0 ≤ 0 by decide)⟩) (fun r_196 hw_195 => ?_)
    have nf_197 : r_196.toInt = n0 := (hw_195.2.1 rfl).trans hDg.1
    clear hw_195
    have rg_r_196 := i32r r_196
    refine lv_iadd hx hb dX0_layDown_20 ?_
    refine lv_topi (fun x_198 ex_198 => ?_)
    have tx_198 : x_198.toInt = (x_192.toInt + r_196.toInt) := by rw [ex_198]; exact add_ti (a := x_192.toInt) (b := r_196.toInt) rfl rfl (by omega) (by omega)
    refine va_iast hx hb hK hP hD hS 1 1 rfl rfl (vin (a := 0) (by decide) (by decide) (by decide)) dX0_layDown_21 (fun H locs hP hD hS => ?_)
    obtain ⟨f_199, ef_199, hP, hD⟩ : ∃ f_199 : Nat → Int32, f_199 = upd M_counters (0 : Int32).toNatClampNeg x_198 ∧ va_P D vwCl [(A_self, .inr (0, [.ref A_counters])), (A_counters, .inl (c 1, 6, .inl f_199))] H ∧ va_D A [(A_self, .inr (0, [.ref A_counters])), (A_counters, .inl (c 1, 6, .inl f_199))] := ⟨_, rfl, hP, hD⟩
    have cl_200 : (f_199 0).toInt = x_198.toInt := by rw [ef_199]; rfl
    have cl_201 : (f_199 1).toInt = (M_counters 1).toInt := by rw [ef_199]; rfl
    have cl_202 : (f_199 2).toInt = (M_counters 2).toInt := by rw [ef_199]; rfl
    have cl_203 : (f_199 3).toInt = (M_counters 3).toInt := by rw [ef_199]; rfl
    have cl_204 : (f_199 4).toInt = (M_counters 4).toInt := by rw [ef_199]; rfl
    have cl_205 : (f_199 5).toInt = (M_counters 5).toInt := by rw [ef_199]; rfl
    refine lv_iinc (v := 1) (lv' := [(2, .int 1), (0, .ref A_self), (1, .int a1)]) hx hb dX0_layDown_22 hl (k := 0) rfl (by decide) (by decide) rfl (fun ls hl => ?_)
    refine lv_goto (tgt := 2) hx hb dX0_layDown_25 (by decide) ?_
    exact lp_2_1 f_199 (by omega) (by omega) (by omega) (by omega) (by omega) (by omega) _ _ _ hP hD hS hl
  exact lp_2_0 f_counters (by omega) (by omega) (by omega) (by omega) (by omega) (by omega) _ _ _ hP hD hS hl
