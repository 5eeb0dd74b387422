set_option maxHeartbeats 4000000 in
set_option maxRecDepth 100000 in
theorem c_X6_allCredits (l : Launch) (D : va_G) (c : Nat → ClassId) (ts : Nat × Nat) (sz : Nat) (q : Nat → Nat) (h0 : Nat) : Met l yX6_allCredits wsX6_allCredits ({ frames := 0, cells := 0, slots := 0, locals := 0 }) (va_Pc [.ref h0] (Pre0 D c ts [(h0, .inr (6, o6 q 0 0 0 0)), (q 14, .inl (c 2, 16, .inr (.inl (fun _ => 0))))] sz)) (vp_Sl (fun r : Int64 => r = 0)) 0 0 (fun _ => False) := by
  refine Met.ofW (cc := cX6_allCredits) (maxL := 4) (ret := (some .long)) (by decide) rfl ?_
  intro p e s m args below meth cd s₁ B hml hv
  obtain ⟨rfl, hsz, hP, hD0, hAm, hSt⟩ := hv
  have hx := B.exec
  have hb := B.bytes
  have hr := B.returns
  have hts := atoms_spec (ws := wsX6_allCredits) B.pre
  have hown : s.vm.findClass RX6 = some m.cls := findClass_of_methodNamed B.named
  have hlocks := B.notSynchronized
  subst hsz
  have hK := hAm.1
  have hD := hD0.self (sz := s.heap.size)
  generalize hAe : va_A [(h0, .inr (6, o6 q 0 0 0 0)), (q 14, .inl (c 2, 16, .inr (.inl (fun _ => 0))))] s.heap.size = A at hD hSt
  have hA : ∀ q : Nat, s.heap.size ≤ q → A q := fun q h => by rw [← hAe]; exact Or.inr h
  have hS : va_S A s.heap s.heap [] := va_S.rf
  clear hD0 hAe
  have hl := lv_entry ([.ref h0]) (n := 4) (Nat.le_of_ble_eq_true rfl)
  rw [lg_entry_eq]
  generalize (lg_sl ([.ref h0]) ++ List.replicate (4 - (lg_sl ([.ref h0])).length) Slot.unset).toArray = ls at hl ⊢
  have hl : lv_has ls 4 [(0, .ref h0)] := hl
  refine lv_lconst (v := 0) hx hb dX6_allCredits_0 (by decide) ?_
  refine lv_lstore_n (lv' := [(1, .long 0), (0, .ref h0)]) hx hb dX6_allCredits_1 rfl hl (by decide) rfl (fun ls hl => ?_)
  refine lv_iconst (v := 0) hx hb dX6_allCredits_2 (by decide) ?_
  refine lv_istore_n (lv' := [(3, .int 0), (1, .long 0), (0, .ref h0)]) hx hb dX6_allCredits_3 rfl hl (by decide) rfl (fun ls hl => ?_)
  refine lv_iload_n hx hb dX6_allCredits_4 rfl (lv_at hl 0 rfl) ?_
  refine lv_bipush (v := 16) hx hb dX6_allCredits_5 (by decide) ?_
  refine iicmp_geF (a := 0) (b := 16) (tgt := 25) hx hb (by decide) (by decide) dX6_allCredits_7 (by decide) (by decide) ?_
  refine lv_lload_n hx hb dX6_allCredits_10 rfl (lv_at hl 1 rfl) ?_
  refine lv_aload_n hx hb dX6_allCredits_11 rfl (lv_at hl 2 rfl) ?_
  refine va_get (D := D) (ci := 6) (v := .ref (q 14)) (C := RX6) (T := TX6) (N := 18) hx hb hts (fun _ h => List.mem_cons_of_mem _ (List.mem_append_right _ h)) hown hK hP 0 rfl rfl 6 (by decide) (hts (.fieldLink RX6 47 "CrownTable" "credits" "[J") (mem_i 1 rfl)) (fun _ h9 => h9) rfl dX6_allCredits_12 ?_
  refine lv_iload_n hx hb dX6_allCredits_15 rfl (lv_at hl 0 rfl) ?_
  refine va_lald hx hb hK hP 1 2 rfl rfl (vin (a := 0) (by decide) (by decide) (by decide)) dX6_allCredits_16 ?_
  refine lk_l (y := 0) rfl ?_
  refine lv_ladd hx hb dX6_allCredits_17 ?_
  refine lk_l (y := 0) (by decide) ?_
  refine lv_lstore_n (lv' := [(1, .long 0), (3, .int 0), (0, .ref h0)]) hx hb dX6_allCredits_18 rfl hl (by decide) rfl (fun ls hl => ?_)
  refine lv_iinc (v := 1) (lv' := [(3, .int 1), (1, .long 0), (0, .ref h0)]) hx hb dX6_allCredits_19 hl (k := 1) rfl (by decide) (by decide) rfl (fun ls hl => ?_)
  refine lv_goto (tgt := 4) hx hb dX6_allCredits_22 (by decide) ?_
  refine lv_iload_n hx hb dX6_allCredits_4 rfl (lv_at hl 0 rfl) ?_
  refine lv_bipush (v := 16) hx hb dX6_allCredits_5 (by decide) ?_
  refine iicmp_geF (a := 1) (b := 16) (tgt := 25) hx hb (by decide) (by decide) dX6_allCredits_7 (by decide) (by decide) ?_
  refine lv_lload_n hx hb dX6_allCredits_10 rfl (lv_at hl 1 rfl) ?_
  refine lv_aload_n hx hb dX6_allCredits_11 rfl (lv_at hl 2 rfl) ?_
  refine va_get (D := D) (ci := 6) (v := .ref (q 14)) (C := RX6) (T := TX6) (N := 18) hx hb hts (fun _ h => List.mem_cons_of_mem _ (List.mem_append_right _ h)) hown hK hP 0 rfl rfl 6 (by decide) (hts (.fieldLink RX6 47 "CrownTable" "credits" "[J") (mem_i 1 rfl)) (fun _ h9 => h9) rfl dX6_allCredits_12 ?_
  refine lv_iload_n hx hb dX6_allCredits_15 rfl (lv_at hl 0 rfl) ?_
  refine va_lald hx hb hK hP 1 2 rfl rfl (vin (a := 1) (by decide) (by decide) (by decide)) dX6_allCredits_16 ?_
  refine lk_l (y := 0) rfl ?_
  refine lv_ladd hx hb dX6_allCredits_17 ?_
  refine lk_l (y := 0) (by decide) ?_
  refine lv_lstore_n (lv' := [(1, .long 0), (3, .int 1), (0, .ref h0)]) hx hb dX6_allCredits_18 rfl hl (by decide) rfl (fun ls hl => ?_)
  refine lv_iinc (v := 2) (lv' := [(3, .int 2), (1, .long 0), (0, .ref h0)]) hx hb dX6_allCredits_19 hl (k := 1) rfl (by decide) (by decide) rfl (fun ls hl => ?_)
  refine lv_goto (tgt := 4) hx hb dX6_allCredits_22 (by decide) ?_
  refine lv_iload_n hx hb dX6_allCredits_4 rfl (lv_at hl 0 rfl) ?_
  refine lv_bipush (v := 16) hx hb dX6_allCredits_5 (by decide) ?_
  refine iicmp_geF (a := 2) (b := 16) (tgt := 25) hx hb (by decide) (by decide) dX6_allCredits_7 (by decide) (by decide) ?_
  refine lv_lload_n hx hb dX6_allCredits_10 rfl (lv_at hl 1 rfl) ?_
  refine lv_aload_n hx hb dX6_allCredits_11 rfl (lv_at hl 2 rfl) ?_
  refine va_get (D := D) (ci := 6) (v := .ref (q 14)) (C := RX6) (T := TX6) (N := 18) hx hb hts (fun _ h => List.mem_cons_of_mem _ (List.mem_append_right _ h)) hown hK hP 0 rfl rfl 6 (by decide) (hts (.fieldLink RX6 47 "CrownTable" "credits" "[J") (mem_i 1 rfl)) (fun _ h9 => h9) rfl dX6_allCredits_12 ?_
  refine lv_iload_n hx hb dX6_allCredits_15 rfl (lv_at hl 0 rfl) ?_
  refine va_lald hx hb hK hP 1 2 rfl rfl (vin (a := 2) (by decide) (by decide) (by decide)) dX6_allCredits_16 ?_
  refine lk_l (y := 0) rfl ?_
  refine lv_ladd hx hb dX6_allCredits_17 ?_
  refine lk_l (y := 0) (by decide) ?_
  refine lv_lstore_n (lv' := [(1, .long 0), (3, .int 2), (0, .ref h0)]) hx hb dX6_allCredits_18 rfl hl (by decide) rfl (fun ls hl => ?_)
  refine lv_iinc (v := 3) (lv' := [(3, .int 3), (1, .long 0), (0, .ref h0)]) hx hb dX6_allCredits_19 hl (k := 1) rfl (by decide) (by decide) rfl (fun ls hl => ?_)
  refine lv_goto (tgt := 4) hx hb dX6_allCredits_22 (by decide) ?_
  refine lv_iload_n hx hb dX6_allCredits_4 rfl (lv_at hl 0 rfl) ?_
  refine lv_bipush (v := 16) hx hb dX6_allCredits_5 (by decide) ?_
  refine iicmp_geF (a := 3) (b := 16) (tgt := 25) hx hb (by decide) (by decide) dX6_allCredits_7 (by decide) (by decide) ?_
  refine lv_lload_n hx hb dX6_allCredits_10 rfl (lv_at hl 1 rfl) ?_
  refine lv_aload_n hx hb dX6_allCredits_11 rfl (lv_at hl 2 rfl) ?_
  refine va_get (D := D) (ci := 6) (v := .ref (q 14)) (C := RX6) (T := TX6) (N := 18) hx hb hts (fun _ h => List.mem_cons_of_mem _ (List.mem_append_right _ h)) hown hK hP 0 rfl rfl 6 (by decide) (hts (.fieldLink RX6 47 "CrownTable" "credits" "[J") (mem_i 1 rfl)) (fun _ h9 => h9) rfl dX6_allCredits_12 ?_
  refine lv_iload_n hx hb dX6_allCredits_15 rfl (lv_at hl 0 rfl) ?_
  refine va_lald hx hb hK hP 1 2 rfl rfl (vin (a := 3) (by decide) (by decide) (by decide)) dX6_allCredits_16 ?_
  refine lk_l (y := 0) rfl ?_
  refine lv_ladd hx hb dX6_allCredits_17 ?_
  refine lk_l (y := 0) (by decide) ?_
  refine lv_lstore_n (lv' := [(1, .long 0), (3, .int 3), (0, .ref h0)]) hx hb dX6_allCredits_18 rfl hl (by decide) rfl (fun ls hl => ?_)
  refine lv_iinc (v := 4) (lv' := [(3, .int 4), (1, .long 0), (0, .ref h0)]) hx hb dX6_allCredits_19 hl (k := 1) rfl (by decide) (by decide) rfl (fun ls hl => ?_)
  refine lv_goto (tgt := 4) hx hb dX6_allCredits_22 (by decide) ?_
  refine lv_iload_n hx hb dX6_allCredits_4 rfl (lv_at hl 0 rfl) ?_
  refine lv_bipush (v := 16) hx hb dX6_allCredits_5 (by decide) ?_
  refine iicmp_geF (a := 4) (b := 16) (tgt := 25) hx hb (by decide) (by decide) dX6_allCredits_7 (by decide) (by decide) ?_
  refine lv_lload_n hx hb dX6_allCredits_10 rfl (lv_at hl 1 rfl) ?_
  refine lv_aload_n hx hb dX6_allCredits_11 rfl (lv_at hl 2 rfl) ?_
  refine va_get (D := D) (ci := 6) (v := .ref (q 14)) (C := RX6) (T := TX6) (N := 18) hx hb hts (fun _ h => List.mem_cons_of_mem _ (List.mem_append_right _ h)) hown hK hP 0 rfl rfl 6 (by decide) (hts (.fieldLink RX6 47 "CrownTable" "credits" "[J") (mem_i 1 rfl)) (fun _ h9 => h9) rfl dX6_allCredits_12 ?_
  refine lv_iload_n hx hb dX6_allCredits_15 rfl (lv_at hl 0 rfl) ?_
  refine va_lald hx hb hK hP 1 2 rfl rfl (vin (a := 4) (by decide) (by decide) (by decide)) dX6_allCredits_16 ?_
  refine lk_l (y := 0) rfl ?_
  refine lv_ladd hx hb dX6_allCredits_17 ?_
  refine lk_l (y := 0) (by decide) ?_
  refine lv_lstore_n (lv' := [(1, .long 0), (3, .int 4), (0, .ref h0)]) hx hb dX6_allCredits_18 rfl hl (by decide) rfl (fun ls hl => ?_)
  refine lv_iinc (v := 5) (lv' := [(3, .int 5), (1, .long 0), (0, .ref h0)]) hx hb dX6_allCredits_19 hl (k := 1) rfl (by decide) (by decide) rfl (fun ls hl => ?_)
  refine lv_goto (tgt := 4) hx hb dX6_allCredits_22 (by decide) ?_
  refine lv_iload_n hx hb dX6_allCredits_4 rfl (lv_at hl 0 rfl) ?_
  refine lv_bipush (v := 16) hx hb dX6_allCredits_5 (by decide) ?_
  refine iicmp_geF (a := 5) (b := 16) (tgt := 25) hx hb (by decide) (by decide) dX6_allCredits_7 (by decide) (by decide) ?_
  refine lv_lload_n hx hb dX6_allCredits_10 rfl (lv_at hl 1 rfl) ?_
  refine lv_aload_n hx hb dX6_allCredits_11 rfl (lv_at hl 2 rfl) ?_
  refine va_get (D := D) (ci := 6) (v := .ref (q 14)) (C := RX6) (T := TX6) (N := 18) hx hb hts (fun _ h => List.mem_cons_of_mem _ (List.mem_append_right _ h)) hown hK hP 0 rfl rfl 6 (by decide) (hts (.fieldLink RX6 47 "CrownTable" "credits" "[J") (mem_i 1 rfl)) (fun _ h9 => h9) rfl dX6_allCredits_12 ?_
  refine lv_iload_n hx hb dX6_allCredits_15 rfl (lv_at hl 0 rfl) ?_
  refine va_lald hx hb hK hP 1 2 rfl rfl (vin (a := 5) (by decide) (by decide) (by decide)) dX6_allCredits_16 ?_
  refine lk_l (y := 0) rfl ?_
  refine lv_ladd hx hb dX6_allCredits_17 ?_
  refine lk_l (y := 0) (by decide) ?_
  refine lv_lstore_n (lv' := [(1, .long 0), (3, .int 5), (0, .ref h0)]) hx hb dX6_allCredits_18 rfl hl (by decide) rfl (fun ls hl => ?_)
  refine lv_iinc (v := 6) (lv' := [(3, .int 6), (1, .long 0), (0, .ref h0)]) hx hb dX6_allCredits_19 hl (k := 1) rfl (by decide) (by decide) rfl (fun ls hl => ?_)
  refine lv_goto (tgt := 4) hx hb dX6_allCredits_22 (by decide) ?_
  refine lv_iload_n hx hb dX6_allCredits_4 rfl (lv_at hl 0 rfl) ?_
  refine lv_bipush (v := 16) hx hb dX6_allCredits_5 (by decide) ?_
  refine iicmp_geF (a := 6) (b := 16) (tgt := 25) hx hb (by decide) (by decide) dX6_allCredits_7 (by decide) (by decide) ?_
  refine lv_lload_n hx hb dX6_allCredits_10 rfl (lv_at hl 1 rfl) ?_
  refine lv_aload_n hx hb dX6_allCredits_11 rfl (lv_at hl 2 rfl) ?_
  refine va_get (D := D) (ci := 6) (v := .ref (q 14)) (C := RX6) (T := TX6) (N := 18) hx hb hts (fun _ h => List.mem_cons_of_mem _ (List.mem_append_right _ h)) hown hK hP 0 rfl rfl 6 (by decide) (hts (.fieldLink RX6 47 "CrownTable" "credits" "[J") (mem_i 1 rfl)) (fun _ h9 => h9) rfl dX6_allCredits_12 ?_
  refine lv_iload_n hx hb dX6_allCredits_15 rfl (lv_at hl 0 rfl) ?_
  refine va_lald hx hb hK hP 1 2 rfl rfl (vin (a := 6) (by decide) (by decide) (by decide)) dX6_allCredits_16 ?_
  refine lk_l (y := 0) rfl ?_
  refine lv_ladd hx hb dX6_allCredits_17 ?_
  refine lk_l (y := 0) (by decide) ?_
  refine lv_lstore_n (lv' := [(1, .long 0), (3, .int 6), (0, .ref h0)]) hx hb dX6_allCredits_18 rfl hl (by decide) rfl (fun ls hl => ?_)
  refine lv_iinc (v := 7) (lv' := [(3, .int 7), (1, .long 0), (0, .ref h0)]) hx hb dX6_allCredits_19 hl (k := 1) rfl (by decide) (by decide) rfl (fun ls hl => ?_)
  refine lv_goto (tgt := 4) hx hb dX6_allCredits_22 (by decide) ?_
  refine lv_iload_n hx hb dX6_allCredits_4 rfl (lv_at hl 0 rfl) ?_
  refine lv_bipush (v := 16) hx hb dX6_allCredits_5 (by decide) ?_
  refine iicmp_geF (a := 7) (b := 16) (tgt := 25) hx hb (by decide) (by decide) dX6_allCredits_7 (by decide) (by decide) ?_
  refine lv_lload_n hx hb dX6_allCredits_10 rfl (lv_at hl 1 rfl) ?_
  refine lv_aload_n hx hb dX6_allCredits_11 rfl (lv_at hl 2 rfl) ?_
  refine va_get (D := D) (ci := 6) (v := .ref (q 14)) (C := RX6) (T := TX6) (N := 18) hx hb hts (fun _ h => List.mem_cons_of_mem _ (List.mem_append_right _ h)) hown hK hP 0 rfl rfl 6 (by decide) (hts (.fieldLink RX6 47 "CrownTable" "credits" "[J") (mem_i 1 rfl)) (fun _ h9 => h9) rfl dX6_allCredits_12 ?_
  refine lv_iload_n hx hb dX6_allCredits_15 rfl (lv_at hl 0 rfl) ?_
  refine va_lald hx hb hK hP 1 2 rfl rfl (vin (a := 7) (by decide) (by decide) (by decide)) dX6_allCredits_16 ?_
  refine lk_l (y := 0) rfl ?_
  refine lv_ladd hx hb dX6_allCredits_17 ?_
  refine lk_l (y := 0) (by decide) ?_
  refine lv_lstore_n (lv' := [(1, .long 0), (3, .int 7), (0, .ref h0)]) hx hb dX6_allCredits_18 rfl hl (by decide) rfl (fun ls hl => ?_)
  refine lv_iinc (v := 8) (lv' := [(3, .int 8), (1, .long 0), (0, .ref h0)]) hx hb dX6_allCredits_19 hl (k := 1) rfl (by decide) (by decide) rfl (fun ls hl => ?_)
  refine lv_goto (tgt := 4) hx hb dX6_allCredits_22 (by decide) ?_
  refine lv_iload_n hx hb dX6_allCredits_4 rfl (lv_at hl 0 rfl) ?_
  refine lv_bipush (v := 16) hx hb dX6_allCredits_5 (by decide) ?_
  refine iicmp_geF (a := 8) (b := 16) (tgt := 25) hx hb (by decide) (by decide) dX6_allCredits_7 (by decide) (by decide) ?_
  refine lv_lload_n hx hb dX6_allCredits_10 rfl (lv_at hl 1 rfl) ?_
  refine lv_aload_n hx hb dX6_allCredits_11 rfl (lv_at hl 2 rfl) ?_
  refine va_get (D := D) (ci := 6) (v := .ref (q 14)) (C := RX6) (T := TX6) (N := 18) hx hb hts (fun _ h => List.mem_cons_of_mem _ (List.mem_append_right _ h)) hown hK hP 0 rfl rfl 6 (by decide) (hts (.fieldLink RX6 47 "CrownTable" "credits" "[J") (mem_i 1 rfl)) (fun _ h9 => h9) rfl dX6_allCredits_12 ?_
  refine lv_iload_n hx hb dX6_allCredits_15 rfl (lv_at hl 0 rfl) ?_
  refine va_lald hx hb hK hP 1 2 rfl rfl (vin (a := 8) (by decide) (by decide) (by decide)) dX6_allCredits_16 ?_
  refine lk_l (y := 0) rfl ?_
  refine lv_ladd hx hb dX6_allCredits_17 ?_
  refine lk_l (y := 0) (by decide) ?_
  refine lv_lstore_n (lv' := [(1, .long 0), (3, .int 8), (0, .ref h0)]) hx hb dX6_allCredits_18 rfl hl (by decide) rfl (fun ls hl => ?_)
  refine lv_iinc (v := 9) (lv' := [(3, .int 9), (1, .long 0), (0, .ref h0)]) hx hb dX6_allCredits_19 hl (k := 1) rfl (by decide) (by decide) rfl (fun ls hl => ?_)
  refine lv_goto (tgt := 4) hx hb dX6_allCredits_22 (by decide) ?_
  refine lv_iload_n hx hb dX6_allCredits_4 rfl (lv_at hl 0 rfl) ?_
  refine lv_bipush (v := 16) hx hb dX6_allCredits_5 (by decide) ?_
  refine iicmp_geF (a := 9) (b := 16) (tgt := 25) hx hb (by decide) (by decide) dX6_allCredits_7 (by decide) (by decide) ?_
  refine lv_lload_n hx hb dX6_allCredits_10 rfl (lv_at hl 1 rfl) ?_
  refine lv_aload_n hx hb dX6_allCredits_11 rfl (lv_at hl 2 rfl) ?_
  refine va_get (D := D) (ci := 6) (v := .ref (q 14)) (C := RX6) (T := TX6) (N := 18) hx hb hts (fun _ h => List.mem_cons_of_mem _ (List.mem_append_right _ h)) hown hK hP 0 rfl rfl 6 (by decide) (hts (.fieldLink RX6 47 "CrownTable" "credits" "[J") (mem_i 1 rfl)) (fun _ h9 => h9) rfl dX6_allCredits_12 ?_
  refine lv_iload_n hx hb dX6_allCredits_15 rfl (lv_at hl 0 rfl) ?_
  refine va_lald hx hb hK hP 1 2 rfl rfl (vin (a := 9) (by decide) (by decide) (by decide)) dX6_allCredits_16 ?_
  refine lk_l (y := 0) rfl ?_
  refine lv_ladd hx hb dX6_allCredits_17 ?_
  refine lk_l (y := 0) (by decide) ?_
  refine lv_lstore_n (lv' := [(1, .long 0), (3, .int 9), (0, .ref h0)]) hx hb dX6_allCredits_18 rfl hl (by decide) rfl (fun ls hl => ?_)
  refine lv_iinc (v := 10) (lv' := [(3, .int 10), (1, .long 0), (0, .ref h0)]) hx hb dX6_allCredits_19 hl (k := 1) rfl (by decide) (by decide) rfl (fun ls hl => ?_)
  refine lv_goto (tgt := 4) hx hb dX6_allCredits_22 (by decide) ?_
  refine lv_iload_n hx hb dX6_allCredits_4 rfl (lv_at hl 0 rfl) ?_
  refine lv_bipush (v := 16) hx hb dX6_allCredits_5 (by decide) ?_
  refine iicmp_geF (a := 10) (b := 16) (tgt := 25) hx hb (by decide) (by decide) dX6_allCredits_7 (by decide) (by decide) ?_
  refine lv_lload_n hx hb dX6_allCredits_10 rfl (lv_at hl 1 rfl) ?_
  refine lv_aload_n hx hb dX6_allCredits_11 rfl (lv_at hl 2 rfl) ?_
  refine va_get (D := D) (ci := 6) (v := .ref (q 14)) (C := RX6) (T := TX6) (N := 18) hx hb hts (fun _ h => List.mem_cons_of_mem _ (List.mem_append_right _ h)) hown hK hP 0 rfl rfl 6 (by decide) (hts (.fieldLink RX6 47 "CrownTable" "credits" "[J") (mem_i 1 rfl)) (fun _ h9 => h9) rfl dX6_allCredits_12 ?_
  refine lv_iload_n hx hb dX6_allCredits_15 rfl (lv_at hl 0 rfl) ?_
  refine va_lald hx hb hK hP 1 2 rfl rfl (vin (a := 10) (by decide) (by decide) (by decide)) dX6_allCredits_16 ?_
  refine lk_l (y := 0) rfl ?_
  refine lv_ladd hx hb dX6_allCredits_17 ?_
  refine lk_l (y := 0) (by decide) ?_
  refine lv_lstore_n (lv' := [(1, .long 0), (3, .int 10), (0, .ref h0)]) hx hb dX6_allCredits_18 rfl hl (by decide) rfl (fun ls hl => ?_)
  refine lv_iinc (v := 11) (lv' := [(3, .int 11), (1, .long 0), (0, .ref h0)]) hx hb dX6_allCredits_19 hl (k := 1) rfl (by decide) (by decide) rfl (fun ls hl => ?_)
  refine lv_goto (tgt := 4) hx hb dX6_allCredits_22 (by decide) ?_
  refine lv_iload_n hx hb dX6_allCredits_4 rfl (lv_at hl 0 rfl) ?_
  refine lv_bipush (v := 16) hx hb dX6_allCredits_5 (by decide) ?_
  refine iicmp_geF (a := 11) (b := 16) (tgt := 25) hx hb (by decide) (by decide) dX6_allCredits_7 (by decide) (by decide) ?_
  refine lv_lload_n hx hb dX6_allCredits_10 rfl (lv_at hl 1 rfl) ?_
  refine lv_aload_n hx hb dX6_allCredits_11 rfl (lv_at hl 2 rfl) ?_
  refine va_get (D := D) (ci := 6) (v := .ref (q 14)) (C := RX6) (T := TX6) (N := 18) hx hb hts (fun _ h => List.mem_cons_of_mem _ (List.mem_append_right _ h)) hown hK hP 0 rfl rfl 6 (by decide) (hts (.fieldLink RX6 47 "CrownTable" "credits" "[J") (mem_i 1 rfl)) (fun _ h9 => h9) rfl dX6_allCredits_12 ?_
  refine lv_iload_n hx hb dX6_allCredits_15 rfl (lv_at hl 0 rfl) ?_
  refine va_lald hx hb hK hP 1 2 rfl rfl (vin (a := 11) (by decide) (by decide) (by decide)) dX6_allCredits_16 ?_
  refine lk_l (y := 0) rfl ?_
  refine lv_ladd hx hb dX6_allCredits_17 ?_
  refine lk_l (y := 0) (by decide) ?_
  refine lv_lstore_n (lv' := [(1, .long 0), (3, .int 11), (0, .ref h0)]) hx hb dX6_allCredits_18 rfl hl (by decide) rfl (fun ls hl => ?_)
  refine lv_iinc (v := 12) (lv' := [(3, .int 12), (1, .long 0), (0, .ref h0)]) hx hb dX6_allCredits_19 hl (k := 1) rfl (by decide) (by decide) rfl (fun ls hl => ?_)
  refine lv_goto (tgt := 4) hx hb dX6_allCredits_22 (by decide) ?_
  refine lv_iload_n hx hb dX6_allCredits_4 rfl (lv_at hl 0 rfl) ?_
  refine lv_bipush (v := 16) hx hb dX6_allCredits_5 (by decide) ?_
  refine iicmp_geF (a := 12) (b := 16) (tgt := 25) hx hb (by decide) (by decide) dX6_allCredits_7 (by decide) (by decide) ?_
  refine lv_lload_n hx hb dX6_allCredits_10 rfl (lv_at hl 1 rfl) ?_
  refine lv_aload_n hx hb dX6_allCredits_11 rfl (lv_at hl 2 rfl) ?_
  refine va_get (D := D) (ci := 6) (v := .ref (q 14)) (C := RX6) (T := TX6) (N := 18) hx hb hts (fun _ h => List.mem_cons_of_mem _ (List.mem_append_right _ h)) hown hK hP 0 rfl rfl 6 (by decide) (hts (.fieldLink RX6 47 "CrownTable" "credits" "[J") (mem_i 1 rfl)) (fun _ h9 => h9) rfl dX6_allCredits_12 ?_
  refine lv_iload_n hx hb dX6_allCredits_15 rfl (lv_at hl 0 rfl) ?_
  refine va_lald hx hb hK hP 1 2 rfl rfl (vin (a := 12) (by decide) (by decide) (by decide)) dX6_allCredits_16 ?_
  refine lk_l (y := 0) rfl ?_
  refine lv_ladd hx hb dX6_allCredits_17 ?_
  refine lk_l (y := 0) (by decide) ?_
  refine lv_lstore_n (lv' := [(1, .long 0), (3, .int 12), (0, .ref h0)]) hx hb dX6_allCredits_18 rfl hl (by decide) rfl (fun ls hl => ?_)
  refine lv_iinc (v := 13) (lv' := [(3, .int 13), (1, .long 0), (0, .ref h0)]) hx hb dX6_allCredits_19 hl (k := 1) rfl (by decide) (by decide) rfl (fun ls hl => ?_)
  refine lv_goto (tgt := 4) hx hb dX6_allCredits_22 (by decide) ?_
  refine lv_iload_n hx hb dX6_allCredits_4 rfl (lv_at hl 0 rfl) ?_
  refine lv_bipush (v := 16) hx hb dX6_allCredits_5 (by decide) ?_
  refine iicmp_geF (a := 13) (b := 16) (tgt := 25) hx hb (by decide) (by decide) dX6_allCredits_7 (by decide) (by decide) ?_
  refine lv_lload_n hx hb dX6_allCredits_10 rfl (lv_at hl 1 rfl) ?_
  refine lv_aload_n hx hb dX6_allCredits_11 rfl (lv_at hl 2 rfl) ?_
  refine va_get (D := D) (ci := 6) (v := .ref (q 14)) (C := RX6) (T := TX6) (N := 18) hx hb hts (fun _ h => List.mem_cons_of_mem _ (List.mem_append_right _ h)) hown hK hP 0 rfl rfl 6 (by decide) (hts (.fieldLink RX6 47 "CrownTable" "credits" "[J") (mem_i 1 rfl)) (fun _ h9 => h9) rfl dX6_allCredits_12 ?_
  refine lv_iload_n hx hb dX6_allCredits_15 rfl (lv_at hl 0 rfl) ?_
  refine va_lald hx hb hK hP 1 2 rfl rfl (vin (a := 13) (by decide) (by decide) (by decide)) dX6_allCredits_16 ?_
  refine lk_l (y := 0) rfl ?_
  refine lv_ladd hx hb dX6_allCredits_17 ?_
  refine lk_l (y := 0) (by decide) ?_
  refine lv_lstore_n (lv' := [(1, .long 0), (3, .int 13), (0, .ref h0)]) hx hb dX6_allCredits_18 rfl hl (by decide) rfl (fun ls hl => ?_)
  refine lv_iinc (v := 14) (lv' := [(3, .int 14), (1, .long 0), (0, .ref h0)]) hx hb dX6_allCredits_19 hl (k := 1) rfl (by decide) (by decide) rfl (fun ls hl => ?_)
  refine lv_goto (tgt := 4) hx hb dX6_allCredits_22 (by decide) ?_
  refine lv_iload_n hx hb dX6_allCredits_4 rfl (lv_at hl 0 rfl) ?_
  refine lv_bipush (v := 16) hx hb dX6_allCredits_5 (by decide) ?_
  refine iicmp_geF (a := 14) (b := 16) (tgt := 25) hx hb (by decide) (by decide) dX6_allCredits_7 (by decide) (by decide) ?_
  refine lv_lload_n hx hb dX6_allCredits_10 rfl (lv_at hl 1 rfl) ?_
  refine lv_aload_n hx hb dX6_allCredits_11 rfl (lv_at hl 2 rfl) ?_
  refine va_get (D := D) (ci := 6) (v := .ref (q 14)) (C := RX6) (T := TX6) (N := 18) hx hb hts (fun _ h => List.mem_cons_of_mem _ (List.mem_append_right _ h)) hown hK hP 0 rfl rfl 6 (by decide) (hts (.fieldLink RX6 47 "CrownTable" "credits" "[J") (mem_i 1 rfl)) (fun _ h9 => h9) rfl dX6_allCredits_12 ?_
  refine lv_iload_n hx hb dX6_allCredits_15 rfl (lv_at hl 0 rfl) ?_
  refine va_lald hx hb hK hP 1 2 rfl rfl (vin (a := 14) (by decide) (by decide) (by decide)) dX6_allCredits_16 ?_
  refine lk_l (y := 0) rfl ?_
  refine lv_ladd hx hb dX6_allCredits_17 ?_
  refine lk_l (y := 0) (by decide) ?_
  refine lv_lstore_n (lv' := [(1, .long 0), (3, .int 14), (0, .ref h0)]) hx hb dX6_allCredits_18 rfl hl (by decide) rfl (fun ls hl => ?_)
  refine lv_iinc (v := 15) (lv' := [(3, .int 15), (1, .long 0), (0, .ref h0)]) hx hb dX6_allCredits_19 hl (k := 1) rfl (by decide) (by decide) rfl (fun ls hl => ?_)
  refine lv_goto (tgt := 4) hx hb dX6_allCredits_22 (by decide) ?_
  refine lv_iload_n hx hb dX6_allCredits_4 rfl (lv_at hl 0 rfl) ?_
  refine lv_bipush (v := 16) hx hb dX6_allCredits_5 (by decide) ?_
  refine iicmp_geF (a := 15) (b := 16) (tgt := 25) hx hb (by decide) (by decide) dX6_allCredits_7 (by decide) (by decide) ?_
  refine lv_lload_n hx hb dX6_allCredits_10 rfl (lv_at hl 1 rfl) ?_
  refine lv_aload_n hx hb dX6_allCredits_11 rfl (lv_at hl 2 rfl) ?_
  refine va_get (D := D) (ci := 6) (v := .ref (q 14)) (C := RX6) (T := TX6) (N := 18) hx hb hts (fun _ h => List.mem_cons_of_mem _ (List.mem_append_right _ h)) hown hK hP 0 rfl rfl 6 (by decide) (hts (.fieldLink RX6 47 "CrownTable" "credits" "[J") (mem_i 1 rfl)) (fun _ h9 => h9) rfl dX6_allCredits_12 ?_
  refine lv_iload_n hx hb dX6_allCredits_15 rfl (lv_at hl 0 rfl) ?_
  refine va_lald hx hb hK hP 1 2 rfl rfl (vin (a := 15) (by decide) (by decide) (by decide)) dX6_allCredits_16 ?_
  refine lk_l (y := 0) rfl ?_
  refine lv_ladd hx hb dX6_allCredits_17 ?_
  refine lk_l (y := 0) (by decide) ?_
  refine lv_lstore_n (lv' := [(1, .long 0), (3, .int 15), (0, .ref h0)]) hx hb dX6_allCredits_18 rfl hl (by decide) rfl (fun ls hl => ?_)
  refine lv_iinc (v := 16) (lv' := [(3, .int 16), (1, .long 0), (0, .ref h0)]) hx hb dX6_allCredits_19 hl (k := 1) rfl (by decide) (by decide) rfl (fun ls hl => ?_)
  refine lv_goto (tgt := 4) hx hb dX6_allCredits_22 (by decide) ?_
  refine lv_iload_n hx hb dX6_allCredits_4 rfl (lv_at hl 0 rfl) ?_
  refine lv_bipush (v := 16) hx hb dX6_allCredits_5 (by decide) ?_
  refine iicmp_geT (a := 16) (b := 16) (tgt := 25) hx hb (by decide) (by decide) dX6_allCredits_7 (by decide) (by decide) ?_
  refine lv_lload_n hx hb dX6_allCredits_25 rfl (lv_at hl 1 rfl) ?_
  exact W.lret (v := 0) hx hb hr (fun t ht hW => ⟨_, rfl, rfl, ht⟩) (fun _ h => by cases h) dX6_allCredits_26

set_option maxHeartbeats 4000000 in
set_option maxRecDepth 100000 in
theorem c_X2_total (l : Launch) (D : va_G) (c : Nat → ClassId) (ts : Nat × Nat) (sz : Nat) (h0 : Nat) (h1 : Nat) : Met l yX2_total wsX2_total ({ frames := 0, cells := 0, slots := 0, locals := 0 }) (va_Pc [.ref h0, .int 3] (Pre0 D c ts [(h0, .inr (2, [.int 7, .int 400, .ref h1, .int 0]))] sz)) (vp_Sl (fun r : Int64 => r = 0)) 0 0 (fun _ => False) := by
  refine Met.ofW (cc := cX2_total) (maxL := 5) (ret := (some .long)) (by decide) rfl ?_
  intro p e s m args below meth cd s₁ B hml hv
  obtain ⟨rfl, hsz, hP, hD0, hAm, hSt⟩ := hv
  have hx := B.exec
  have hb := B.bytes
  have hr := B.returns
  have hts := atoms_spec (ws := wsX2_total) B.pre
  have hown : s.vm.findClass RX2 = some m.cls := findClass_of_methodNamed B.named
  have hlocks := B.notSynchronized
  subst hsz
  have hK := hAm.1
  have hD := hD0.self (sz := s.heap.size)
  generalize hAe : va_A [(h0, .inr (2, [.int 7, .int 400, .ref h1, .int 0]))] s.heap.size = A at hD hSt
  have hA : ∀ q : Nat, s.heap.size ≤ q → A q := fun q h => by rw [← hAe]; exact Or.inr h
  have hS : va_S A s.heap s.heap [] := va_S.rf
  clear hD0 hAe
  have hl := lv_entry ([.ref h0, .int 3]) (n := 5) (Nat.le_of_ble_eq_true rfl)
  rw [lg_entry_eq]
  generalize (lg_sl ([.ref h0, .int 3]) ++ List.replicate (5 - (lg_sl ([.ref h0, .int 3])).length) Slot.unset).toArray = ls at hl ⊢
  have hl : lv_has ls 5 [(0, .ref h0), (1, .int 3)] := hl
  refine lv_lconst (v := 0) hx hb dX2_total_0 (by decide) ?_
  refine lv_lstore_n (lv' := [(2, .long 0), (0, .ref h0), (1, .int 3)]) hx hb dX2_total_1 rfl hl (by decide) rfl (fun ls hl => ?_)
  refine lv_iconst (v := 0) hx hb dX2_total_2 (by decide) ?_
  refine lv_istore (lv' := [(4, .int 0), (2, .long 0), (0, .ref h0), (1, .int 3)]) hx hb dX2_total_3 hl (by decide) rfl (fun ls hl => ?_)
  refine lv_iload hx hb dX2_total_5 (lv_at hl 0 rfl) ?_
  refine lv_aload_n hx hb dX2_total_7 rfl (lv_at hl 2 rfl) ?_
  refine va_get (D := D) (ci := 2) (v := .int 0) (C := RX2) (T := TX2) (N := 4) hx hb hts (fun _ h => List.mem_cons_of_mem _ (List.mem_append_right _ h)) hown hK hP 0 rfl rfl 3 (by decide) (hts (.fieldLink RX2 28 "CrownTable$Rows" "size" "I") (mem_i 1 rfl)) (fun _ h9 => h9) rfl dX2_total_8 ?_
  refine iicmp_geT (a := 0) (b := 0) (tgt := 31) hx hb (by decide) (by decide) dX2_total_11 (by decide) (by decide) ?_
  refine lv_lload_n hx hb dX2_total_31 rfl (lv_at hl 1 rfl) ?_
  exact W.lret (v := 0) hx hb hr (fun t ht hW => ⟨_, rfl, rfl, ht⟩) (fun _ h => by cases h) dX2_total_32

set_option maxHeartbeats 4000000 in
set_option maxRecDepth 100000 in
theorem c_X2_total_1 (l : Launch) (D : va_G) (c : Nat → ClassId) (ts : Nat × Nat) (sz : Nat) (h0 : Nat) (h1 : Nat) : Met l yX2_total wsX2_total ({ frames := 0, cells := 0, slots := 0, locals := 0 }) (va_Pc [.ref h0, .int 6] (Pre0 D c ts [(h0, .inr (2, [.int 7, .int 400, .ref h1, .int 0]))] sz)) (vp_Sl (fun r : Int64 => r = 0)) 0 0 (fun _ => False) := by
  refine Met.ofW (cc := cX2_total) (maxL := 5) (ret := (some .long)) (by decide) rfl ?_
  intro p e s m args below meth cd s₁ B hml hv
  obtain ⟨rfl, hsz, hP, hD0, hAm, hSt⟩ := hv
  have hx := B.exec
  have hb := B.bytes
  have hr := B.returns
  have hts := atoms_spec (ws := wsX2_total) B.pre
  have hown : s.vm.findClass RX2 = some m.cls := findClass_of_methodNamed B.named
  have hlocks := B.notSynchronized
  subst hsz
  have hK := hAm.1
  have hD := hD0.self (sz := s.heap.size)
  generalize hAe : va_A [(h0, .inr (2, [.int 7, .int 400, .ref h1, .int 0]))] s.heap.size = A at hD hSt
  have hA : ∀ q : Nat, s.heap.size ≤ q → A q := fun q h => by rw [← hAe]; exact Or.inr h
  have hS : va_S A s.heap s.heap [] := va_S.rf
  clear hD0 hAe
  have hl := lv_entry ([.ref h0, .int 6]) (n := 5) (Nat.le_of_ble_eq_true rfl)
  rw [lg_entry_eq]
  generalize (lg_sl ([.ref h0, .int 6]) ++ List.replicate (5 - (lg_sl ([.ref h0, .int 6])).length) Slot.unset).toArray = ls at hl ⊢
  have hl : lv_has ls 5 [(0, .ref h0), (1, .int 6)] := hl
  refine lv_lconst (v := 0) hx hb dX2_total_0 (by decide) ?_
  refine lv_lstore_n (lv' := [(2, .long 0), (0, .ref h0), (1, .int 6)]) hx hb dX2_total_1 rfl hl (by decide) rfl (fun ls hl => ?_)
  refine lv_iconst (v := 0) hx hb dX2_total_2 (by decide) ?_
  refine lv_istore (lv' := [(4, .int 0), (2, .long 0), (0, .ref h0), (1, .int 6)]) hx hb dX2_total_3 hl (by decide) rfl (fun ls hl => ?_)
  refine lv_iload hx hb dX2_total_5 (lv_at hl 0 rfl) ?_
  refine lv_aload_n hx hb dX2_total_7 rfl (lv_at hl 2 rfl) ?_
  refine va_get (D := D) (ci := 2) (v := .int 0) (C := RX2) (T := TX2) (N := 4) hx hb hts (fun _ h => List.mem_cons_of_mem _ (List.mem_append_right _ h)) hown hK hP 0 rfl rfl 3 (by decide) (hts (.fieldLink RX2 28 "CrownTable$Rows" "size" "I") (mem_i 1 rfl)) (fun _ h9 => h9) rfl dX2_total_8 ?_
  refine iicmp_geT (a := 0) (b := 0) (tgt := 31) hx hb (by decide) (by decide) dX2_total_11 (by decide) (by decide) ?_
  refine lv_lload_n hx hb dX2_total_31 rfl (lv_at hl 1 rfl) ?_
  exact W.lret (v := 0) hx hb hr (fun t ht hW => ⟨_, rfl, rfl, ht⟩) (fun _ h => by cases h) dX2_total_32

set_option maxHeartbeats 4000000 in
set_option maxRecDepth 100000 in
theorem c_X2_total_2 (l : Launch) (D : va_G) (c : Nat → ClassId) (ts : Nat × Nat) (sz : Nat) (h0 : Nat) (h1 : Nat) : Met l yX2_total wsX2_total ({ frames := 0, cells := 0, slots := 0, locals := 0 }) (va_Pc [.ref h0, .int 2] (Pre0 D c ts [(h0, .inr (2, [.int 7, .int 400, .ref h1, .int 0]))] sz)) (vp_Sl (fun r : Int64 => r = 0)) 0 0 (fun _ => False) := by
  refine Met.ofW (cc := cX2_total) (maxL := 5) (ret := (some .long)) (by decide) rfl ?_
  intro p e s m args below meth cd s₁ B hml hv
  obtain ⟨rfl, hsz, hP, hD0, hAm, hSt⟩ := hv
  have hx := B.exec
  have hb := B.bytes
  have hr := B.returns
  have hts := atoms_spec (ws := wsX2_total) B.pre
  have hown : s.vm.findClass RX2 = some m.cls := findClass_of_methodNamed B.named
  have hlocks := B.notSynchronized
  subst hsz
  have hK := hAm.1
  have hD := hD0.self (sz := s.heap.size)
  generalize hAe : va_A [(h0, .inr (2, [.int 7, .int 400, .ref h1, .int 0]))] s.heap.size = A at hD hSt
  have hA : ∀ q : Nat, s.heap.size ≤ q → A q := fun q h => by rw [← hAe]; exact Or.inr h
  have hS : va_S A s.heap s.heap [] := va_S.rf
  clear hD0 hAe
  have hl := lv_entry ([.ref h0, .int 2]) (n := 5) (Nat.le_of_ble_eq_true rfl)
  rw [lg_entry_eq]
  generalize (lg_sl ([.ref h0, .int 2]) ++ List.replicate (5 - (lg_sl ([.ref h0, .int 2])).length) Slot.unset).toArray = ls at hl ⊢
  have hl : lv_has ls 5 [(0, .ref h0), (1, .int 2)] := hl
  refine lv_lconst (v := 0) hx hb dX2_total_0 (by decide) ?_
  refine lv_lstore_n (lv' := [(2, .long 0), (0, .ref h0), (1, .int 2)]) hx hb dX2_total_1 rfl hl (by decide) rfl (fun ls hl => ?_)
  refine lv_iconst (v := 0) hx hb dX2_total_2 (by decide) ?_
  refine lv_istore (lv' := [(4, .int 0), (2, .long 0), (0, .ref h0), (1, .int 2)]) hx hb dX2_total_3 hl (by decide) rfl (fun ls hl => ?_)
  refine lv_iload hx hb dX2_total_5 (lv_at hl 0 rfl) ?_
  refine lv_aload_n hx hb dX2_total_7 rfl (lv_at hl 2 rfl) ?_
  refine va_get (D := D) (ci := 2) (v := .int 0) (C := RX2) (T := TX2) (N := 4) hx hb hts (fun _ h => List.mem_cons_of_mem _ (List.mem_append_right _ h)) hown hK hP 0 rfl rfl 3 (by decide) (hts (.fieldLink RX2 28 "CrownTable$Rows" "size" "I") (mem_i 1 rfl)) (fun _ h9 => h9) rfl dX2_total_8 ?_
  refine iicmp_geT (a := 0) (b := 0) (tgt := 31) hx hb (by decide) (by decide) dX2_total_11 (by decide) (by decide) ?_
  refine lv_lload_n hx hb dX2_total_31 rfl (lv_at hl 1 rfl) ?_
  exact W.lret (v := 0) hx hb hr (fun t ht hW => ⟨_, rfl, rfl, ht⟩) (fun _ h => by cases h) dX2_total_32

set_option maxHeartbeats 4000000 in
set_option maxRecDepth 100000 in
theorem c_X6_sum (l : Launch) (D : va_G) (c : Nat → ClassId) (ts : Nat × Nat) (sz : Nat) (q : Nat → Nat) (h0 : Nat) (a1 : Int32) (i_a1 : Int) (hi_a1 : a1.toInt = i_a1) : Met l yX6_sum wsX6_sum ({ frames := 1, cells := 0, slots := 0, locals := 24 }) (va_Pc [.ref h0, .int a1] (Pre0 D c ts [(h0, .inr (6, o6 q 0 0 0 0)), (q 14, .inl (c 2, 16, .inr (.inl (fun _ => 0)))), (q 19, .inr (2, [.int 7, .int 400, .ref (q 20), .int 0])), (q 25, .inr (0, [.ref (q 26)])), (q 26, .inl (c 1, 6, .inl (fun _ => 0)))] sz)) (vp_Sl (fun r : Int64 => ((0 ≤ i_a1 ∧ i_a1 ≤ 6) ∧ r = 0) ∨ ((¬ (0 ≤ i_a1 ∧ i_a1 ≤ 6)) ∧ r = (-1)))) 0 0 (fun _ => False) := by
  refine Met.ofW (cc := cX6_sum) (maxL := 2) (ret := (some .long)) (by decide) rfl ?_
  intro p e s m args below meth cd s₁ B hml hv
  obtain ⟨rfl, hsz, hP, hD0, hAm, hSt⟩ := hv
  have hx := B.exec
  have hb := B.bytes
  have hr := B.returns
  have hts := atoms_spec (ws := wsX6_sum) B.pre
  have hown : s.vm.findClass RX6 = some m.cls := findClass_of_methodNamed B.named
  have hlocks := B.notSynchronized
  subst hsz
  have hK := hAm.1
  have hD := hD0.self (sz := s.heap.size)
  generalize hAe : va_A [(h0, .inr (6, o6 q 0 0 0 0)), (q 14, .inl (c 2, 16, .inr (.inl (fun _ => 0)))), (q 19, .inr (2, [.int 7, .int 400, .ref (q 20), .int 0])), (q 25, .inr (0, [.ref (q 26)])), (q 26, .inl (c 1, 6, .inl (fun _ => 0)))] s.heap.size = A at hD hSt
  have hA : ∀ q : Nat, s.heap.size ≤ q → A q := fun q h => by rw [← hAe]; exact Or.inr h
  have hS : va_S A s.heap s.heap [] := va_S.rf
  clear hD0 hAe
  have hl := lv_entry ([.ref h0, .int a1]) (n := 2) (Nat.le_of_ble_eq_true rfl)
  rw [lg_entry_eq]
  generalize (lg_sl ([.ref h0, .int a1]) ++ List.replicate (2 - (lg_sl ([.ref h0, .int a1])).length) Slot.unset).toArray = ls at hl ⊢
  have hl : lv_has ls 2 [(0, .ref h0), (1, .int a1)] := hl
  refine lv_iload_n hx hb dX6_sum_0 rfl (lv_at hl 1 rfl) ?_
  by_cases k_1 : i_a1 = 0
  · have ek_1 : a1.toInt = 0 := hi_a1.trans k_1
    refine lv_tableIn (tgt := 44) hx hb dX6_sum_1 (by rw [ek_1]; decide) (by rw [ek_1]; decide) (by rw [ek_1]; rfl) (by decide) ?_
    refine lv_aload_n hx hb dX6_sum_44 rfl (lv_at hl 0 rfl) ?_
    refine va_get (D := D) (ci := 6) (v := .ref (q 25)) (C := RX6) (T := TX6) (N := 18) hx hb hts (fun _ h => List.mem_cons_of_mem _ (List.mem_append_left _ (List.mem_append_left _ (List.mem_append_right _ h)))) hown hK hP 0 rfl rfl 14 (by decide) (hts (.fieldLink RX6 77 "CrownTable" "table" "LCrownTable$Cloth;") (mem_i 1 rfl)) (fun _ h9 => h9) rfl dX6_sum_45 ?_
    have hPc := hP.sub (ws' := [(q 25, .inr (0, [.ref (q 26)])), (q 26, .inl (c 1, 6, .inl (fun _ => 0)))]) [3, 4] rfl
    have hDc := hD.sub (ws' := [(q 25, .inr (0, [.ref (q 26)])), (q 26, .inl (c 1, 6, .inl (fun _ => 0)))]) [3, 4] (by decide) rfl
    have hFc := va_free (wc := [(q 25, .inr (0, [.ref (q 26)])), (q 26, .inl (c 1, 6, .inl (fun _ => 0)))]) hD hS hA [3, 4] rfl
    refine va_csl (va_runVN (As := []) (rest := []) ⟨hx, hb, hml, hown, hts⟩ (c_X0_lies l D c ts s.heap.size (q 25) (q 26)) ⟨va_cnB 0 hts gX6_sum_X0_lies_n242 rfl rfl rfl (show va_Nw (.methodLinkNest RX6 242 yX0_lies RX6) _ from hAm.2.1.1 (RX6, 242, yX0_lies, RX6) (mem_i 24 rfl)) (hts (.initialized RX0) (mem_i 7 rfl)) hdX0_lies ⟨(show 0 + 1 ≤ 1 by decide), (show 8 + (4 + 11) + 0 ≤ 24 by decide)⟩, (hts (.instanceMethod yX0_lies) (mem_i 6 rfl)), (hts (.selects RX0 yX0_lies yX0_lies) (mem_i 8 rfl))⟩ ⟨Pre0.blind, va_recv hK hPc (ci := 0) (q0 := 0) rfl rfl, Pre0.at hPc hDc hAm hSt hS hFc⟩ rfl rfl hl.1 rfl (lv_room (Nat.le_of_ble_eq_true rfl)) dX6_sum_48 ⟨(show 0 + 0 ≤ 0 by decide), (show 0 + 0 ≤ 0 by decide)⟩) (fun r_3 hw_2 => ?_)
    refine lk_l (y := 0) hw_2 ?_
    exact W.lret (v := 0) hx hb hr (fun t ht hW => ⟨_, rfl, Or.inl ⟨by omega, rfl⟩, ht⟩) (fun _ h => by cases h) dX6_sum_51
  by_cases k_4 : i_a1 = 1
  · have ek_4 : a1.toInt = 1 := hi_a1.trans k_4
    refine lv_tableIn (tgt := 52) hx hb dX6_sum_1 (by rw [ek_4]; decide) (by rw [ek_4]; decide) (by rw [ek_4]; rfl) (by decide) ?_
    refine lv_aload_n hx hb dX6_sum_52 rfl (lv_at hl 0 rfl) ?_
    refine va_get (D := D) (ci := 6) (v := .long 0) (C := RX6) (T := TX6) (N := 18) hx hb hts (fun _ h => List.mem_cons_of_mem _ (List.mem_append_left _ (List.mem_append_left _ (List.mem_append_right _ h)))) hown hK hP 0 rfl rfl 16 (by decide) (hts (.fieldLink RX6 233 "CrownTable" "chest" "J") (mem_i 2 rfl)) (fun _ h9 => h9) rfl dX6_sum_53 ?_
    exact W.lret (v := 0) hx hb hr (fun t ht hW => ⟨_, rfl, Or.inl ⟨by omega, rfl⟩, ht⟩) (fun _ h => by cases h) dX6_sum_56
  by_cases k_5 : i_a1 = 2
  · have ek_5 : a1.toInt = 2 := hi_a1.trans k_5
    refine lv_tableIn (tgt := 57) hx hb dX6_sum_1 (by rw [ek_5]; decide) (by rw [ek_5]; decide) (by rw [ek_5]; rfl) (by decide) ?_
    refine lv_aload_n hx hb dX6_sum_57 rfl (lv_at hl 0 rfl) ?_
    have hPc := hP.sub (ws' := [(h0, .inr (6, o6 q 0 0 0 0)), (q 14, .inl (c 2, 16, .inr (.inl (fun _ => 0))))]) [0, 1] rfl
    have hDc := hD.sub (ws' := [(h0, .inr (6, o6 q 0 0 0 0)), (q 14, .inl (c 2, 16, .inr (.inl (fun _ => 0))))]) [0, 1] (by decide) rfl
    have hFc := va_free (wc := [(h0, .inr (6, o6 q 0 0 0 0)), (q 14, .inl (c 2, 16, .inr (.inl (fun _ => 0))))]) hD hS hA [0, 1] rfl
    refine va_csl (va_runV (As := []) (rest := []) ⟨hx, hb, hml, hown, hts⟩ (c_X6_allCredits l D c ts s.heap.size q h0) (cwV 0 hts gX6_sum_X6_allCredits rfl rfl rfl ⟨rfl, hdX6_allCredits⟩ ⟨(show 0 + 1 ≤ 1 by decide), (show 8 + (4 + 11) + 0 ≤ 24 by decide)⟩) ⟨Pre0.blind, va_recv hK hPc (ci := 6) (q0 := 0) rfl rfl, Pre0.at hPc hDc hAm hSt hS hFc⟩ rfl rfl hl.1 rfl (lv_room (Nat.le_of_ble_eq_true rfl)) dX6_sum_58 ⟨(show 0 + 0 ≤ 0 by decide), (show 0 + 0 ≤ 0 by decide)⟩) (fun r_7 hw_6 => ?_)
    refine lk_l (y := 0) hw_6 ?_
    exact W.lret (v := 0) hx hb hr (fun t ht hW => ⟨_, rfl, Or.inl ⟨by omega, rfl⟩, ht⟩) (fun _ h => by cases h) dX6_sum_61
  by_cases k_8 : i_a1 = 3
  · have ek_8 : a1.toInt = 3 := hi_a1.trans k_8
    refine lv_tableIn (tgt := 62) hx hb dX6_sum_1 (by rw [ek_8]; decide) (by rw [ek_8]; decide) (by rw [ek_8]; rfl) (by decide) ?_
    refine lv_aload_n hx hb dX6_sum_62 rfl (lv_at hl 0 rfl) ?_
    refine va_get (D := D) (ci := 6) (v := .ref (q 19)) (C := RX6) (T := TX6) (N := 18) hx hb hts (fun _ h => List.mem_cons_of_mem _ (List.mem_append_left _ (List.mem_append_left _ (List.mem_append_right _ h)))) hown hK hP 0 rfl rfl 11 (by decide) (hts (.fieldLink RX6 65 "CrownTable" "debts" "LCrownTable$Rows;") (mem_i 3 rfl)) (fun _ h9 => h9) rfl dX6_sum_63 ?_
    refine lv_iconst (v := 3) hx hb dX6_sum_66 (by decide) ?_
    have hPc := hP.sub (ws' := [(q 19, .inr (2, [.int 7, .int 400, .ref (q 20), .int 0]))]) [2] rfl
    have hDc := hD.sub (ws' := [(q 19, .inr (2, [.int 7, .int 400, .ref (q 20), .int 0]))]) [2] (by decide) rfl
    have hFc := va_free (wc := [(q 19, .inr (2, [.int 7, .int 400, .ref (q 20), .int 0]))]) hD hS hA [2] rfl
    refine va_csl (va_runVN (As := [.int 3]) (rest := []) ⟨hx, hb, hml, hown, hts⟩ (c_X2_total l D c ts s.heap.size (q 19) (q 20)) ⟨va_cnB 1 hts gX6_sum_X2_total_n255 rfl rfl rfl (show va_Nw (.methodLinkNest RX6 255 yX2_total RX6) _ from hAm.2.1.1 (RX6, 255, yX2_total, RX6) (mem_i 26 rfl)) (hts (.initialized RX2) (mem_i 19 rfl)) hdX2_total ⟨(show 0 + 1 ≤ 1 by decide), (show 8 + (5 + 11) + 0 ≤ 24 by decide)⟩, (hts (.instanceMethod yX2_total) (mem_i 18 rfl)), (hts (.selects RX2 yX2_total yX2_total) (mem_i 20 rfl))⟩ ⟨Pre0.blind, va_recv hK hPc (ci := 2) (q0 := 0) rfl rfl, Pre0.at hPc hDc hAm hSt hS hFc⟩ rfl rfl hl.1 rfl (lv_room (Nat.le_of_ble_eq_true rfl)) dX6_sum_67 ⟨(show 0 + 0 ≤ 0 by decide), (show 0 + 0 ≤ 0 by decide)⟩) (fun r_10 hw_9 => ?_)
    refine lk_l (y := 0) hw_9 ?_
    exact W.lret (v := 0) hx hb hr (fun t ht hW => ⟨_, rfl, Or.inl ⟨by omega, rfl⟩, ht⟩) (fun _ h => by cases h) dX6_sum_70
  by_cases k_11 : i_a1 = 4
  · have ek_11 : a1.toInt = 4 := hi_a1.trans k_11
    refine lv_tableIn (tgt := 71) hx hb dX6_sum_1 (by rw [ek_11]; decide) (by rw [ek_11]; decide) (by rw [ek_11]; rfl) (by decide) ?_
    refine lv_aload_n hx hb dX6_sum_71 rfl (lv_at hl 0 rfl) ?_
    refine va_get (D := D) (ci := 6) (v := .ref (q 19)) (C := RX6) (T := TX6) (N := 18) hx hb hts (fun _ h => List.mem_cons_of_mem _ (List.mem_append_left _ (List.mem_append_left _ (List.mem_append_right _ h)))) hown hK hP 0 rfl rfl 11 (by decide) (hts (.fieldLink RX6 65 "CrownTable" "debts" "LCrownTable$Rows;") (mem_i 3 rfl)) (fun _ h9 => h9) rfl dX6_sum_72 ?_
    refine lv_bipush (v := 6) hx hb dX6_sum_75 (by decide) ?_
    have hPc := hP.sub (ws' := [(q 19, .inr (2, [.int 7, .int 400, .ref (q 20), .int 0]))]) [2] rfl
    have hDc := hD.sub (ws' := [(q 19, .inr (2, [.int 7, .int 400, .ref (q 20), .int 0]))]) [2] (by decide) rfl
    have hFc := va_free (wc := [(q 19, .inr (2, [.int 7, .int 400, .ref (q 20), .int 0]))]) hD hS hA [2] rfl
    refine va_csl (va_runVN (As := [.int 6]) (rest := []) ⟨hx, hb, hml, hown, hts⟩ (c_X2_total_1 l D c ts s.heap.size (q 19) (q 20)) ⟨va_cnB 1 hts gX6_sum_X2_total_n255 rfl rfl rfl (show va_Nw (.methodLinkNest RX6 255 yX2_total RX6) _ from hAm.2.1.1 (RX6, 255, yX2_total, RX6) (mem_i 26 rfl)) (hts (.initialized RX2) (mem_i 19 rfl)) hdX2_total ⟨(show 0 + 1 ≤ 1 by decide), (show 8 + (5 + 11) + 0 ≤ 24 by decide)⟩, (hts (.instanceMethod yX2_total) (mem_i 18 rfl)), (hts (.selects RX2 yX2_total yX2_total) (mem_i 20 rfl))⟩ ⟨Pre0.blind, va_recv hK hPc (ci := 2) (q0 := 0) rfl rfl, Pre0.at hPc hDc hAm hSt hS hFc⟩ rfl rfl hl.1 rfl (lv_room (Nat.le_of_ble_eq_true rfl)) dX6_sum_77 ⟨(show 0 + 0 ≤ 0 by decide), (show 0 + 0 ≤ 0 by decide)⟩) (fun r_13 hw_12 => ?_)
    refine lk_l (y := 0) hw_12 ?_
    exact W.lret (v := 0) hx hb hr (fun t ht hW => ⟨_, rfl, Or.inl ⟨by omega, rfl⟩, ht⟩) (fun _ h => by cases h) dX6_sum_80
  by_cases k_14 : i_a1 = 5
  · have ek_14 : a1.toInt = 5 := hi_a1.trans k_14
    refine lv_tableIn (tgt := 81) hx hb dX6_sum_1 (by rw [ek_14]; decide) (by rw [ek_14]; decide) (by rw [ek_14]; rfl) (by decide) ?_
    refine lv_aload_n hx hb dX6_sum_81 rfl (lv_at hl 0 rfl) ?_
    refine va_get (D := D) (ci := 6) (v := .ref (q 19)) (C := RX6) (T := TX6) (N := 18) hx hb hts (fun _ h => List.mem_cons_of_mem _ (List.mem_append_left _ (List.mem_append_left _ (List.mem_append_right _ h)))) hown hK hP 0 rfl rfl 11 (by decide) (hts (.fieldLink RX6 65 "CrownTable" "debts" "LCrownTable$Rows;") (mem_i 3 rfl)) (fun _ h9 => h9) rfl dX6_sum_82 ?_
    refine lv_iconst (v := 2) hx hb dX6_sum_85 (by decide) ?_
    have hPc := hP.sub (ws' := [(q 19, .inr (2, [.int 7, .int 400, .ref (q 20), .int 0]))]) [2] rfl
    have hDc := hD.sub (ws' := [(q 19, .inr (2, [.int 7, .int 400, .ref (q 20), .int 0]))]) [2] (by decide) rfl
    have hFc := va_free (wc := [(q 19, .inr (2, [.int 7, .int 400, .ref (q 20), .int 0]))]) hD hS hA [2] rfl
    refine va_csl (va_runVN (As := [.int 2]) (rest := []) ⟨hx, hb, hml, hown, hts⟩ (c_X2_total_2 l D c ts s.heap.size (q 19) (q 20)) ⟨va_cnB 1 hts gX6_sum_X2_total_n255 rfl rfl rfl (show va_Nw (.methodLinkNest RX6 255 yX2_total RX6) _ from hAm.2.1.1 (RX6, 255, yX2_total, RX6) (mem_i 26 rfl)) (hts (.initialized RX2) (mem_i 19 rfl)) hdX2_total ⟨(show 0 + 1 ≤ 1 by decide), (show 8 + (5 + 11) + 0 ≤ 24 by decide)⟩, (hts (.instanceMethod yX2_total) (mem_i 18 rfl)), (hts (.selects RX2 yX2_total yX2_total) (mem_i 20 rfl))⟩ ⟨Pre0.blind, va_recv hK hPc (ci := 2) (q0 := 0) rfl rfl, Pre0.at hPc hDc hAm hSt hS hFc⟩ rfl rfl hl.1 rfl (lv_room (Nat.le_of_ble_eq_true rfl)) dX6_sum_86 ⟨(show 0 + 0 ≤ 0 by decide), (show 0 + 0 ≤ 0 by decide)⟩) (fun r_16 hw_15 => ?_)
    refine lk_l (y := 0) hw_15 ?_
    exact W.lret (v := 0) hx hb hr (fun t ht hW => ⟨_, rfl, Or.inl ⟨by omega, rfl⟩, ht⟩) (fun _ h => by cases h) dX6_sum_89
  by_cases k_17 : i_a1 = 6
  · have ek_17 : a1.toInt = 6 := hi_a1.trans k_17
    refine lv_tableIn (tgt := 90) hx hb dX6_sum_1 (by rw [ek_17]; decide) (by rw [ek_17]; decide) (by rw [ek_17]; rfl) (by decide) ?_
    refine lv_aload_n hx hb dX6_sum_90 rfl (lv_at hl 0 rfl) ?_
    refine va_get (D := D) (ci := 6) (v := .long 0) (C := RX6) (T := TX6) (N := 18) hx hb hts (fun _ h => List.mem_cons_of_mem _ (List.mem_append_left _ (List.mem_append_left _ (List.mem_append_right _ h)))) hown hK hP 0 rfl rfl 17 (by decide) (hts (.fieldLink RX6 187 "CrownTable" "brought" "J") (mem_i 4 rfl)) (fun _ h9 => h9) rfl dX6_sum_91 ?_
    exact W.lret (v := 0) hx hb hr (fun t ht hW => ⟨_, rfl, Or.inl ⟨by omega, rfl⟩, ht⟩) (fun _ h => by cases h) dX6_sum_94
  refine lv_tableOut (tgt := 95) hx hb dX6_sum_1 (by rw [hi_a1]; omega) (by decide) ?_
  refine lv_ldc2 (v := (-1)) hx hb hown (hts (.constantLong RX6 205 (-1)) (mem_i 5 rfl)) dX6_sum_95 ?_
  exact W.lret (v := (-1)) hx hb hr (fun t ht hW => ⟨_, rfl, Or.inr (⟨by omega, rfl⟩), ht⟩) (fun _ h => by cases h) dX6_sum_98

set_option maxHeartbeats 4000000 in
set_option maxRecDepth 100000 in
theorem c_X7_sum (l : Launch) (D : va_G) (c : Nat → ClassId) (ts : Nat × Nat) (sz : Nat) (q : Nat → Nat) (h0 : Nat) (a1 : Int32) (i_a1 : Int) (hi_a1 : a1.toInt = i_a1) : Met l yX7_sum wsX7_sum ({ frames := 2, cells := 0, slots := 0, locals := 43 }) (va_Pc [.ref h0, .int a1] (Pre0 D c ts [(h0, .inr (7, o7 q v0 w0)), (q 35, .inl (c 2, 16, .inr (.inl (fun _ => 0)))), (q 55, .inl (c 1, 6, .inl (fun _ => 0)))] sz)) (vp_Sl (fun r : Int64 => ((0 ≤ i_a1 ∧ i_a1 ≤ 6) ∧ r = 0) ∨ ((¬ (0 ≤ i_a1 ∧ i_a1 ≤ 6)) ∧ r = (-1)))) 0 0 (fun _ => False) := by
  refine Met.ofW (cc := cX7_sum) (maxL := 5) (ret := (some .long)) (by decide) rfl ?_
  intro p e s m args below meth cd s₁ B hml hv
  obtain ⟨rfl, hsz, hP, hD0, hAm, hSt⟩ := hv
  have hx := B.exec
  have hb := B.bytes
  have hr := B.returns
  have hts := atoms_spec (ws := wsX7_sum) B.pre
  have hown : s.vm.findClass RX7 = some m.cls := findClass_of_methodNamed B.named
  have hlocks := B.notSynchronized
  subst hsz
  have hK := hAm.1
  have hD := hD0.self (sz := s.heap.size)
  generalize hAe : va_A [(h0, .inr (7, o7 q v0 w0)), (q 35, .inl (c 2, 16, .inr (.inl (fun _ => 0)))), (q 55, .inl (c 1, 6, .inl (fun _ => 0)))] s.heap.size = A at hD hSt
  have hA : ∀ q : Nat, s.heap.size ≤ q → A q := fun q h => by rw [← hAe]; exact Or.inr h
  have hS : va_S A s.heap s.heap [] := va_S.rf
  clear hD0 hAe
  have hl := lv_entry ([.ref h0, .int a1]) (n := 5) (Nat.le_of_ble_eq_true rfl)
  rw [lg_entry_eq]
  generalize (lg_sl ([.ref h0, .int a1]) ++ List.replicate (5 - (lg_sl ([.ref h0, .int a1])).length) Slot.unset).toArray = ls at hl ⊢
  have hl : lv_has ls 5 [(0, .ref h0), (1, .int a1)] := hl
  refine lv_lconst (v := 0) hx hb dX7_sum_0 (by decide) ?_
  refine lv_lstore_n (lv' := [(2, .long 0), (0, .ref h0), (1, .int a1)]) hx hb dX7_sum_1 rfl hl (by decide) rfl (fun ls hl => ?_)
  refine lv_iload_n hx hb dX7_sum_2 rfl (lv_at hl 2 rfl) ?_
  by_cases k_1 : i_a1 = 0
  · have ek_1 : a1.toInt = 0 := hi_a1.trans k_1
    refine lv_tableIn (tgt := 44) hx hb dX7_sum_3 (by rw [ek_1]; decide) (by rw [ek_1]; decide) (by rw [ek_1]; rfl) (by decide) ?_
    refine lv_aload_n hx hb dX7_sum_44 rfl (lv_at hl 1 rfl) ?_
    have hPc := hP.sub (ws' := [(h0, .inr (7, o7 q v0 w0)), (q 55, .inl (c 1, 6, .inl (fun _ => 0)))]) [0, 2] rfl
    have hDc := hD.sub (ws' := [(h0, .inr (7, o7 q v0 w0)), (q 55, .inl (c 1, 6, .inl (fun _ => 0)))]) [0, 2] (by decide) rfl
    have hFc := va_free (wc := [(h0, .inr (7, o7 q v0 w0)), (q 55, .inl (c 1, 6, .inl (fun _ => 0)))]) hD hS hA [0, 2] rfl
    refine va_csl (va_runV (As := []) (rest := []) ⟨hx, hb, hml, hown, hts⟩ (c_X7_lies l D c ts s.heap.size q h0) (cwV 0 hts gX7_sum_X7_lies rfl rfl rfl ⟨rfl, hdX7_lies⟩ ⟨(show 1 + 1 ≤ 2 by decide), (show 8 + (4 + 11) + 20 ≤ 43 by decide)⟩) ⟨Pre0.blind, va_recv hK hPc (ci := 7) (q0 := 0) rfl rfl, Pre0.at hPc hDc hAm hSt hS hFc⟩ rfl rfl hl.1 rfl (lv_room (Nat.le_of_ble_eq_true rfl)) dX7_sum_45 ⟨(show 0 + 0 ≤ 0 by decide), (show 0 + 0 ≤ 0 by decide)⟩) (fun r_3 hw_2 => ?_)
    refine lk_l (y := 0) hw_2 ?_
    exact W.lret (v := 0) hx hb hr (fun t ht hW => ⟨_, rfl, Or.inl ⟨by omega, rfl⟩, ht⟩) (fun _ h => by cases h) dX7_sum_48
  by_cases k_4 : i_a1 = 1
  · have ek_4 : a1.toInt = 1 := hi_a1.trans k_4
    refine lv_tableIn (tgt := 49) hx hb dX7_sum_3 (by rw [ek_4]; decide) (by rw [ek_4]; decide) (by rw [ek_4]; rfl) (by decide) ?_
    refine lv_aload_n hx hb dX7_sum_49 rfl (lv_at hl 1 rfl) ?_
    refine va_get (D := D) (ci := 7) (v := .long 0) (C := RX7) (T := TX7) (N := 56) hx hb hts (fun _ h => List.mem_cons_of_mem _ (List.mem_append_right _ h)) hown hK hP 0 rfl rfl 38 (by decide) (hts (.fieldLink RX7 335 "CrownTableModel" "chest" "J") (mem_i 1 rfl)) (fun _ h9 => h9) rfl dX7_sum_50 ?_
    exact W.lret (v := 0) hx hb hr (fun t ht hW => ⟨_, rfl, Or.inl ⟨by omega, rfl⟩, ht⟩) (fun _ h => by cases h) dX7_sum_53
  by_cases k_5 : i_a1 = 2
  · have ek_5 : a1.toInt = 2 := hi_a1.trans k_5
    refine lv_tableIn (tgt := 54) hx hb dX7_sum_3 (by rw [ek_5]; decide) (by rw [ek_5]; decide) (by rw [ek_5]; rfl) (by decide) ?_
    refine lv_iconst (v := 0) hx hb dX7_sum_54 (by decide) ?_
    refine lv_istore (lv' := [(4, .int 0), (2, .long 0), (0, .ref h0), (1, .int a1)]) hx hb dX7_sum_55 hl (by decide) rfl (fun ls hl => ?_)
    refine lv_iload hx hb dX7_sum_57 (lv_at hl 0 rfl) ?_
    refine lv_bipush (v := 16) hx hb dX7_sum_59 (by decide) ?_
    refine iicmp_geF (a := 0) (b := 16) (tgt := 80) hx hb (by decide) (by decide) dX7_sum_61 (by decide) (by decide) ?_
    refine lv_lload_n hx hb dX7_sum_64 rfl (lv_at hl 1 rfl) ?_
    refine lv_aload_n hx hb dX7_sum_65 rfl (lv_at hl 2 rfl) ?_
    refine va_get (D := D) (ci := 7) (v := .ref (q 35)) (C := RX7) (T := TX7) (N := 56) hx hb hts (fun _ h => List.mem_cons_of_mem _ (List.mem_append_right _ h)) hown hK hP 0 rfl rfl 35 (by decide) (hts (.fieldLink RX7 71 "CrownTableModel" "credit" "[J") (mem_i 2 rfl)) (fun _ h9 => h9) rfl dX7_sum_66 ?_
    refine lv_iload hx hb dX7_sum_69 (lv_at hl 0 rfl) ?_
    refine va_lald hx hb hK hP 1 2 rfl rfl (vin (a := 0) (by decide) (by decide) (by decide)) dX7_sum_71 ?_
    refine lk_l (y := 0) rfl ?_
    refine lv_ladd hx hb dX7_sum_72 ?_
    refine lk_l (y := 0) (by decide) ?_
    refine lv_lstore_n (lv' := [(2, .long 0), (4, .int 0), (0, .ref h0), (1, .int a1)]) hx hb dX7_sum_73 rfl hl (by decide) rfl (fun ls hl => ?_)
    refine lv_iinc (v := 1) (lv' := [(4, .int 1), (2, .long 0), (0, .ref h0), (1, .int a1)]) hx hb dX7_sum_74 hl (k := 1) rfl (by decide) (by decide) rfl (fun ls hl => ?_)
    refine lv_goto (tgt := 57) hx hb dX7_sum_77 (by decide) ?_
    refine lv_iload hx hb dX7_sum_57 (lv_at hl 0 rfl) ?_
    refine lv_bipush (v := 16) hx hb dX7_sum_59 (by decide) ?_
    refine iicmp_geF (a := 1) (b := 16) (tgt := 80) hx hb (by decide) (by decide) dX7_sum_61 (by decide) (by decide) ?_
    refine lv_lload_n hx hb dX7_sum_64 rfl (lv_at hl 1 rfl) ?_
    refine lv_aload_n hx hb dX7_sum_65 rfl (lv_at hl 2 rfl) ?_
    refine va_get (D := D) (ci := 7) (v := .ref (q 35)) (C := RX7) (T := TX7) (N := 56) hx hb hts (fun _ h => List.mem_cons_of_mem _ (List.mem_append_right _ h)) hown hK hP 0 rfl rfl 35 (by decide) (hts (.fieldLink RX7 71 "CrownTableModel" "credit" "[J") (mem_i 2 rfl)) (fun _ h9 => h9) rfl dX7_sum_66 ?_
    refine lv_iload hx hb dX7_sum_69 (lv_at hl 0 rfl) ?_
    refine va_lald hx hb hK hP 1 2 rfl rfl (vin (a := 1) (by decide) (by decide) (by decide)) dX7_sum_71 ?_
    refine lk_l (y := 0) rfl ?_
    refine lv_ladd hx hb dX7_sum_72 ?_
    refine lk_l (y := 0) (by decide) ?_
    refine lv_lstore_n (lv' := [(2, .long 0), (4, .int 1), (0, .ref h0), (1, .int a1)]) hx hb dX7_sum_73 rfl hl (by decide) rfl (fun ls hl => ?_)
    refine lv_iinc (v := 2) (lv' := [(4, .int 2), (2, .long 0), (0, .ref h0), (1, .int a1)]) hx hb dX7_sum_74 hl (k := 1) rfl (by decide) (by decide) rfl (fun ls hl => ?_)
    refine lv_goto (tgt := 57) hx hb dX7_sum_77 (by decide) ?_
    refine lv_iload hx hb dX7_sum_57 (lv_at hl 0 rfl) ?_
    refine lv_bipush (v := 16) hx hb dX7_sum_59 (by decide) ?_
    refine iicmp_geF (a := 2) (b := 16) (tgt := 80) hx hb (by decide) (by decide) dX7_sum_61 (by decide) (by decide) ?_
    refine lv_lload_n hx hb dX7_sum_64 rfl (lv_at hl 1 rfl) ?_
    refine lv_aload_n hx hb dX7_sum_65 rfl (lv_at hl 2 rfl) ?_
    refine va_get (D := D) (ci := 7) (v := .ref (q 35)) (C := RX7) (T := TX7) (N := 56) hx hb hts (fun _ h => List.mem_cons_of_mem _ (List.mem_append_right _ h)) hown hK hP 0 rfl rfl 35 (by decide) (hts (.fieldLink RX7 71 "CrownTableModel" "credit" "[J") (mem_i 2 rfl)) (fun _ h9 => h9) rfl dX7_sum_66 ?_
    refine lv_iload hx hb dX7_sum_69 (lv_at hl 0 rfl) ?_
    refine va_lald hx hb hK hP 1 2 rfl rfl (vin (a := 2) (by decide) (by decide) (by decide)) dX7_sum_71 ?_
    refine lk_l (y := 0) rfl ?_
    refine lv_ladd hx hb dX7_sum_72 ?_
    refine lk_l (y := 0) (by decide) ?_
    refine lv_lstore_n (lv' := [(2, .long 0), (4, .int 2), (0, .ref h0), (1, .int a1)]) hx hb dX7_sum_73 rfl hl (by decide) rfl (fun ls hl => ?_)
    refine lv_iinc (v := 3) (lv' := [(4, .int 3), (2, .long 0), (0, .ref h0), (1, .int a1)]) hx hb dX7_sum_74 hl (k := 1) rfl (by decide) (by decide) rfl (fun ls hl => ?_)
    refine lv_goto (tgt := 57) hx hb dX7_sum_77 (by decide) ?_
    refine lv_iload hx hb dX7_sum_57 (lv_at hl 0 rfl) ?_
    refine lv_bipush (v := 16) hx hb dX7_sum_59 (by decide) ?_
    refine iicmp_geF (a := 3) (b := 16) (tgt := 80) hx hb (by decide) (by decide) dX7_sum_61 (by decide) (by decide) ?_
    refine lv_lload_n hx hb dX7_sum_64 rfl (lv_at hl 1 rfl) ?_
    refine lv_aload_n hx hb dX7_sum_65 rfl (lv_at hl 2 rfl) ?_
    refine va_get (D := D) (ci := 7) (v := .ref (q 35)) (C := RX7) (T := TX7) (N := 56) hx hb hts (fun _ h => List.mem_cons_of_mem _ (List.mem_append_right _ h)) hown hK hP 0 rfl rfl 35 (by decide) (hts (.fieldLink RX7 71 "CrownTableModel" "credit" "[J") (mem_i 2 rfl)) (fun _ h9 => h9) rfl dX7_sum_66 ?_
    refine lv_iload hx hb dX7_sum_69 (lv_at hl 0 rfl) ?_
    refine va_lald hx hb hK hP 1 2 rfl rfl (vin (a := 3) (by decide) (by decide) (by decide)) dX7_sum_71 ?_
    refine lk_l (y := 0) rfl ?_
    refine lv_ladd hx hb dX7_sum_72 ?_
    refine lk_l (y := 0) (by decide) ?_
    refine lv_lstore_n (lv' := [(2, .long 0), (4, .int 3), (0, .ref h0), (1, .int a1)]) hx hb dX7_sum_73 rfl hl (by decide) rfl (fun ls hl => ?_)
    refine lv_iinc (v := 4) (lv' := [(4, .int 4), (2, .long 0), (0, .ref h0), (1, .int a1)]) hx hb dX7_sum_74 hl (k := 1) rfl (by decide) (by decide) rfl (fun ls hl => ?_)
    refine lv_goto (tgt := 57) hx hb dX7_sum_77 (by decide) ?_
    refine lv_iload hx hb dX7_sum_57 (lv_at hl 0 rfl) ?_
    refine lv_bipush (v := 16) hx hb dX7_sum_59 (by decide) ?_
    refine iicmp_geF (a := 4) (b := 16) (tgt := 80) hx hb (by decide) (by decide) dX7_sum_61 (by decide) (by decide) ?_
    refine lv_lload_n hx hb dX7_sum_64 rfl (lv_at hl 1 rfl) ?_
    refine lv_aload_n hx hb dX7_sum_65 rfl (lv_at hl 2 rfl) ?_
    refine va_get (D := D) (ci := 7) (v := .ref (q 35)) (C := RX7) (T := TX7) (N := 56) hx hb hts (fun _ h => List.mem_cons_of_mem _ (List.mem_append_right _ h)) hown hK hP 0 rfl rfl 35 (by decide) (hts (.fieldLink RX7 71 "CrownTableModel" "credit" "[J") (mem_i 2 rfl)) (fun _ h9 => h9) rfl dX7_sum_66 ?_
    refine lv_iload hx hb dX7_sum_69 (lv_at hl 0 rfl) ?_
    refine va_lald hx hb hK hP 1 2 rfl rfl (vin (a := 4) (by decide) (by decide) (by decide)) dX7_sum_71 ?_
    refine lk_l (y := 0) rfl ?_
    refine lv_ladd hx hb dX7_sum_72 ?_
    refine lk_l (y := 0) (by decide) ?_
    refine lv_lstore_n (lv' := [(2, .long 0), (4, .int 4), (0, .ref h0), (1, .int a1)]) hx hb dX7_sum_73 rfl hl (by decide) rfl (fun ls hl => ?_)
    refine lv_iinc (v := 5) (lv' := [(4, .int 5), (2, .long 0), (0, .ref h0), (1, .int a1)]) hx hb dX7_sum_74 hl (k := 1) rfl (by decide) (by decide) rfl (fun ls hl => ?_)
    refine lv_goto (tgt := 57) hx hb dX7_sum_77 (by decide) ?_
    refine lv_iload hx hb dX7_sum_57 (lv_at hl 0 rfl) ?_
    refine lv_bipush (v := 16) hx hb dX7_sum_59 (by decide) ?_
    refine iicmp_geF (a := 5) (b := 16) (tgt := 80) hx hb (by decide) (by decide) dX7_sum_61 (by decide) (by decide) ?_
    refine lv_lload_n hx hb dX7_sum_64 rfl (lv_at hl 1 rfl) ?_
    refine lv_aload_n hx hb dX7_sum_65 rfl (lv_at hl 2 rfl) ?_
    refine va_get (D := D) (ci := 7) (v := .ref (q 35)) (C := RX7) (T := TX7) (N := 56) hx hb hts (fun _ h => List.mem_cons_of_mem _ (List.mem_append_right _ h)) hown hK hP 0 rfl rfl 35 (by decide) (hts (.fieldLink RX7 71 "CrownTableModel" "credit" "[J") (mem_i 2 rfl)) (fun _ h9 => h9) rfl dX7_sum_66 ?_
    refine lv_iload hx hb dX7_sum_69 (lv_at hl 0 rfl) ?_
    refine va_lald hx hb hK hP 1 2 rfl rfl (vin (a := 5) (by decide) (by decide) (by decide)) dX7_sum_71 ?_
    refine lk_l (y := 0) rfl ?_
    refine lv_ladd hx hb dX7_sum_72 ?_
    refine lk_l (y := 0) (by decide) ?_
    refine lv_lstore_n (lv' := [(2, .long 0), (4, .int 5), (0, .ref h0), (1, .int a1)]) hx hb dX7_sum_73 rfl hl (by decide) rfl (fun ls hl => ?_)
    refine lv_iinc (v := 6) (lv' := [(4, .int 6), (2, .long 0), (0, .ref h0), (1, .int a1)]) hx hb dX7_sum_74 hl (k := 1) rfl (by decide) (by decide) rfl (fun ls hl => ?_)
    refine lv_goto (tgt := 57) hx hb dX7_sum_77 (by decide) ?_
    refine lv_iload hx hb dX7_sum_57 (lv_at hl 0 rfl) ?_
    refine lv_bipush (v := 16) hx hb dX7_sum_59 (by decide) ?_
    refine iicmp_geF (a := 6) (b := 16) (tgt := 80) hx hb (by decide) (by decide) dX7_sum_61 (by decide) (by decide) ?_
    refine lv_lload_n hx hb dX7_sum_64 rfl (lv_at hl 1 rfl) ?_
    refine lv_aload_n hx hb dX7_sum_65 rfl (lv_at hl 2 rfl) ?_
    refine va_get (D := D) (ci := 7) (v := .ref (q 35)) (C := RX7) (T := TX7) (N := 56) hx hb hts (fun _ h => List.mem_cons_of_mem _ (List.mem_append_right _ h)) hown hK hP 0 rfl rfl 35 (by decide) (hts (.fieldLink RX7 71 "CrownTableModel" "credit" "[J") (mem_i 2 rfl)) (fun _ h9 => h9) rfl dX7_sum_66 ?_
    refine lv_iload hx hb dX7_sum_69 (lv_at hl 0 rfl) ?_
    refine va_lald hx hb hK hP 1 2 rfl rfl (vin (a := 6) (by decide) (by decide) (by decide)) dX7_sum_71 ?_
    refine lk_l (y := 0) rfl ?_
    refine lv_ladd hx hb dX7_sum_72 ?_
    refine lk_l (y := 0) (by decide) ?_
    refine lv_lstore_n (lv' := [(2, .long 0), (4, .int 6), (0, .ref h0), (1, .int a1)]) hx hb dX7_sum_73 rfl hl (by decide) rfl (fun ls hl => ?_)
    refine lv_iinc (v := 7) (lv' := [(4, .int 7), (2, .long 0), (0, .ref h0), (1, .int a1)]) hx hb dX7_sum_74 hl (k := 1) rfl (by decide) (by decide) rfl (fun ls hl => ?_)
    refine lv_goto (tgt := 57) hx hb dX7_sum_77 (by decide) ?_
    refine lv_iload hx hb dX7_sum_57 (lv_at hl 0 rfl) ?_
    refine lv_bipush (v := 16) hx hb dX7_sum_59 (by decide) ?_
    refine iicmp_geF (a := 7) (b := 16) (tgt := 80) hx hb (by decide) (by decide) dX7_sum_61 (by decide) (by decide) ?_
    refine lv_lload_n hx hb dX7_sum_64 rfl (lv_at hl 1 rfl) ?_
    refine lv_aload_n hx hb dX7_sum_65 rfl (lv_at hl 2 rfl) ?_
    refine va_get (D := D) (ci := 7) (v := .ref (q 35)) (C := RX7) (T := TX7) (N := 56) hx hb hts (fun _ h => List.mem_cons_of_mem _ (List.mem_append_right _ h)) hown hK hP 0 rfl rfl 35 (by decide) (hts (.fieldLink RX7 71 "CrownTableModel" "credit" "[J") (mem_i 2 rfl)) (fun _ h9 => h9) rfl dX7_sum_66 ?_
    refine lv_iload hx hb dX7_sum_69 (lv_at hl 0 rfl) ?_
    refine va_lald hx hb hK hP 1 2 rfl rfl (vin (a := 7) (by decide) (by decide) (by decide)) dX7_sum_71 ?_
    refine lk_l (y := 0) rfl ?_
    refine lv_ladd hx hb dX7_sum_72 ?_
    refine lk_l (y := 0) (by decide) ?_
    refine lv_lstore_n (lv' := [(2, .long 0), (4, .int 7), (0, .ref h0), (1, .int a1)]) hx hb dX7_sum_73 rfl hl (by decide) rfl (fun ls hl => ?_)
    refine lv_iinc (v := 8) (lv' := [(4, .int 8), (2, .long 0), (0, .ref h0), (1, .int a1)]) hx hb dX7_sum_74 hl (k := 1) rfl (by decide) (by decide) rfl (fun ls hl => ?_)
    refine lv_goto (tgt := 57) hx hb dX7_sum_77 (by decide) ?_
    refine lv_iload hx hb dX7_sum_57 (lv_at hl 0 rfl) ?_
    refine lv_bipush (v := 16) hx hb dX7_sum_59 (by decide) ?_
    refine iicmp_geF (a := 8) (b := 16) (tgt := 80) hx hb (by decide) (by decide) dX7_sum_61 (by decide) (by decide) ?_
    refine lv_lload_n hx hb dX7_sum_64 rfl (lv_at hl 1 rfl) ?_
    refine lv_aload_n hx hb dX7_sum_65 rfl (lv_at hl 2 rfl) ?_
    refine va_get (D := D) (ci := 7) (v := .ref (q 35)) (C := RX7) (T := TX7) (N := 56) hx hb hts (fun _ h => List.mem_cons_of_mem _ (List.mem_append_right _ h)) hown hK hP 0 rfl rfl 35 (by decide) (hts (.fieldLink RX7 71 "CrownTableModel" "credit" "[J") (mem_i 2 rfl)) (fun _ h9 => h9) rfl dX7_sum_66 ?_
    refine lv_iload hx hb dX7_sum_69 (lv_at hl 0 rfl) ?_
    refine va_lald hx hb hK hP 1 2 rfl rfl (vin (a := 8) (by decide) (by decide) (by decide)) dX7_sum_71 ?_
    refine lk_l (y := 0) rfl ?_
    refine lv_ladd hx hb dX7_sum_72 ?_
    refine lk_l (y := 0) (by decide) ?_
    refine lv_lstore_n (lv' := [(2, .long 0), (4, .int 8), (0, .ref h0), (1, .int a1)]) hx hb dX7_sum_73 rfl hl (by decide) rfl (fun ls hl => ?_)
    refine lv_iinc (v := 9) (lv' := [(4, .int 9), (2, .long 0), (0, .ref h0), (1, .int a1)]) hx hb dX7_sum_74 hl (k := 1) rfl (by decide) (by decide) rfl (fun ls hl => ?_)
    refine lv_goto (tgt := 57) hx hb dX7_sum_77 (by decide) ?_
    refine lv_iload hx hb dX7_sum_57 (lv_at hl 0 rfl) ?_
    refine lv_bipush (v := 16) hx hb dX7_sum_59 (by decide) ?_
    refine iicmp_geF (a := 9) (b := 16) (tgt := 80) hx hb (by decide) (by decide) dX7_sum_61 (by decide) (by decide) ?_
    refine lv_lload_n hx hb dX7_sum_64 rfl (lv_at hl 1 rfl) ?_
    refine lv_aload_n hx hb dX7_sum_65 rfl (lv_at hl 2 rfl) ?_
    refine va_get (D := D) (ci := 7) (v := .ref (q 35)) (C := RX7) (T := TX7) (N := 56) hx hb hts (fun _ h => List.mem_cons_of_mem _ (List.mem_append_right _ h)) hown hK hP 0 rfl rfl 35 (by decide) (hts (.fieldLink RX7 71 "CrownTableModel" "credit" "[J") (mem_i 2 rfl)) (fun _ h9 => h9) rfl dX7_sum_66 ?_
    refine lv_iload hx hb dX7_sum_69 (lv_at hl 0 rfl) ?_
    refine va_lald hx hb hK hP 1 2 rfl rfl (vin (a := 9) (by decide) (by decide) (by decide)) dX7_sum_71 ?_
    refine lk_l (y := 0) rfl ?_
    refine lv_ladd hx hb dX7_sum_72 ?_
    refine lk_l (y := 0) (by decide) ?_
    refine lv_lstore_n (lv' := [(2, .long 0), (4, .int 9), (0, .ref h0), (1, .int a1)]) hx hb dX7_sum_73 rfl hl (by decide) rfl (fun ls hl => ?_)
    refine lv_iinc (v := 10) (lv' := [(4, .int 10), (2, .long 0), (0, .ref h0), (1, .int a1)]) hx hb dX7_sum_74 hl (k := 1) rfl (by decide) (by decide) rfl (fun ls hl => ?_)
    refine lv_goto (tgt := 57) hx hb dX7_sum_77 (by decide) ?_
    refine lv_iload hx hb dX7_sum_57 (lv_at hl 0 rfl) ?_
    refine lv_bipush (v := 16) hx hb dX7_sum_59 (by decide) ?_
    refine iicmp_geF (a := 10) (b := 16) (tgt := 80) hx hb (by decide) (by decide) dX7_sum_61 (by decide) (by decide) ?_
    refine lv_lload_n hx hb dX7_sum_64 rfl (lv_at hl 1 rfl) ?_
    refine lv_aload_n hx hb dX7_sum_65 rfl (lv_at hl 2 rfl) ?_
    refine va_get (D := D) (ci := 7) (v := .ref (q 35)) (C := RX7) (T := TX7) (N := 56) hx hb hts (fun _ h => List.mem_cons_of_mem _ (List.mem_append_right _ h)) hown hK hP 0 rfl rfl 35 (by decide) (hts (.fieldLink RX7 71 "CrownTableModel" "credit" "[J") (mem_i 2 rfl)) (fun _ h9 => h9) rfl dX7_sum_66 ?_
    refine lv_iload hx hb dX7_sum_69 (lv_at hl 0 rfl) ?_
    refine va_lald hx hb hK hP 1 2 rfl rfl (vin (a := 10) (by decide) (by decide) (by decide)) dX7_sum_71 ?_
    refine lk_l (y := 0) rfl ?_
    refine lv_ladd hx hb dX7_sum_72 ?_
    refine lk_l (y := 0) (by decide) ?_
    refine lv_lstore_n (lv' := [(2, .long 0), (4, .int 10), (0, .ref h0), (1, .int a1)]) hx hb dX7_sum_73 rfl hl (by decide) rfl (fun ls hl => ?_)
    refine lv_iinc (v := 11) (lv' := [(4, .int 11), (2, .long 0), (0, .ref h0), (1, .int a1)]) hx hb dX7_sum_74 hl (k := 1) rfl (by decide) (by decide) rfl (fun ls hl => ?_)
    refine lv_goto (tgt := 57) hx hb dX7_sum_77 (by decide) ?_
    refine lv_iload hx hb dX7_sum_57 (lv_at hl 0 rfl) ?_
    refine lv_bipush (v := 16) hx hb dX7_sum_59 (by decide) ?_
    refine iicmp_geF (a := 11) (b := 16) (tgt := 80) hx hb (by decide) (by decide) dX7_sum_61 (by decide) (by decide) ?_
    refine lv_lload_n hx hb dX7_sum_64 rfl (lv_at hl 1 rfl) ?_
    refine lv_aload_n hx hb dX7_sum_65 rfl (lv_at hl 2 rfl) ?_
    refine va_get (D := D) (ci := 7) (v := .ref (q 35)) (C := RX7) (T := TX7) (N := 56) hx hb hts (fun _ h => List.mem_cons_of_mem _ (List.mem_append_right _ h)) hown hK hP 0 rfl rfl 35 (by decide) (hts (.fieldLink RX7 71 "CrownTableModel" "credit" "[J") (mem_i 2 rfl)) (fun _ h9 => h9) rfl dX7_sum_66 ?_
    refine lv_iload hx hb dX7_sum_69 (lv_at hl 0 rfl) ?_
    refine va_lald hx hb hK hP 1 2 rfl rfl (vin (a := 11) (by decide) (by decide) (by decide)) dX7_sum_71 ?_
    refine lk_l (y := 0) rfl ?_
    refine lv_ladd hx hb dX7_sum_72 ?_
    refine lk_l (y := 0) (by decide) ?_
    refine lv_lstore_n (lv' := [(2, .long 0), (4, .int 11), (0, .ref h0), (1, .int a1)]) hx hb dX7_sum_73 rfl hl (by decide) rfl (fun ls hl => ?_)
    refine lv_iinc (v := 12) (lv' := [(4, .int 12), (2, .long 0), (0, .ref h0), (1, .int a1)]) hx hb dX7_sum_74 hl (k := 1) rfl (by decide) (by decide) rfl (fun ls hl => ?_)
    refine lv_goto (tgt := 57) hx hb dX7_sum_77 (by decide) ?_
    refine lv_iload hx hb dX7_sum_57 (lv_at hl 0 rfl) ?_
    refine lv_bipush (v := 16) hx hb dX7_sum_59 (by decide) ?_
    refine iicmp_geF (a := 12) (b := 16) (tgt := 80) hx hb (by decide) (by decide) dX7_sum_61 (by decide) (by decide) ?_
    refine lv_lload_n hx hb dX7_sum_64 rfl (lv_at hl 1 rfl) ?_
    refine lv_aload_n hx hb dX7_sum_65 rfl (lv_at hl 2 rfl) ?_
    refine va_get (D := D) (ci := 7) (v := .ref (q 35)) (C := RX7) (T := TX7) (N := 56) hx hb hts (fun _ h => List.mem_cons_of_mem _ (List.mem_append_right _ h)) hown hK hP 0 rfl rfl 35 (by decide) (hts (.fieldLink RX7 71 "CrownTableModel" "credit" "[J") (mem_i 2 rfl)) (fun _ h9 => h9) rfl dX7_sum_66 ?_
    refine lv_iload hx hb dX7_sum_69 (lv_at hl 0 rfl) ?_
    refine va_lald hx hb hK hP 1 2 rfl rfl (vin (a := 12) (by decide) (by decide) (by decide)) dX7_sum_71 ?_
    refine lk_l (y := 0) rfl ?_
    refine lv_ladd hx hb dX7_sum_72 ?_
    refine lk_l (y := 0) (by decide) ?_
    refine lv_lstore_n (lv' := [(2, .long 0), (4, .int 12), (0, .ref h0), (1, .int a1)]) hx hb dX7_sum_73 rfl hl (by decide) rfl (fun ls hl => ?_)
    refine lv_iinc (v := 13) (lv' := [(4, .int 13), (2, .long 0), (0, .ref h0), (1, .int a1)]) hx hb dX7_sum_74 hl (k := 1) rfl (by decide) (by decide) rfl (fun ls hl => ?_)
    refine lv_goto (tgt := 57) hx hb dX7_sum_77 (by decide) ?_
    refine lv_iload hx hb dX7_sum_57 (lv_at hl 0 rfl) ?_
    refine lv_bipush (v := 16) hx hb dX7_sum_59 (by decide) ?_
    refine iicmp_geF (a := 13) (b := 16) (tgt := 80) hx hb (by decide) (by decide) dX7_sum_61 (by decide) (by decide) ?_
    refine lv_lload_n hx hb dX7_sum_64 rfl (lv_at hl 1 rfl) ?_
    refine lv_aload_n hx hb dX7_sum_65 rfl (lv_at hl 2 rfl) ?_
    refine va_get (D := D) (ci := 7) (v := .ref (q 35)) (C := RX7) (T := TX7) (N := 56) hx hb hts (fun _ h => List.mem_cons_of_mem _ (List.mem_append_right _ h)) hown hK hP 0 rfl rfl 35 (by decide) (hts (.fieldLink RX7 71 "CrownTableModel" "credit" "[J") (mem_i 2 rfl)) (fun _ h9 => h9) rfl dX7_sum_66 ?_
    refine lv_iload hx hb dX7_sum_69 (lv_at hl 0 rfl) ?_
    refine va_lald hx hb hK hP 1 2 rfl rfl (vin (a := 13) (by decide) (by decide) (by decide)) dX7_sum_71 ?_
    refine lk_l (y := 0) rfl ?_
    refine lv_ladd hx hb dX7_sum_72 ?_
    refine lk_l (y := 0) (by decide) ?_
    refine lv_lstore_n (lv' := [(2, .long 0), (4, .int 13), (0, .ref h0), (1, .int a1)]) hx hb dX7_sum_73 rfl hl (by decide) rfl (fun ls hl => ?_)
    refine lv_iinc (v := 14) (lv' := [(4, .int 14), (2, .long 0), (0, .ref h0), (1, .int a1)]) hx hb dX7_sum_74 hl (k := 1) rfl (by decide) (by decide) rfl (fun ls hl => ?_)
    refine lv_goto (tgt := 57) hx hb dX7_sum_77 (by decide) ?_
    refine lv_iload hx hb dX7_sum_57 (lv_at hl 0 rfl) ?_
    refine lv_bipush (v := 16) hx hb dX7_sum_59 (by decide) ?_
    refine iicmp_geF (a := 14) (b := 16) (tgt := 80) hx hb (by decide) (by decide) dX7_sum_61 (by decide) (by decide) ?_
    refine lv_lload_n hx hb dX7_sum_64 rfl (lv_at hl 1 rfl) ?_
    refine lv_aload_n hx hb dX7_sum_65 rfl (lv_at hl 2 rfl) ?_
    refine va_get (D := D) (ci := 7) (v := .ref (q 35)) (C := RX7) (T := TX7) (N := 56) hx hb hts (fun _ h => List.mem_cons_of_mem _ (List.mem_append_right _ h)) hown hK hP 0 rfl rfl 35 (by decide) (hts (.fieldLink RX7 71 "CrownTableModel" "credit" "[J") (mem_i 2 rfl)) (fun _ h9 => h9) rfl dX7_sum_66 ?_
    refine lv_iload hx hb dX7_sum_69 (lv_at hl 0 rfl) ?_
    refine va_lald hx hb hK hP 1 2 rfl rfl (vin (a := 14) (by decide) (by decide) (by decide)) dX7_sum_71 ?_
    refine lk_l (y := 0) rfl ?_
    refine lv_ladd hx hb dX7_sum_72 ?_
    refine lk_l (y := 0) (by decide) ?_
    refine lv_lstore_n (lv' := [(2, .long 0), (4, .int 14), (0, .ref h0), (1, .int a1)]) hx hb dX7_sum_73 rfl hl (by decide) rfl (fun ls hl => ?_)
    refine lv_iinc (v := 15) (lv' := [(4, .int 15), (2, .long 0), (0, .ref h0), (1, .int a1)]) hx hb dX7_sum_74 hl (k := 1) rfl (by decide) (by decide) rfl (fun ls hl => ?_)
    refine lv_goto (tgt := 57) hx hb dX7_sum_77 (by decide) ?_
    refine lv_iload hx hb dX7_sum_57 (lv_at hl 0 rfl) ?_
    refine lv_bipush (v := 16) hx hb dX7_sum_59 (by decide) ?_
    refine iicmp_geF (a := 15) (b := 16) (tgt := 80) hx hb (by decide) (by decide) dX7_sum_61 (by decide) (by decide) ?_
    refine lv_lload_n hx hb dX7_sum_64 rfl (lv_at hl 1 rfl) ?_
    refine lv_aload_n hx hb dX7_sum_65 rfl (lv_at hl 2 rfl) ?_
    refine va_get (D := D) (ci := 7) (v := .ref (q 35)) (C := RX7) (T := TX7) (N := 56) hx hb hts (fun _ h => List.mem_cons_of_mem _ (List.mem_append_right _ h)) hown hK hP 0 rfl rfl 35 (by decide) (hts (.fieldLink RX7 71 "CrownTableModel" "credit" "[J") (mem_i 2 rfl)) (fun _ h9 => h9) rfl dX7_sum_66 ?_
    refine lv_iload hx hb dX7_sum_69 (lv_at hl 0 rfl) ?_
    refine va_lald hx hb hK hP 1 2 rfl rfl (vin (a := 15) (by decide) (by decide) (by decide)) dX7_sum_71 ?_
    refine lk_l (y := 0) rfl ?_
    refine lv_ladd hx hb dX7_sum_72 ?_
    refine lk_l (y := 0) (by decide) ?_
    refine lv_lstore_n (lv' := [(2, .long 0), (4, .int 15), (0, .ref h0), (1, .int a1)]) hx hb dX7_sum_73 rfl hl (by decide) rfl (fun ls hl => ?_)
    refine lv_iinc (v := 16) (lv' := [(4, .int 16), (2, .long 0), (0, .ref h0), (1, .int a1)]) hx hb dX7_sum_74 hl (k := 1) rfl (by decide) (by decide) rfl (fun ls hl => ?_)
    refine lv_goto (tgt := 57) hx hb dX7_sum_77 (by decide) ?_
    refine lv_iload hx hb dX7_sum_57 (lv_at hl 0 rfl) ?_
    refine lv_bipush (v := 16) hx hb dX7_sum_59 (by decide) ?_
    refine iicmp_geT (a := 16) (b := 16) (tgt := 80) hx hb (by decide) (by decide) dX7_sum_61 (by decide) (by decide) ?_
    refine lv_lload_n hx hb dX7_sum_80 rfl (lv_at hl 1 rfl) ?_
    exact W.lret (v := 0) hx hb hr (fun t ht hW => ⟨_, rfl, Or.inl ⟨by omega, rfl⟩, ht⟩) (fun _ h => by cases h) dX7_sum_81
  by_cases k_6 : i_a1 = 3
  · have ek_6 : a1.toInt = 3 := hi_a1.trans k_6
    refine lv_tableIn (tgt := 82) hx hb dX7_sum_3 (by rw [ek_6]; decide) (by rw [ek_6]; decide) (by rw [ek_6]; rfl) (by decide) ?_
    refine lv_iconst (v := 0) hx hb dX7_sum_82 (by decide) ?_
    refine lv_istore (lv' := [(4, .int 0), (2, .long 0), (0, .ref h0), (1, .int a1)]) hx hb dX7_sum_83 hl (by decide) rfl (fun ls hl => ?_)
    refine lv_iload hx hb dX7_sum_85 (lv_at hl 0 rfl) ?_
    refine lv_aload_n hx hb dX7_sum_87 rfl (lv_at hl 2 rfl) ?_
    refine va_get (D := D) (ci := 7) (v := .int 0) (C := RX7) (T := TX7) (N := 56) hx hb hts (fun _ h => List.mem_cons_of_mem _ (List.mem_append_right _ h)) hown hK hP 0 rfl rfl 27 (by decide) (hts (.fieldLink RX7 277 "CrownTableModel" "debts" "I") (mem_i 3 rfl)) (fun _ h9 => h9) rfl dX7_sum_88 ?_
    refine iicmp_geT (a := 0) (b := 0) (tgt := 111) hx hb (by decide) (by decide) dX7_sum_91 (by decide) (by decide) ?_
    refine lv_lload_n hx hb dX7_sum_111 rfl (lv_at hl 1 rfl) ?_
    exact W.lret (v := 0) hx hb hr (fun t ht hW => ⟨_, rfl, Or.inl ⟨by omega, rfl⟩, ht⟩) (fun _ h => by cases h) dX7_sum_112
  by_cases k_7 : i_a1 = 4
  · have ek_7 : a1.toInt = 4 := hi_a1.trans k_7
    refine lv_tableIn (tgt := 113) hx hb dX7_sum_3 (by rw [ek_7]; decide) (by rw [ek_7]; decide) (by rw [ek_7]; rfl) (by decide) ?_
    refine lv_iconst (v := 0) hx hb dX7_sum_113 (by decide) ?_
    refine lv_istore (lv' := [(4, .int 0), (2, .long 0), (0, .ref h0), (1, .int a1)]) hx hb dX7_sum_114 hl (by decide) rfl (fun ls hl => ?_)
    refine lv_iload hx hb dX7_sum_116 (lv_at hl 0 rfl) ?_
    refine lv_aload_n hx hb dX7_sum_118 rfl (lv_at hl 2 rfl) ?_
    refine va_get (D := D) (ci := 7) (v := .int 0) (C := RX7) (T := TX7) (N := 56) hx hb hts (fun _ h => List.mem_cons_of_mem _ (List.mem_append_right _ h)) hown hK hP 0 rfl rfl 27 (by decide) (hts (.fieldLink RX7 277 "CrownTableModel" "debts" "I") (mem_i 3 rfl)) (fun _ h9 => h9) rfl dX7_sum_119 ?_
    refine iicmp_geT (a := 0) (b := 0) (tgt := 142) hx hb (by decide) (by decide) dX7_sum_122 (by decide) (by decide) ?_
    refine lv_lload_n hx hb dX7_sum_142 rfl (lv_at hl 1 rfl) ?_
    exact W.lret (v := 0) hx hb hr (fun t ht hW => ⟨_, rfl, Or.inl ⟨by omega, rfl⟩, ht⟩) (fun _ h => by cases h) dX7_sum_143
  by_cases k_8 : i_a1 = 5
  · have ek_8 : a1.toInt = 5 := hi_a1.trans k_8
    refine lv_tableIn (tgt := 144) hx hb dX7_sum_3 (by rw [ek_8]; decide) (by rw [ek_8]; decide) (by rw [ek_8]; rfl) (by decide) ?_
    refine lv_iconst (v := 0) hx hb dX7_sum_144 (by decide) ?_
    refine lv_istore (lv' := [(4, .int 0), (2, .long 0), (0, .ref h0), (1, .int a1)]) hx hb dX7_sum_145 hl (by decide) rfl (fun ls hl => ?_)
    refine lv_iload hx hb dX7_sum_147 (lv_at hl 0 rfl) ?_
    refine lv_aload_n hx hb dX7_sum_149 rfl (lv_at hl 2 rfl) ?_
    refine va_get (D := D) (ci := 7) (v := .int 0) (C := RX7) (T := TX7) (N := 56) hx hb hts (fun _ h => List.mem_cons_of_mem _ (List.mem_append_right _ h)) hown hK hP 0 rfl rfl 27 (by decide) (hts (.fieldLink RX7 277 "CrownTableModel" "debts" "I") (mem_i 3 rfl)) (fun _ h9 => h9) rfl dX7_sum_150 ?_
    refine iicmp_geT (a := 0) (b := 0) (tgt := 173) hx hb (by decide) (by decide) dX7_sum_153 (by decide) (by decide) ?_
    refine lv_lload_n hx hb dX7_sum_173 rfl (lv_at hl 1 rfl) ?_
    exact W.lret (v := 0) hx hb hr (fun t ht hW => ⟨_, rfl, Or.inl ⟨by omega, rfl⟩, ht⟩) (fun _ h => by cases h) dX7_sum_174
  by_cases k_9 : i_a1 = 6
  · have ek_9 : a1.toInt = 6 := hi_a1.trans k_9
    refine lv_tableIn (tgt := 175) hx hb dX7_sum_3 (by rw [ek_9]; decide) (by rw [ek_9]; decide) (by rw [ek_9]; rfl) (by decide) ?_
    refine lv_aload_n hx hb dX7_sum_175 rfl (lv_at hl 1 rfl) ?_
    refine va_get (D := D) (ci := 7) (v := .long 0) (C := RX7) (T := TX7) (N := 56) hx hb hts (fun _ h => List.mem_cons_of_mem _ (List.mem_append_right _ h)) hown hK hP 0 rfl rfl 39 (by decide) (hts (.fieldLink RX7 325 "CrownTableModel" "brought" "J") (mem_i 7 rfl)) (fun _ h9 => h9) rfl dX7_sum_176 ?_
    exact W.lret (v := 0) hx hb hr (fun t ht hW => ⟨_, rfl, Or.inl ⟨by omega, rfl⟩, ht⟩) (fun _ h => by cases h) dX7_sum_179
  refine lv_tableOut (tgt := 180) hx hb dX7_sum_3 (by rw [hi_a1]; omega) (by decide) ?_
  refine lv_ldc2 (v := (-1)) hx hb hown (hts (.constantLong RX7 338 (-1)) (mem_i 8 rfl)) dX7_sum_180 ?_
  exact W.lret (v := (-1)) hx hb hr (fun t ht hW => ⟨_, rfl, Or.inr (⟨by omega, rfl⟩), ht⟩) (fun _ h => by cases h) dX7_sum_183
