set_option maxHeartbeats 4000000 in
set_option maxRecDepth 100000 in
theorem c_X6_term (l : Launch) (D : va_G) (c : Nat → ClassId) (ts : Nat × Nat) (sz : Nat) (q : Nat → Nat) (h0 : Nat) : Met l yX6_term wsX6_term ({ frames := 0, cells := 0, slots := 0, locals := 0 }) (va_Pc [.ref h0] (Pre0 D c ts [(h0, .inr (6, o6 q 0 0 0 0))] sz)) (va_Qi (fun (r : Int32) (u : Unit) => r = 1) (fun _ _ => True) (va_A [(h0, .inr (6, o6 q 0 0 0 0))] sz)) 0 0 (va_A [(h0, .inr (6, o6 q 0 0 0 0))] sz) := by
  refine Met.ofW (cc := cX6_term) (maxL := 2) (ret := (some .int)) (by decide) rfl ?_
  intro p e s m args below meth cd s₁ B hml hv
  obtain ⟨rfl, hsz, hP, hD0, hAm, hSt⟩ := hv
  have hx := B.exec
  have hb := B.bytes
  have hr := B.returns
  have hts := atoms_spec (ws := wsX6_term) B.pre
  have hown : s.vm.findClass RX6 = some m.cls := findClass_of_methodNamed B.named
  have hlocks := B.notSynchronized
  subst hsz
  have hK := hAm.1
  have hD := hD0.self (sz := s.heap.size)
  generalize hAe : va_A [(h0, .inr (6, o6 q 0 0 0 0))] s.heap.size = A at hD hSt ⊢
  have hA : ∀ q : Nat, s.heap.size ≤ q → A q := fun q h => by rw [← hAe]; exact Or.inr h
  have hS : va_S A s.heap s.heap [] := va_S.rf
  clear hD0 hAe
  have hl := lv_entry ([.ref h0]) (n := 2) (Nat.le_of_ble_eq_true rfl)
  rw [lg_entry_eq]
  generalize (lg_sl ([.ref h0]) ++ List.replicate (2 - (lg_sl ([.ref h0])).length) Slot.unset).toArray = ls at hl ⊢
  have hl : lv_has ls 2 [(0, .ref h0)] := hl
  refine lv_aload_n hx hb dX6_term_0 rfl (lv_at hl 0 rfl) ?_
  refine va_get (D := D) (ci := 6) (v := .int 0) (C := RX6) (T := TX6) (N := 18) hx hb hts (fun _ h => List.mem_cons_of_mem _ (List.mem_append_left _ (List.mem_append_right _ h))) hown hK hP 0 rfl rfl 15 (by decide) (hts (.fieldLink RX6 120 "CrownTable" "now" "I") (mem_i 1 rfl)) (fun _ h9 => h9) rfl dX6_term_1 ?_
  refine lv_sipush (v := 1000) hx hb dX6_term_4 (by decide) ?_
  refine iicmp_ltT (a := 0) (b := 1000) (tgt := 12) hx hb (by decide) (by decide) dX6_term_7 (by decide) (by decide) ?_
  refine lv_aload_n hx hb dX6_term_12 rfl (lv_at hl 0 rfl) ?_
  refine va_get (D := D) (ci := 6) (v := .int 0) (C := RX6) (T := TX6) (N := 18) hx hb hts (fun _ h => List.mem_cons_of_mem _ (List.mem_append_left _ (List.mem_append_right _ h))) hown hK hP 0 rfl rfl 15 (by decide) (hts (.fieldLink RX6 120 "CrownTable" "now" "I") (mem_i 1 rfl)) (fun _ h9 => h9) rfl dX6_term_13 ?_
  refine lv_iconst (v := 1) hx hb dX6_term_16 (by decide) ?_
  refine lv_iadd hx hb dX6_term_17 ?_
  refine lk_i (y := 1) (by decide) ?_
  refine lv_iconst (v := 2) hx hb dX6_term_18 (by decide) ?_
  refine lv_irem hx hb dX6_term_19 (by decide) ?_
  refine lk_i (y := 1) (by decide) ?_
  refine iif_neT (a := 1) (tgt := 27) hx hb (by decide) dX6_term_20 (by decide) (by decide) ?_
  refine lv_iconst (v := 0) hx hb dX6_term_27 (by decide) ?_
  refine lv_istore_n (lv' := [(1, .int 0), (0, .ref h0)]) hx hb dX6_term_28 rfl hl (by decide) rfl (fun ls hl => ?_)
  refine lv_iload_n hx hb dX6_term_29 rfl (lv_at hl 0 rfl) ?_
  refine iif_eqT (a := 0) (tgt := 50) hx hb (by decide) dX6_term_30 (by decide) (by decide) ?_
  refine lv_aload_n hx hb dX6_term_50 rfl (lv_at hl 1 rfl) ?_
  refine lv_dup hx hb dX6_term_51 rfl ?_
  refine va_get (D := D) (ci := 6) (v := .int 0) (C := RX6) (T := TX6) (N := 18) hx hb hts (fun _ h => List.mem_cons_of_mem _ (List.mem_append_left _ (List.mem_append_right _ h))) hown hK hP 0 rfl rfl 15 (by decide) (hts (.fieldLink RX6 120 "CrownTable" "now" "I") (mem_i 1 rfl)) (fun _ h9 => h9) rfl dX6_term_52 ?_
  refine lv_iconst (v := 1) hx hb dX6_term_55 (by decide) ?_
  refine lv_iadd hx hb dX6_term_56 ?_
  refine lk_i (y := 1) (by decide) ?_
  refine va_put (D := D) (ci := 6) (v := .int 1) (ty := .int) (C := RX6) (T := TX6) (N := 18) hx hb hts (fun _ h => List.mem_cons_of_mem _ (List.mem_append_left _ (List.mem_append_right _ h))) tyX6 tyX6_ok nmX6 hown hK hP hD hS 0 rfl rfl 15 (by decide) (hts (.fieldLink RX6 120 "CrownTable" "now" "I") (mem_i 1 rfl)) (fun _ h9 => h9) rfl (by decide +kernel) rfl rfl (Nat.le_of_ble_eq_true rfl) dX6_term_57 (fun H locs hP hD hS => ?_)
  have hP : va_P D vwCl [(h0, .inr (6, o6 q 0 1 0 0))] H := hP
  have hD : va_D A [(h0, .inr (6, o6 q 0 1 0 0))] := hD
  refine lv_iload_n hx hb dX6_term_60 rfl (lv_at hl 0 rfl) ?_
  refine iif_eqT (a := 0) (tgt := 68) hx hb (by decide) dX6_term_61 (by decide) (by decide) ?_
  refine lv_aload_n hx hb dX6_term_68 rfl (lv_at hl 1 rfl) ?_
  refine va_get (D := D) (ci := 6) (v := .int 1) (C := RX6) (T := TX6) (N := 18) hx hb hts (fun _ h => List.mem_cons_of_mem _ (List.mem_append_left _ (List.mem_append_right _ h))) hown hK hP 0 rfl rfl 15 (by decide) (hts (.fieldLink RX6 120 "CrownTable" "now" "I") (mem_i 1 rfl)) (fun _ h9 => h9) rfl dX6_term_69 ?_
  refine W.widen (k := 0) (n := 0) (by omega) (by omega) ?_
  exact W.iret (v := 1) hx hb hr (fun t ht hW => ⟨⟨_, (), rfl, rfl, trivial⟩, hS.F ht⟩) hS.2.2 dX6_term_72

set_option maxHeartbeats 4000000 in
set_option maxRecDepth 100000 in
theorem c_X7_term (l : Launch) (D : va_G) (c : Nat → ClassId) (ts : Nat × Nat) (sz : Nat) (q : Nat → Nat) (h0 : Nat) : Met l yX7_term wsX7_term ({ frames := 0, cells := 0, slots := 0, locals := 0 }) (va_Pc [.ref h0] (Pre0 D c ts [(h0, .inr (7, o7 q v0 w0))] sz)) (va_Qi (fun (r : Int32) (u : Unit) => r = 1) (fun _ _ => True) (va_A [(h0, .inr (7, o7 q v0 w0))] sz)) 0 0 (va_A [(h0, .inr (7, o7 q v0 w0))] sz) := by
  refine Met.ofW (cc := cX7_term) (maxL := 3) (ret := (some .int)) (by decide) rfl ?_
  intro p e s m args below meth cd s₁ B hml hv
  obtain ⟨rfl, hsz, hP, hD0, hAm, hSt⟩ := hv
  have hx := B.exec
  have hb := B.bytes
  have hr := B.returns
  have hts := atoms_spec (ws := wsX7_term) B.pre
  have hown : s.vm.findClass RX7 = some m.cls := findClass_of_methodNamed B.named
  have hlocks := B.notSynchronized
  subst hsz
  have hK := hAm.1
  have hD := hD0.self (sz := s.heap.size)
  generalize hAe : va_A [(h0, .inr (7, o7 q v0 w0))] s.heap.size = A at hD hSt ⊢
  have hA : ∀ q : Nat, s.heap.size ≤ q → A q := fun q h => by rw [← hAe]; exact Or.inr h
  have hS : va_S A s.heap s.heap [] := va_S.rf
  clear hD0 hAe
  have hl := lv_entry ([.ref h0]) (n := 3) (Nat.le_of_ble_eq_true rfl)
  rw [lg_entry_eq]
  generalize (lg_sl ([.ref h0]) ++ List.replicate (3 - (lg_sl ([.ref h0])).length) Slot.unset).toArray = ls at hl ⊢
  have hl : lv_has ls 3 [(0, .ref h0)] := hl
  refine lv_aload_n hx hb dX7_term_0 rfl (lv_at hl 0 rfl) ?_
  refine va_get (D := D) (ci := 7) (v := .int 0) (C := RX7) (T := TX7) (N := 56) hx hb hts (fun _ h => List.mem_cons_of_mem _ (List.mem_append_right _ h)) hown hK hP 0 rfl rfl 24 (by decide) (hts (.fieldLink RX7 267 "CrownTableModel" "term" "I") (mem_i 1 rfl)) (fun _ h9 => h9) rfl dX7_term_1 ?_
  refine lv_sipush (v := 1000) hx hb dX7_term_4 (by decide) ?_
  refine iicmp_neT (a := 0) (b := 1000) (tgt := 12) hx hb (by decide) (by decide) dX7_term_7 (by decide) (by decide) ?_
  refine lv_iconst (v := 0) hx hb dX7_term_12 (by decide) ?_
  refine lv_istore_n (lv' := [(1, .int 0), (0, .ref h0)]) hx hb dX7_term_13 rfl hl (by decide) rfl (fun ls hl => ?_)
  refine lv_iconst (v := 0) hx hb dX7_term_14 (by decide) ?_
  refine lv_istore_n (lv' := [(2, .int 0), (1, .int 0), (0, .ref h0)]) hx hb dX7_term_15 rfl hl (by decide) rfl (fun ls hl => ?_)
  refine lv_iload_n hx hb dX7_term_16 rfl (lv_at hl 0 rfl) ?_
  refine lv_bipush (v := 8) hx hb dX7_term_17 (by decide) ?_
  refine iicmp_geF (a := 0) (b := 8) (tgt := 64) hx hb (by decide) (by decide) dX7_term_19 (by decide) (by decide) ?_
  refine lv_iload_n hx hb dX7_term_22 rfl (lv_at hl 1 rfl) ?_
  refine lv_aload_n hx hb dX7_term_23 rfl (lv_at hl 2 rfl) ?_
  refine va_get (D := D) (ci := 7) (v := .int 0) (C := RX7) (T := TX7) (N := 56) hx hb hts (fun _ h => List.mem_cons_of_mem _ (List.mem_append_right _ h)) hown hK hP 0 rfl rfl 24 (by decide) (hts (.fieldLink RX7 267 "CrownTableModel" "term" "I") (mem_i 1 rfl)) (fun _ h9 => h9) rfl dX7_term_24 ?_
  refine lv_iconst (v := 2) hx hb dX7_term_27 (by decide) ?_
  refine lv_irem hx hb dX7_term_28 (by decide) ?_
  refine lk_i (y := 0) (by decide) ?_
  refine lv_iconst (v := 1) hx hb dX7_term_29 (by decide) ?_
  refine iicmp_neT (a := 0) (b := 1) (tgt := 55) hx hb (by decide) (by decide) dX7_term_30 (by decide) (by decide) ?_
  refine lv_iconst (v := 0) hx hb dX7_term_55 (by decide) ?_
  refine lv_iadd hx hb dX7_term_56 ?_
  refine lk_i (y := 0) (by decide) ?_
  refine lv_istore_n (lv' := [(1, .int 0), (2, .int 0), (0, .ref h0)]) hx hb dX7_term_57 rfl hl (by decide) rfl (fun ls hl => ?_)
  refine lv_iinc (v := 1) (lv' := [(2, .int 1), (1, .int 0), (0, .ref h0)]) hx hb dX7_term_58 hl (k := 1) rfl (by decide) (by decide) rfl (fun ls hl => ?_)
  refine lv_goto (tgt := 16) hx hb dX7_term_61 (by decide) ?_
  refine lv_iload_n hx hb dX7_term_16 rfl (lv_at hl 0 rfl) ?_
  refine lv_bipush (v := 8) hx hb dX7_term_17 (by decide) ?_
  refine iicmp_geF (a := 1) (b := 8) (tgt := 64) hx hb (by decide) (by decide) dX7_term_19 (by decide) (by decide) ?_
  refine lv_iload_n hx hb dX7_term_22 rfl (lv_at hl 1 rfl) ?_
  refine lv_aload_n hx hb dX7_term_23 rfl (lv_at hl 2 rfl) ?_
  refine va_get (D := D) (ci := 7) (v := .int 0) (C := RX7) (T := TX7) (N := 56) hx hb hts (fun _ h => List.mem_cons_of_mem _ (List.mem_append_right _ h)) hown hK hP 0 rfl rfl 24 (by decide) (hts (.fieldLink RX7 267 "CrownTableModel" "term" "I") (mem_i 1 rfl)) (fun _ h9 => h9) rfl dX7_term_24 ?_
  refine lv_iconst (v := 2) hx hb dX7_term_27 (by decide) ?_
  refine lv_irem hx hb dX7_term_28 (by decide) ?_
  refine lk_i (y := 0) (by decide) ?_
  refine lv_iconst (v := 1) hx hb dX7_term_29 (by decide) ?_
  refine iicmp_neT (a := 0) (b := 1) (tgt := 55) hx hb (by decide) (by decide) dX7_term_30 (by decide) (by decide) ?_
  refine lv_iconst (v := 0) hx hb dX7_term_55 (by decide) ?_
  refine lv_iadd hx hb dX7_term_56 ?_
  refine lk_i (y := 0) (by decide) ?_
  refine lv_istore_n (lv' := [(1, .int 0), (2, .int 1), (0, .ref h0)]) hx hb dX7_term_57 rfl hl (by decide) rfl (fun ls hl => ?_)
  refine lv_iinc (v := 2) (lv' := [(2, .int 2), (1, .int 0), (0, .ref h0)]) hx hb dX7_term_58 hl (k := 1) rfl (by decide) (by decide) rfl (fun ls hl => ?_)
  refine lv_goto (tgt := 16) hx hb dX7_term_61 (by decide) ?_
  refine lv_iload_n hx hb dX7_term_16 rfl (lv_at hl 0 rfl) ?_
  refine lv_bipush (v := 8) hx hb dX7_term_17 (by decide) ?_
  refine iicmp_geF (a := 2) (b := 8) (tgt := 64) hx hb (by decide) (by decide) dX7_term_19 (by decide) (by decide) ?_
  refine lv_iload_n hx hb dX7_term_22 rfl (lv_at hl 1 rfl) ?_
  refine lv_aload_n hx hb dX7_term_23 rfl (lv_at hl 2 rfl) ?_
  refine va_get (D := D) (ci := 7) (v := .int 0) (C := RX7) (T := TX7) (N := 56) hx hb hts (fun _ h => List.mem_cons_of_mem _ (List.mem_append_right _ h)) hown hK hP 0 rfl rfl 24 (by decide) (hts (.fieldLink RX7 267 "CrownTableModel" "term" "I") (mem_i 1 rfl)) (fun _ h9 => h9) rfl dX7_term_24 ?_
  refine lv_iconst (v := 2) hx hb dX7_term_27 (by decide) ?_
  refine lv_irem hx hb dX7_term_28 (by decide) ?_
  refine lk_i (y := 0) (by decide) ?_
  refine lv_iconst (v := 1) hx hb dX7_term_29 (by decide) ?_
  refine iicmp_neT (a := 0) (b := 1) (tgt := 55) hx hb (by decide) (by decide) dX7_term_30 (by decide) (by decide) ?_
  refine lv_iconst (v := 0) hx hb dX7_term_55 (by decide) ?_
  refine lv_iadd hx hb dX7_term_56 ?_
  refine lk_i (y := 0) (by decide) ?_
  refine lv_istore_n (lv' := [(1, .int 0), (2, .int 2), (0, .ref h0)]) hx hb dX7_term_57 rfl hl (by decide) rfl (fun ls hl => ?_)
  refine lv_iinc (v := 3) (lv' := [(2, .int 3), (1, .int 0), (0, .ref h0)]) hx hb dX7_term_58 hl (k := 1) rfl (by decide) (by decide) rfl (fun ls hl => ?_)
  refine lv_goto (tgt := 16) hx hb dX7_term_61 (by decide) ?_
  refine lv_iload_n hx hb dX7_term_16 rfl (lv_at hl 0 rfl) ?_
  refine lv_bipush (v := 8) hx hb dX7_term_17 (by decide) ?_
  refine iicmp_geF (a := 3) (b := 8) (tgt := 64) hx hb (by decide) (by decide) dX7_term_19 (by decide) (by decide) ?_
  refine lv_iload_n hx hb dX7_term_22 rfl (lv_at hl 1 rfl) ?_
  refine lv_aload_n hx hb dX7_term_23 rfl (lv_at hl 2 rfl) ?_
  refine va_get (D := D) (ci := 7) (v := .int 0) (C := RX7) (T := TX7) (N := 56) hx hb hts (fun _ h => List.mem_cons_of_mem _ (List.mem_append_right _ h)) hown hK hP 0 rfl rfl 24 (by decide) (hts (.fieldLink RX7 267 "CrownTableModel" "term" "I") (mem_i 1 rfl)) (fun _ h9 => h9) rfl dX7_term_24 ?_
  refine lv_iconst (v := 2) hx hb dX7_term_27 (by decide) ?_
  refine lv_irem hx hb dX7_term_28 (by decide) ?_
  refine lk_i (y := 0) (by decide) ?_
  refine lv_iconst (v := 1) hx hb dX7_term_29 (by decide) ?_
  refine iicmp_neT (a := 0) (b := 1) (tgt := 55) hx hb (by decide) (by decide) dX7_term_30 (by decide) (by decide) ?_
  refine lv_iconst (v := 0) hx hb dX7_term_55 (by decide) ?_
  refine lv_iadd hx hb dX7_term_56 ?_
  refine lk_i (y := 0) (by decide) ?_
  refine lv_istore_n (lv' := [(1, .int 0), (2, .int 3), (0, .ref h0)]) hx hb dX7_term_57 rfl hl (by decide) rfl (fun ls hl => ?_)
  refine lv_iinc (v := 4) (lv' := [(2, .int 4), (1, .int 0), (0, .ref h0)]) hx hb dX7_term_58 hl (k := 1) rfl (by decide) (by decide) rfl (fun ls hl => ?_)
  refine lv_goto (tgt := 16) hx hb dX7_term_61 (by decide) ?_
  refine lv_iload_n hx hb dX7_term_16 rfl (lv_at hl 0 rfl) ?_
  refine lv_bipush (v := 8) hx hb dX7_term_17 (by decide) ?_
  refine iicmp_geF (a := 4) (b := 8) (tgt := 64) hx hb (by decide) (by decide) dX7_term_19 (by decide) (by decide) ?_
  refine lv_iload_n hx hb dX7_term_22 rfl (lv_at hl 1 rfl) ?_
  refine lv_aload_n hx hb dX7_term_23 rfl (lv_at hl 2 rfl) ?_
  refine va_get (D := D) (ci := 7) (v := .int 0) (C := RX7) (T := TX7) (N := 56) hx hb hts (fun _ h => List.mem_cons_of_mem _ (List.mem_append_right _ h)) hown hK hP 0 rfl rfl 24 (by decide) (hts (.fieldLink RX7 267 "CrownTableModel" "term" "I") (mem_i 1 rfl)) (fun _ h9 => h9) rfl dX7_term_24 ?_
  refine lv_iconst (v := 2) hx hb dX7_term_27 (by decide) ?_
  refine lv_irem hx hb dX7_term_28 (by decide) ?_
  refine lk_i (y := 0) (by decide) ?_
  refine lv_iconst (v := 1) hx hb dX7_term_29 (by decide) ?_
  refine iicmp_neT (a := 0) (b := 1) (tgt := 55) hx hb (by decide) (by decide) dX7_term_30 (by decide) (by decide) ?_
  refine lv_iconst (v := 0) hx hb dX7_term_55 (by decide) ?_
  refine lv_iadd hx hb dX7_term_56 ?_
  refine lk_i (y := 0) (by decide) ?_
  refine lv_istore_n (lv' := [(1, .int 0), (2, .int 4), (0, .ref h0)]) hx hb dX7_term_57 rfl hl (by decide) rfl (fun ls hl => ?_)
  refine lv_iinc (v := 5) (lv' := [(2, .int 5), (1, .int 0), (0, .ref h0)]) hx hb dX7_term_58 hl (k := 1) rfl (by decide) (by decide) rfl (fun ls hl => ?_)
  refine lv_goto (tgt := 16) hx hb dX7_term_61 (by decide) ?_
  refine lv_iload_n hx hb dX7_term_16 rfl (lv_at hl 0 rfl) ?_
  refine lv_bipush (v := 8) hx hb dX7_term_17 (by decide) ?_
  refine iicmp_geF (a := 5) (b := 8) (tgt := 64) hx hb (by decide) (by decide) dX7_term_19 (by decide) (by decide) ?_
  refine lv_iload_n hx hb dX7_term_22 rfl (lv_at hl 1 rfl) ?_
  refine lv_aload_n hx hb dX7_term_23 rfl (lv_at hl 2 rfl) ?_
  refine va_get (D := D) (ci := 7) (v := .int 0) (C := RX7) (T := TX7) (N := 56) hx hb hts (fun _ h => List.mem_cons_of_mem _ (List.mem_append_right _ h)) hown hK hP 0 rfl rfl 24 (by decide) (hts (.fieldLink RX7 267 "CrownTableModel" "term" "I") (mem_i 1 rfl)) (fun _ h9 => h9) rfl dX7_term_24 ?_
  refine lv_iconst (v := 2) hx hb dX7_term_27 (by decide) ?_
  refine lv_irem hx hb dX7_term_28 (by decide) ?_
  refine lk_i (y := 0) (by decide) ?_
  refine lv_iconst (v := 1) hx hb dX7_term_29 (by decide) ?_
  refine iicmp_neT (a := 0) (b := 1) (tgt := 55) hx hb (by decide) (by decide) dX7_term_30 (by decide) (by decide) ?_
  refine lv_iconst (v := 0) hx hb dX7_term_55 (by decide) ?_
  refine lv_iadd hx hb dX7_term_56 ?_
  refine lk_i (y := 0) (by decide) ?_
  refine lv_istore_n (lv' := [(1, .int 0), (2, .int 5), (0, .ref h0)]) hx hb dX7_term_57 rfl hl (by decide) rfl (fun ls hl => ?_)
  refine lv_iinc (v := 6) (lv' := [(2, .int 6), (1, .int 0), (0, .ref h0)]) hx hb dX7_term_58 hl (k := 1) rfl (by decide) (by decide) rfl (fun ls hl => ?_)
  refine lv_goto (tgt := 16) hx hb dX7_term_61 (by decide) ?_
  refine lv_iload_n hx hb dX7_term_16 rfl (lv_at hl 0 rfl) ?_
  refine lv_bipush (v := 8) hx hb dX7_term_17 (by decide) ?_
  refine iicmp_geF (a := 6) (b := 8) (tgt := 64) hx hb (by decide) (by decide) dX7_term_19 (by decide) (by decide) ?_
  refine lv_iload_n hx hb dX7_term_22 rfl (lv_at hl 1 rfl) ?_
  refine lv_aload_n hx hb dX7_term_23 rfl (lv_at hl 2 rfl) ?_
  refine va_get (D := D) (ci := 7) (v := .int 0) (C := RX7) (T := TX7) (N := 56) hx hb hts (fun _ h => List.mem_cons_of_mem _ (List.mem_append_right _ h)) hown hK hP 0 rfl rfl 24 (by decide) (hts (.fieldLink RX7 267 "CrownTableModel" "term" "I") (mem_i 1 rfl)) (fun _ h9 => h9) rfl dX7_term_24 ?_
  refine lv_iconst (v := 2) hx hb dX7_term_27 (by decide) ?_
  refine lv_irem hx hb dX7_term_28 (by decide) ?_
  refine lk_i (y := 0) (by decide) ?_
  refine lv_iconst (v := 1) hx hb dX7_term_29 (by decide) ?_
  refine iicmp_neT (a := 0) (b := 1) (tgt := 55) hx hb (by decide) (by decide) dX7_term_30 (by decide) (by decide) ?_
  refine lv_iconst (v := 0) hx hb dX7_term_55 (by decide) ?_
  refine lv_iadd hx hb dX7_term_56 ?_
  refine lk_i (y := 0) (by decide) ?_
  refine lv_istore_n (lv' := [(1, .int 0), (2, .int 6), (0, .ref h0)]) hx hb dX7_term_57 rfl hl (by decide) rfl (fun ls hl => ?_)
  refine lv_iinc (v := 7) (lv' := [(2, .int 7), (1, .int 0), (0, .ref h0)]) hx hb dX7_term_58 hl (k := 1) rfl (by decide) (by decide) rfl (fun ls hl => ?_)
  refine lv_goto (tgt := 16) hx hb dX7_term_61 (by decide) ?_
  refine lv_iload_n hx hb dX7_term_16 rfl (lv_at hl 0 rfl) ?_
  refine lv_bipush (v := 8) hx hb dX7_term_17 (by decide) ?_
  refine iicmp_geF (a := 7) (b := 8) (tgt := 64) hx hb (by decide) (by decide) dX7_term_19 (by decide) (by decide) ?_
  refine lv_iload_n hx hb dX7_term_22 rfl (lv_at hl 1 rfl) ?_
  refine lv_aload_n hx hb dX7_term_23 rfl (lv_at hl 2 rfl) ?_
  refine va_get (D := D) (ci := 7) (v := .int 0) (C := RX7) (T := TX7) (N := 56) hx hb hts (fun _ h => List.mem_cons_of_mem _ (List.mem_append_right _ h)) hown hK hP 0 rfl rfl 24 (by decide) (hts (.fieldLink RX7 267 "CrownTableModel" "term" "I") (mem_i 1 rfl)) (fun _ h9 => h9) rfl dX7_term_24 ?_
  refine lv_iconst (v := 2) hx hb dX7_term_27 (by decide) ?_
  refine lv_irem hx hb dX7_term_28 (by decide) ?_
  refine lk_i (y := 0) (by decide) ?_
  refine lv_iconst (v := 1) hx hb dX7_term_29 (by decide) ?_
  refine iicmp_neT (a := 0) (b := 1) (tgt := 55) hx hb (by decide) (by decide) dX7_term_30 (by decide) (by decide) ?_
  refine lv_iconst (v := 0) hx hb dX7_term_55 (by decide) ?_
  refine lv_iadd hx hb dX7_term_56 ?_
  refine lk_i (y := 0) (by decide) ?_
  refine lv_istore_n (lv' := [(1, .int 0), (2, .int 7), (0, .ref h0)]) hx hb dX7_term_57 rfl hl (by decide) rfl (fun ls hl => ?_)
  refine lv_iinc (v := 8) (lv' := [(2, .int 8), (1, .int 0), (0, .ref h0)]) hx hb dX7_term_58 hl (k := 1) rfl (by decide) (by decide) rfl (fun ls hl => ?_)
  refine lv_goto (tgt := 16) hx hb dX7_term_61 (by decide) ?_
  refine lv_iload_n hx hb dX7_term_16 rfl (lv_at hl 0 rfl) ?_
  refine lv_bipush (v := 8) hx hb dX7_term_17 (by decide) ?_
  refine iicmp_geT (a := 8) (b := 8) (tgt := 64) hx hb (by decide) (by decide) dX7_term_19 (by decide) (by decide) ?_
  refine lv_aload_n hx hb dX7_term_64 rfl (lv_at hl 2 rfl) ?_
  refine va_get (D := D) (ci := 7) (v := .int 0) (C := RX7) (T := TX7) (N := 56) hx hb hts (fun _ h => List.mem_cons_of_mem _ (List.mem_append_right _ h)) hown hK hP 0 rfl rfl 27 (by decide) (hts (.fieldLink RX7 277 "CrownTableModel" "debts" "I") (mem_i 4 rfl)) (fun _ h9 => h9) rfl dX7_term_65 ?_
  refine lv_iload_n hx hb dX7_term_68 rfl (lv_at hl 1 rfl) ?_
  refine lv_iadd hx hb dX7_term_69 ?_
  refine lk_i (y := 0) (by decide) ?_
  refine lv_sipush (v := 400) hx hb dX7_term_70 (by decide) ?_
  refine iicmp_leT (a := 0) (b := 400) (tgt := 79) hx hb (by decide) (by decide) dX7_term_73 (by decide) (by decide) ?_
  refine lv_aload_n hx hb dX7_term_79 rfl (lv_at hl 2 rfl) ?_
  refine lv_dup hx hb dX7_term_80 rfl ?_
  refine va_get (D := D) (ci := 7) (v := .int 0) (C := RX7) (T := TX7) (N := 56) hx hb hts (fun _ h => List.mem_cons_of_mem _ (List.mem_append_right _ h)) hown hK hP 0 rfl rfl 24 (by decide) (hts (.fieldLink RX7 267 "CrownTableModel" "term" "I") (mem_i 1 rfl)) (fun _ h9 => h9) rfl dX7_term_81 ?_
  refine lv_iconst (v := 1) hx hb dX7_term_84 (by decide) ?_
  refine lv_iadd hx hb dX7_term_85 ?_
  refine lk_i (y := 1) (by decide) ?_
  refine va_put (D := D) (ci := 7) (v := .int 1) (ty := .int) (C := RX7) (T := TX7) (N := 56) hx hb hts (fun _ h => List.mem_cons_of_mem _ (List.mem_append_right _ h)) tyX7 tyX7_ok nmX7 hown hK hP hD hS 0 rfl rfl 24 (by decide) (hts (.fieldLink RX7 267 "CrownTableModel" "term" "I") (mem_i 1 rfl)) (fun _ h9 => h9) rfl (by decide +kernel) rfl rfl (Nat.le_of_ble_eq_true rfl) dX7_term_86 (fun H locs hP hD hS => ?_)
  have hP : va_P D vwCl [(h0, .inr (7, o7 q (upd v0 24 1) w0))] H := hP
  have hD : va_D A [(h0, .inr (7, o7 q (upd v0 24 1) w0))] := hD
  refine lv_iconst (v := 0) hx hb dX7_term_89 (by decide) ?_
  refine lv_istore_n (lv' := [(2, .int 0), (1, .int 0), (0, .ref h0)]) hx hb dX7_term_90 rfl hl (by decide) rfl (fun ls hl => ?_)
  refine lv_iload_n hx hb dX7_term_91 rfl (lv_at hl 0 rfl) ?_
  refine lv_bipush (v := 8) hx hb dX7_term_92 (by decide) ?_
  refine iicmp_geF (a := 0) (b := 8) (tgt := 149) hx hb (by decide) (by decide) dX7_term_94 (by decide) (by decide) ?_
  refine lv_aload_n hx hb dX7_term_97 rfl (lv_at hl 2 rfl) ?_
  refine va_get (D := D) (ci := 7) (v := .int 1) (C := RX7) (T := TX7) (N := 56) hx hb hts (fun _ h => List.mem_cons_of_mem _ (List.mem_append_right _ h)) hown hK hP 0 rfl rfl 24 (by decide) (hts (.fieldLink RX7 267 "CrownTableModel" "term" "I") (mem_i 1 rfl)) (fun _ h9 => h9) rfl dX7_term_98 ?_
  refine lv_iconst (v := 2) hx hb dX7_term_101 (by decide) ?_
  refine lv_irem hx hb dX7_term_102 (by decide) ?_
  refine lk_i (y := 1) (by decide) ?_
  refine iif_neT (a := 1) (tgt := 149) hx hb (by decide) dX7_term_103 (by decide) (by decide) ?_
  refine lv_aload_n hx hb dX7_term_149 rfl (lv_at hl 2 rfl) ?_
  refine va_get (D := D) (ci := 7) (v := .int 1) (C := RX7) (T := TX7) (N := 56) hx hb hts (fun _ h => List.mem_cons_of_mem _ (List.mem_append_right _ h)) hown hK hP 0 rfl rfl 24 (by decide) (hts (.fieldLink RX7 267 "CrownTableModel" "term" "I") (mem_i 1 rfl)) (fun _ h9 => h9) rfl dX7_term_150 ?_
  refine W.widen (k := 0) (n := 0) (by omega) (by omega) ?_
  exact W.iret (v := 1) hx hb hr (fun t ht hW => ⟨⟨_, (), rfl, rfl, trivial⟩, hS.F ht⟩) hS.2.2 dX7_term_153
