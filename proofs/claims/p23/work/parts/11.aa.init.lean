set_option maxHeartbeats 4000000 in
set_option maxRecDepth 100000 in
theorem c_X3_init (l : Launch) (D : va_G) (c : Nat → ClassId) (ts : Nat × Nat) (sz : Nat) (h0 : Nat) : Met l yX3_init wsX3_init ({ frames := 1, cells := 1, slots := 800, locals := 12 }) (va_Pc [.ref h0] (Pre0 D c ts [(h0, .inr (3, [.null, .int 0]))] sz)) (va_Qv (fun (u : (Nat → Nat) × (Nat → Nat → Int32) × (Nat → Nat → Int64)) => True) (fun u t => va_P D vwCl [(h0, .inr (3, [.ref ((u.1 0)), .int 0])), ((u.1 0), .inl (c 0, 800, .inl (fun _ => 0)))] t.heap ∧ va_D (va_A [(h0, .inr (3, [.null, .int 0]))] sz) [(h0, .inr (3, [.ref ((u.1 0)), .int 0])), ((u.1 0), .inl (c 0, 800, .inl (fun _ => 0)))]) (va_A [(h0, .inr (3, [.null, .int 0]))] sz)) 1 800 (va_A [(h0, .inr (3, [.null, .int 0]))] sz) := by
  refine Met.ofW (cc := cX3_init) (maxL := 1) (ret := none) (by decide) rfl ?_
  intro p e s m args below meth cd s₁ B hml hv
  obtain ⟨rfl, hsz, hP, hD0, hAm, hSt⟩ := hv
  have hx := B.exec
  have hb := B.bytes
  have hr := B.returns
  have hts := atoms_spec (ws := wsX3_init) B.pre
  have hown : s.vm.findClass RX3 = some m.cls := findClass_of_methodNamed B.named
  have hlocks := B.notSynchronized
  have hin : meth.name = "<init>" := (name_of_methodNamed B.named B.method).1
  subst hsz
  have hK := hAm.1
  have hD := hD0.self (sz := s.heap.size)
  generalize hAe : va_A [(h0, .inr (3, [.null, .int 0]))] s.heap.size = A at hD hSt ⊢
  have hA : ∀ q : Nat, s.heap.size ≤ q → A q := fun q h => by rw [← hAe]; exact Or.inr h
  have hS : va_S A s.heap s.heap [] := va_S.rf
  clear hD0 hAe
  have hl := lv_entry ([.ref h0]) (n := 1) (Nat.le_of_ble_eq_true rfl)
  rw [lg_entry_eq]
  generalize (lg_sl ([.ref h0]) ++ List.replicate (1 - (lg_sl ([.ref h0])).length) Slot.unset).toArray = ls at hl ⊢
  have hl : lv_has ls 1 [(0, .ref h0)] := hl
  refine lv_aload_n hx hb dX3_init_0 rfl (lv_at hl 0 rfl) ?_
  refine W.objInit hx hb hown (hts (.methodLink RX3 3 objectInit) (mem_i 1 rfl)) (hts (.instanceMethod objectInit) (mem_i 2 rfl)) (hts (.code objectInit ⟨#[0xb1]⟩ 1 none) (mem_i 3 rfl)) rfl (by rw [hml]; exact hl.1) rfl dX3_init_1 (Nat.le_of_ble_eq_true rfl) (Nat.le_of_ble_eq_true rfl) ?_
  refine W.eq (g2 := F0 m 4 ls []) rfl ?_
  refine lv_aload_n hx hb dX3_init_4 rfl (lv_at hl 0 rfl) ?_
  refine lv_sipush (v := 800) hx hb dX3_init_5 (by decide) ?_
  refine va_newa (atype := .byte) (ty := .byte) (N' := 800) (a0 := (800, .inl (fun _ => 0))) hx hb (hts (.arrayClass .byte) (mem_i 4 rfl)) rfl hK hP hD hS hA (fun cA => vp_cell_i cA 800 (fun _ => 0)) (by decide) (by decide +kernel) (by decide +kernel) (show 0 + 1 ≤ 1 by decide) (show 0 + 800 ≤ 800 by decide) dX3_init_8 (fun q_1 cq_1 H hK1 hP hD hS => ?_)
  obtain rfl : cq_1 = c 0 := nk_id hK1 0 rfl
  have hP : va_P D vwCl [(h0, .inr (3, [.null, .int 0])), (q_1, .inl (c 0, 800, .inl (fun _ => 0)))] H := hP
  have hD : va_D A [(h0, .inr (3, [.null, .int 0])), (q_1, .inl (c 0, 800, .inl (fun _ => 0)))] := hD
  refine W.widen (k := 1) (n := 800) (by omega) (by omega) ?_
  refine va_putF (D := D) (ci := 3) (v := .ref q_1) (ty := (.array .byte)) (C := RX3) (T := TX3) (N := 2) hx hb hts (fun _ h => List.mem_cons_of_mem _ (List.mem_append_right _ h)) tyX3 tyX3_ok nmX3 hown hK hP hD hS 0 rfl rfl 0 (by decide) (hts (.fieldLink RX3 9 "CrownTable$Tape" "bytes" "[B") (mem_i 5 rfl)) (fun _ h9 => h9) rfl hin rfl (by decide +kernel) rfl rfl (Nat.le_of_ble_eq_true rfl) dX3_init_10 (fun H locs hP hD hS => ?_)
  have hP : va_P D vwCl [(h0, .inr (3, [.ref q_1, .int 0])), (q_1, .inl (c 0, 800, .inl (fun _ => 0)))] H := hP
  have hD : va_D A [(h0, .inr (3, [.ref q_1, .int 0])), (q_1, .inl (c 0, 800, .inl (fun _ => 0)))] := hD
  have hP9 := hP.sub (ws' := [(h0, .inr (3, [.ref q_1, .int 0])), (q_1, .inl (c 0, 800, .inl (fun _ => 0)))]) [0, 1] rfl
  have hD9 := hD.sub (ws' := [(h0, .inr (3, [.ref q_1, .int 0])), (q_1, .inl (c 0, 800, .inl (fun _ => 0)))]) [0, 1] (by decide) rfl
  refine W.widen (k := 1) (n := 800) (by omega) (by omega) ?_
  exact W.vret hx hb hr (fun t ht hW => ⟨⟨(fun k => [q_1].getD k 0, fun k => [].getD k (fun _ => 0), fun k => [].getD k (fun _ => 0)), rfl, trivial, ⟨by rw [ht]; exact hP9, hD9⟩⟩, hS.F ht⟩) hS.2.2 dX3_init_13

set_option maxHeartbeats 4000000 in
set_option maxRecDepth 100000 in
theorem c_X1_init (l : Launch) (D : va_G) (c : Nat → ClassId) (ts : Nat × Nat) (sz : Nat) (h0 : Nat) (h1 : Nat) : Met l yX1_init wsX1_init ({ frames := 1, cells := 5, slots := 984, locals := 12 }) (va_Pc [.ref h0, .ref h1] (Pre0 D c ts [(h0, .inr (1, [.null, .int 0, .int 0, .int 0, .int 0, .int 0, .int 0, .int 0, .int 0, .null, .int 0, .null, .null, .null, .int 0, .null, .int 0]))] sz)) (va_Qv (fun (u : (Nat → Nat) × (Nat → Nat → Int32) × (Nat → Nat → Int64)) => True) (fun u t => va_P D vwCl [(h0, .inr (1, [.ref h1, .int 0, .int 0, .int 0, .int 0, .int 0, .int 0, .int 0, .int 0, .ref ((u.1 0)), .int 0, .ref ((u.1 1)), .ref ((u.1 2)), .ref ((u.1 3)), .int 0, .ref ((u.1 4)), .int 0])), ((u.1 0), .inl (c 1, 64, .inl (fun _ => 0))), ((u.1 1), .inl (c 1, 40, .inl (fun _ => 0))), ((u.1 2), .inl (c 1, 40, .inl (fun _ => 0))), ((u.1 3), .inl (c 1, 40, .inl (fun _ => 0))), ((u.1 4), .inl (c 1, 800, .inl (fun _ => 0)))] t.heap ∧ va_D (va_A [(h0, .inr (1, [.null, .int 0, .int 0, .int 0, .int 0, .int 0, .int 0, .int 0, .int 0, .null, .int 0, .null, .null, .null, .int 0, .null, .int 0]))] sz) [(h0, .inr (1, [.ref h1, .int 0, .int 0, .int 0, .int 0, .int 0, .int 0, .int 0, .int 0, .ref ((u.1 0)), .int 0, .ref ((u.1 1)), .ref ((u.1 2)), .ref ((u.1 3)), .int 0, .ref ((u.1 4)), .int 0])), ((u.1 0), .inl (c 1, 64, .inl (fun _ => 0))), ((u.1 1), .inl (c 1, 40, .inl (fun _ => 0))), ((u.1 2), .inl (c 1, 40, .inl (fun _ => 0))), ((u.1 3), .inl (c 1, 40, .inl (fun _ => 0))), ((u.1 4), .inl (c 1, 800, .inl (fun _ => 0)))]) (va_A [(h0, .inr (1, [.null, .int 0, .int 0, .int 0, .int 0, .int 0, .int 0, .int 0, .int 0, .null, .int 0, .null, .null, .null, .int 0, .null, .int 0]))] sz)) 5 984 (va_A [(h0, .inr (1, [.null, .int 0, .int 0, .int 0, .int 0, .int 0, .int 0, .int 0, .int 0, .null, .int 0, .null, .null, .null, .int 0, .null, .int 0]))] sz) := by
  refine Met.ofW (cc := cX1_init) (maxL := 2) (ret := none) (by decide) rfl ?_
  intro p e s m args below meth cd s₁ B hml hv
  obtain ⟨rfl, hsz, hP, hD0, hAm, hSt⟩ := hv
  have hx := B.exec
  have hb := B.bytes
  have hr := B.returns
  have hts := atoms_spec (ws := wsX1_init) B.pre
  have hown : s.vm.findClass RX1 = some m.cls := findClass_of_methodNamed B.named
  have hlocks := B.notSynchronized
  have hin : meth.name = "<init>" := (name_of_methodNamed B.named B.method).1
  subst hsz
  have hK := hAm.1
  have hD := hD0.self (sz := s.heap.size)
  generalize hAe : va_A [(h0, .inr (1, [.null, .int 0, .int 0, .int 0, .int 0, .int 0, .int 0, .int 0, .int 0, .null, .int 0, .null, .null, .null, .int 0, .null, .int 0]))] s.heap.size = A at hD hSt ⊢
  have hA : ∀ q : Nat, s.heap.size ≤ q → A q := fun q h => by rw [← hAe]; exact Or.inr h
  have hS : va_S A s.heap s.heap [] := va_S.rf
  clear hD0 hAe
  have hl := lv_entry ([.ref h0, .ref h1]) (n := 2) (Nat.le_of_ble_eq_true rfl)
  rw [lg_entry_eq]
  generalize (lg_sl ([.ref h0, .ref h1]) ++ List.replicate (2 - (lg_sl ([.ref h0, .ref h1])).length) Slot.unset).toArray = ls at hl ⊢
  have hl : lv_has ls 2 [(0, .ref h0), (1, .ref h1)] := hl
  refine lv_aload_n hx hb dX1_init_0 rfl (lv_at hl 0 rfl) ?_
  refine W.objInit hx hb hown (hts (.methodLink RX1 3 objectInit) (mem_i 1 rfl)) (hts (.instanceMethod objectInit) (mem_i 2 rfl)) (hts (.code objectInit ⟨#[0xb1]⟩ 1 none) (mem_i 3 rfl)) rfl (by rw [hml]; exact hl.1) rfl dX1_init_1 (Nat.le_of_ble_eq_true rfl) (Nat.le_of_ble_eq_true rfl) ?_
  refine W.eq (g2 := F0 m 4 ls []) rfl ?_
  refine lv_aload_n hx hb dX1_init_4 rfl (lv_at hl 0 rfl) ?_
  refine lv_bipush (v := 64) hx hb dX1_init_5 (by decide) ?_
  refine va_newa (atype := .int) (ty := .int) (N' := 64) (a0 := (64, .inl (fun _ => 0))) hx hb (hts (.arrayClass .int) (mem_i 4 rfl)) rfl hK hP hD hS hA (fun cA => vp_cell_i cA 64 (fun _ => 0)) (by decide) (by decide +kernel) (by decide +kernel) (show 0 + 1 ≤ 5 by decide) (show 0 + 64 ≤ 984 by decide) dX1_init_7 (fun q_1 cq_1 H hK1 hP hD hS => ?_)
  obtain rfl : cq_1 = c 1 := nk_id hK1 1 rfl
  have hP : va_P D vwCl [(h0, .inr (1, [.null, .int 0, .int 0, .int 0, .int 0, .int 0, .int 0, .int 0, .int 0, .null, .int 0, .null, .null, .null, .int 0, .null, .int 0])), (q_1, .inl (c 1, 64, .inl (fun _ => 0)))] H := hP
  have hD : va_D A [(h0, .inr (1, [.null, .int 0, .int 0, .int 0, .int 0, .int 0, .int 0, .int 0, .int 0, .null, .int 0, .null, .null, .null, .int 0, .null, .int 0])), (q_1, .inl (c 1, 64, .inl (fun _ => 0)))] := hD
  refine W.widen (k := 1) (n := 64) (by omega) (by omega) ?_
  refine va_putF (D := D) (ci := 1) (v := .ref q_1) (ty := (.array .int)) (C := RX1) (T := TX1) (N := 17) hx hb hts (fun _ h => List.mem_cons_of_mem _ (List.mem_append_right _ h)) tyX1 tyX1_ok nmX1 hown hK hP hD hS 0 rfl rfl 9 (by decide) (hts (.fieldLink RX1 11 "CrownTable$Reader" "pile" "[I") (mem_i 5 rfl)) (fun _ h9 => h9) rfl hin rfl (by decide +kernel) rfl rfl (Nat.le_of_ble_eq_true rfl) dX1_init_9 (fun H locs hP hD hS => ?_)
  have hP : va_P D vwCl [(h0, .inr (1, [.null, .int 0, .int 0, .int 0, .int 0, .int 0, .int 0, .int 0, .int 0, .ref q_1, .int 0, .null, .null, .null, .int 0, .null, .int 0])), (q_1, .inl (c 1, 64, .inl (fun _ => 0)))] H := hP
  have hD : va_D A [(h0, .inr (1, [.null, .int 0, .int 0, .int 0, .int 0, .int 0, .int 0, .int 0, .int 0, .ref q_1, .int 0, .null, .null, .null, .int 0, .null, .int 0])), (q_1, .inl (c 1, 64, .inl (fun _ => 0)))] := hD
  refine lv_aload_n hx hb dX1_init_12 rfl (lv_at hl 0 rfl) ?_
  refine lv_bipush (v := 40) hx hb dX1_init_13 (by decide) ?_
  refine va_newa (atype := .int) (ty := .int) (N' := 40) (a0 := (40, .inl (fun _ => 0))) hx hb (hts (.arrayClass .int) (mem_i 4 rfl)) rfl hK hP hD hS hA (fun cA => vp_cell_i cA 40 (fun _ => 0)) (by decide) (by decide +kernel) (by decide +kernel) (show 1 + 1 ≤ 5 by decide) (show 64 + 40 ≤ 984 by decide) dX1_init_15 (fun q_2 cq_2 H hK1 hP hD hS => ?_)
  obtain rfl : cq_2 = c 1 := nk_id hK1 1 rfl
  have hP : va_P D vwCl [(h0, .inr (1, [.null, .int 0, .int 0, .int 0, .int 0, .int 0, .int 0, .int 0, .int 0, .ref q_1, .int 0, .null, .null, .null, .int 0, .null, .int 0])), (q_1, .inl (c 1, 64, .inl (fun _ => 0))), (q_2, .inl (c 1, 40, .inl (fun _ => 0)))] H := hP
  have hD : va_D A [(h0, .inr (1, [.null, .int 0, .int 0, .int 0, .int 0, .int 0, .int 0, .int 0, .int 0, .ref q_1, .int 0, .null, .null, .null, .int 0, .null, .int 0])), (q_1, .inl (c 1, 64, .inl (fun _ => 0))), (q_2, .inl (c 1, 40, .inl (fun _ => 0)))] := hD
  refine W.widen (k := 2) (n := 104) (by omega) (by omega) ?_
  refine va_putF (D := D) (ci := 1) (v := .ref q_2) (ty := (.array .int)) (C := RX1) (T := TX1) (N := 17) hx hb hts (fun _ h => List.mem_cons_of_mem _ (List.mem_append_right _ h)) tyX1 tyX1_ok nmX1 hown hK hP hD hS 0 rfl rfl 11 (by decide) (hts (.fieldLink RX1 15 "CrownTable$Reader" "acts" "[I") (mem_i 6 rfl)) (fun _ h9 => h9) rfl hin rfl (by decide +kernel) rfl rfl (Nat.le_of_ble_eq_true rfl) dX1_init_17 (fun H locs hP hD hS => ?_)
  have hP : va_P D vwCl [(h0, .inr (1, [.null, .int 0, .int 0, .int 0, .int 0, .int 0, .int 0, .int 0, .int 0, .ref q_1, .int 0, .ref q_2, .null, .null, .int 0, .null, .int 0])), (q_1, .inl (c 1, 64, .inl (fun _ => 0))), (q_2, .inl (c 1, 40, .inl (fun _ => 0)))] H := hP
  have hD : va_D A [(h0, .inr (1, [.null, .int 0, .int 0, .int 0, .int 0, .int 0, .int 0, .int 0, .int 0, .ref q_1, .int 0, .ref q_2, .null, .null, .int 0, .null, .int 0])), (q_1, .inl (c 1, 64, .inl (fun _ => 0))), (q_2, .inl (c 1, 40, .inl (fun _ => 0)))] := hD
  refine lv_aload_n hx hb dX1_init_20 rfl (lv_at hl 0 rfl) ?_
  refine lv_bipush (v := 40) hx hb dX1_init_21 (by decide) ?_
  refine va_newa (atype := .int) (ty := .int) (N' := 40) (a0 := (40, .inl (fun _ => 0))) hx hb (hts (.arrayClass .int) (mem_i 4 rfl)) rfl hK hP hD hS hA (fun cA => vp_cell_i cA 40 (fun _ => 0)) (by decide) (by decide +kernel) (by decide +kernel) (show 2 + 1 ≤ 5 by decide) (show 104 + 40 ≤ 984 by decide) dX1_init_23 (fun q_3 cq_3 H hK1 hP hD hS => ?_)
  obtain rfl : cq_3 = c 1 := nk_id hK1 1 rfl
  have hP : va_P D vwCl [(h0, .inr (1, [.null, .int 0, .int 0, .int 0, .int 0, .int 0, .int 0, .int 0, .int 0, .ref q_1, .int 0, .ref q_2, .null, .null, .int 0, .null, .int 0])), (q_1, .inl (c 1, 64, .inl (fun _ => 0))), (q_2, .inl (c 1, 40, .inl (fun _ => 0))), (q_3, .inl (c 1, 40, .inl (fun _ => 0)))] H := hP
  have hD : va_D A [(h0, .inr (1, [.null, .int 0, .int 0, .int 0, .int 0, .int 0, .int 0, .int 0, .int 0, .ref q_1, .int 0, .ref q_2, .null, .null, .int 0, .null, .int 0])), (q_1, .inl (c 1, 64, .inl (fun _ => 0))), (q_2, .inl (c 1, 40, .inl (fun _ => 0))), (q_3, .inl (c 1, 40, .inl (fun _ => 0)))] := hD
  refine W.widen (k := 3) (n := 144) (by omega) (by omega) ?_
  refine va_putF (D := D) (ci := 1) (v := .ref q_3) (ty := (.array .int)) (C := RX1) (T := TX1) (N := 17) hx hb hts (fun _ h => List.mem_cons_of_mem _ (List.mem_append_right _ h)) tyX1 tyX1_ok nmX1 hown hK hP hD hS 0 rfl rfl 12 (by decide) (hts (.fieldLink RX1 18 "CrownTable$Reader" "shares" "[I") (mem_i 7 rfl)) (fun _ h9 => h9) rfl hin rfl (by decide +kernel) rfl rfl (Nat.le_of_ble_eq_true rfl) dX1_init_25 (fun H locs hP hD hS => ?_)
  have hP : va_P D vwCl [(h0, .inr (1, [.null, .int 0, .int 0, .int 0, .int 0, .int 0, .int 0, .int 0, .int 0, .ref q_1, .int 0, .ref q_2, .ref q_3, .null, .int 0, .null, .int 0])), (q_1, .inl (c 1, 64, .inl (fun _ => 0))), (q_2, .inl (c 1, 40, .inl (fun _ => 0))), (q_3, .inl (c 1, 40, .inl (fun _ => 0)))] H := hP
  have hD : va_D A [(h0, .inr (1, [.null, .int 0, .int 0, .int 0, .int 0, .int 0, .int 0, .int 0, .int 0, .ref q_1, .int 0, .ref q_2, .ref q_3, .null, .int 0, .null, .int 0])), (q_1, .inl (c 1, 64, .inl (fun _ => 0))), (q_2, .inl (c 1, 40, .inl (fun _ => 0))), (q_3, .inl (c 1, 40, .inl (fun _ => 0)))] := hD
  refine lv_aload_n hx hb dX1_init_28 rfl (lv_at hl 0 rfl) ?_
  refine lv_bipush (v := 40) hx hb dX1_init_29 (by decide) ?_
  refine va_newa (atype := .int) (ty := .int) (N' := 40) (a0 := (40, .inl (fun _ => 0))) hx hb (hts (.arrayClass .int) (mem_i 4 rfl)) rfl hK hP hD hS hA (fun cA => vp_cell_i cA 40 (fun _ => 0)) (by decide) (by decide +kernel) (by decide +kernel) (show 3 + 1 ≤ 5 by decide) (show 144 + 40 ≤ 984 by decide) dX1_init_31 (fun q_4 cq_4 H hK1 hP hD hS => ?_)
  obtain rfl : cq_4 = c 1 := nk_id hK1 1 rfl
  have hP : va_P D vwCl [(h0, .inr (1, [.null, .int 0, .int 0, .int 0, .int 0, .int 0, .int 0, .int 0, .int 0, .ref q_1, .int 0, .ref q_2, .ref q_3, .null, .int 0, .null, .int 0])), (q_1, .inl (c 1, 64, .inl (fun _ => 0))), (q_2, .inl (c 1, 40, .inl (fun _ => 0))), (q_3, .inl (c 1, 40, .inl (fun _ => 0))), (q_4, .inl (c 1, 40, .inl (fun _ => 0)))] H := hP
  have hD : va_D A [(h0, .inr (1, [.null, .int 0, .int 0, .int 0, .int 0, .int 0, .int 0, .int 0, .int 0, .ref q_1, .int 0, .ref q_2, .ref q_3, .null, .int 0, .null, .int 0])), (q_1, .inl (c 1, 64, .inl (fun _ => 0))), (q_2, .inl (c 1, 40, .inl (fun _ => 0))), (q_3, .inl (c 1, 40, .inl (fun _ => 0))), (q_4, .inl (c 1, 40, .inl (fun _ => 0)))] := hD
  refine W.widen (k := 4) (n := 184) (by omega) (by omega) ?_
  refine va_putF (D := D) (ci := 1) (v := .ref q_4) (ty := (.array .int)) (C := RX1) (T := TX1) (N := 17) hx hb hts (fun _ h => List.mem_cons_of_mem _ (List.mem_append_right _ h)) tyX1 tyX1_ok nmX1 hown hK hP hD hS 0 rfl rfl 13 (by decide) (hts (.fieldLink RX1 21 "CrownTable$Reader" "starts" "[I") (mem_i 8 rfl)) (fun _ h9 => h9) rfl hin rfl (by decide +kernel) rfl rfl (Nat.le_of_ble_eq_true rfl) dX1_init_33 (fun H locs hP hD hS => ?_)
  have hP : va_P D vwCl [(h0, .inr (1, [.null, .int 0, .int 0, .int 0, .int 0, .int 0, .int 0, .int 0, .int 0, .ref q_1, .int 0, .ref q_2, .ref q_3, .ref q_4, .int 0, .null, .int 0])), (q_1, .inl (c 1, 64, .inl (fun _ => 0))), (q_2, .inl (c 1, 40, .inl (fun _ => 0))), (q_3, .inl (c 1, 40, .inl (fun _ => 0))), (q_4, .inl (c 1, 40, .inl (fun _ => 0)))] H := hP
  have hD : va_D A [(h0, .inr (1, [.null, .int 0, .int 0, .int 0, .int 0, .int 0, .int 0, .int 0, .int 0, .ref q_1, .int 0, .ref q_2, .ref q_3, .ref q_4, .int 0, .null, .int 0])), (q_1, .inl (c 1, 64, .inl (fun _ => 0))), (q_2, .inl (c 1, 40, .inl (fun _ => 0))), (q_3, .inl (c 1, 40, .inl (fun _ => 0))), (q_4, .inl (c 1, 40, .inl (fun _ => 0)))] := hD
  refine lv_aload_n hx hb dX1_init_36 rfl (lv_at hl 0 rfl) ?_
  refine lv_sipush (v := 800) hx hb dX1_init_37 (by decide) ?_
  refine va_newa (atype := .int) (ty := .int) (N' := 800) (a0 := (800, .inl (fun _ => 0))) hx hb (hts (.arrayClass .int) (mem_i 4 rfl)) rfl hK hP hD hS hA (fun cA => vp_cell_i cA 800 (fun _ => 0)) (by decide) (by decide +kernel) (by decide +kernel) (show 4 + 1 ≤ 5 by decide) (show 184 + 800 ≤ 984 by decide) dX1_init_40 (fun q_5 cq_5 H hK1 hP hD hS => ?_)
  obtain rfl : cq_5 = c 1 := nk_id hK1 1 rfl
  have hP : va_P D vwCl [(h0, .inr (1, [.null, .int 0, .int 0, .int 0, .int 0, .int 0, .int 0, .int 0, .int 0, .ref q_1, .int 0, .ref q_2, .ref q_3, .ref q_4, .int 0, .null, .int 0])), (q_1, .inl (c 1, 64, .inl (fun _ => 0))), (q_2, .inl (c 1, 40, .inl (fun _ => 0))), (q_3, .inl (c 1, 40, .inl (fun _ => 0))), (q_4, .inl (c 1, 40, .inl (fun _ => 0))), (q_5, .inl (c 1, 800, .inl (fun _ => 0)))] H := hP
  have hD : va_D A [(h0, .inr (1, [.null, .int 0, .int 0, .int 0, .int 0, .int 0, .int 0, .int 0, .int 0, .ref q_1, .int 0, .ref q_2, .ref q_3, .ref q_4, .int 0, .null, .int 0])), (q_1, .inl (c 1, 64, .inl (fun _ => 0))), (q_2, .inl (c 1, 40, .inl (fun _ => 0))), (q_3, .inl (c 1, 40, .inl (fun _ => 0))), (q_4, .inl (c 1, 40, .inl (fun _ => 0))), (q_5, .inl (c 1, 800, .inl (fun _ => 0)))] := hD
  refine W.widen (k := 5) (n := 984) (by omega) (by omega) ?_
  refine va_putF (D := D) (ci := 1) (v := .ref q_5) (ty := (.array .int)) (C := RX1) (T := TX1) (N := 17) hx hb hts (fun _ h => List.mem_cons_of_mem _ (List.mem_append_right _ h)) tyX1 tyX1_ok nmX1 hown hK hP hD hS 0 rfl rfl 15 (by decide) (hts (.fieldLink RX1 24 "CrownTable$Reader" "code" "[I") (mem_i 9 rfl)) (fun _ h9 => h9) rfl hin rfl (by decide +kernel) rfl rfl (Nat.le_of_ble_eq_true rfl) dX1_init_42 (fun H locs hP hD hS => ?_)
  have hP : va_P D vwCl [(h0, .inr (1, [.null, .int 0, .int 0, .int 0, .int 0, .int 0, .int 0, .int 0, .int 0, .ref q_1, .int 0, .ref q_2, .ref q_3, .ref q_4, .int 0, .ref q_5, .int 0])), (q_1, .inl (c 1, 64, .inl (fun _ => 0))), (q_2, .inl (c 1, 40, .inl (fun _ => 0))), (q_3, .inl (c 1, 40, .inl (fun _ => 0))), (q_4, .inl (c 1, 40, .inl (fun _ => 0))), (q_5, .inl (c 1, 800, .inl (fun _ => 0)))] H := hP
  have hD : va_D A [(h0, .inr (1, [.null, .int 0, .int 0, .int 0, .int 0, .int 0, .int 0, .int 0, .int 0, .ref q_1, .int 0, .ref q_2, .ref q_3, .ref q_4, .int 0, .ref q_5, .int 0])), (q_1, .inl (c 1, 64, .inl (fun _ => 0))), (q_2, .inl (c 1, 40, .inl (fun _ => 0))), (q_3, .inl (c 1, 40, .inl (fun _ => 0))), (q_4, .inl (c 1, 40, .inl (fun _ => 0))), (q_5, .inl (c 1, 800, .inl (fun _ => 0)))] := hD
  refine lv_aload_n hx hb dX1_init_45 rfl (lv_at hl 0 rfl) ?_
  refine lv_aload_n hx hb dX1_init_46 rfl (lv_at hl 1 rfl) ?_
  refine va_putF (D := D) (ci := 1) (v := .ref h1) (ty := (.object "CrownTable$Tape")) (C := RX1) (T := TX1) (N := 17) hx hb hts (fun _ h => List.mem_cons_of_mem _ (List.mem_append_right _ h)) tyX1 tyX1_ok nmX1 hown hK hP hD hS 0 rfl rfl 0 (by decide) (hts (.fieldLink RX1 27 "CrownTable$Reader" "tape" "LCrownTable$Tape;") (mem_i 10 rfl)) (fun _ h9 => h9) rfl hin rfl (by decide +kernel) rfl rfl (Nat.le_of_ble_eq_true rfl) dX1_init_47 (fun H locs hP hD hS => ?_)
  have hP : va_P D vwCl [(h0, .inr (1, [.ref h1, .int 0, .int 0, .int 0, .int 0, .int 0, .int 0, .int 0, .int 0, .ref q_1, .int 0, .ref q_2, .ref q_3, .ref q_4, .int 0, .ref q_5, .int 0])), (q_1, .inl (c 1, 64, .inl (fun _ => 0))), (q_2, .inl (c 1, 40, .inl (fun _ => 0))), (q_3, .inl (c 1, 40, .inl (fun _ => 0))), (q_4, .inl (c 1, 40, .inl (fun _ => 0))), (q_5, .inl (c 1, 800, .inl (fun _ => 0)))] H := hP
  have hD : va_D A [(h0, .inr (1, [.ref h1, .int 0, .int 0, .int 0, .int 0, .int 0, .int 0, .int 0, .int 0, .ref q_1, .int 0, .ref q_2, .ref q_3, .ref q_4, .int 0, .ref q_5, .int 0])), (q_1, .inl (c 1, 64, .inl (fun _ => 0))), (q_2, .inl (c 1, 40, .inl (fun _ => 0))), (q_3, .inl (c 1, 40, .inl (fun _ => 0))), (q_4, .inl (c 1, 40, .inl (fun _ => 0))), (q_5, .inl (c 1, 800, .inl (fun _ => 0)))] := hD
  have hP9 := hP.sub (ws' := [(h0, .inr (1, [.ref h1, .int 0, .int 0, .int 0, .int 0, .int 0, .int 0, .int 0, .int 0, .ref q_1, .int 0, .ref q_2, .ref q_3, .ref q_4, .int 0, .ref q_5, .int 0])), (q_1, .inl (c 1, 64, .inl (fun _ => 0))), (q_2, .inl (c 1, 40, .inl (fun _ => 0))), (q_3, .inl (c 1, 40, .inl (fun _ => 0))), (q_4, .inl (c 1, 40, .inl (fun _ => 0))), (q_5, .inl (c 1, 800, .inl (fun _ => 0)))]) [0, 1, 2, 3, 4, 5] rfl
  have hD9 := hD.sub (ws' := [(h0, .inr (1, [.ref h1, .int 0, .int 0, .int 0, .int 0, .int 0, .int 0, .int 0, .int 0, .ref q_1, .int 0, .ref q_2, .ref q_3, .ref q_4, .int 0, .ref q_5, .int 0])), (q_1, .inl (c 1, 64, .inl (fun _ => 0))), (q_2, .inl (c 1, 40, .inl (fun _ => 0))), (q_3, .inl (c 1, 40, .inl (fun _ => 0))), (q_4, .inl (c 1, 40, .inl (fun _ => 0))), (q_5, .inl (c 1, 800, .inl (fun _ => 0)))]) [0, 1, 2, 3, 4, 5] (by decide) rfl
  refine W.widen (k := 5) (n := 984) (by omega) (by omega) ?_
  exact W.vret hx hb hr (fun t ht hW => ⟨⟨(fun k => [q_1, q_2, q_3, q_4, q_5].getD k 0, fun k => [].getD k (fun _ => 0), fun k => [].getD k (fun _ => 0)), rfl, trivial, ⟨by rw [ht]; exact hP9, hD9⟩⟩, hS.F ht⟩) hS.2.2 dX1_init_50

set_option maxHeartbeats 4000000 in
set_option maxRecDepth 100000 in
theorem c_X5_init (l : Launch) (D : va_G) (c : Nat → ClassId) (ts : Nat × Nat) (sz : Nat) (h0 : Nat) : Met l yX5_init wsX5_init ({ frames := 1, cells := 2, slots := 74, locals := 12 }) (va_Pc [.ref h0] (Pre0 D c ts [(h0, .inr (5, [.null, .null, .int 0]))] sz)) (va_Qv (fun (u : (Nat → Nat) × (Nat → Nat → Int32) × (Nat → Nat → Int64)) => True) (fun u t => va_P D vwCl [(h0, .inr (5, [.ref ((u.1 0)), .ref ((u.1 1)), .int 0])), ((u.1 0), .inl (c 2, 10, .inr (.inl (fun _ => 0)))), ((u.1 1), .inl (c 2, 64, .inr (.inl (fun _ => 0))))] t.heap ∧ va_D (va_A [(h0, .inr (5, [.null, .null, .int 0]))] sz) [(h0, .inr (5, [.ref ((u.1 0)), .ref ((u.1 1)), .int 0])), ((u.1 0), .inl (c 2, 10, .inr (.inl (fun _ => 0)))), ((u.1 1), .inl (c 2, 64, .inr (.inl (fun _ => 0))))]) (va_A [(h0, .inr (5, [.null, .null, .int 0]))] sz)) 2 74 (va_A [(h0, .inr (5, [.null, .null, .int 0]))] sz) := by
  refine Met.ofW (cc := cX5_init) (maxL := 1) (ret := none) (by decide) rfl ?_
  intro p e s m args below meth cd s₁ B hml hv
  obtain ⟨rfl, hsz, hP, hD0, hAm, hSt⟩ := hv
  have hx := B.exec
  have hb := B.bytes
  have hr := B.returns
  have hts := atoms_spec (ws := wsX5_init) B.pre
  have hown : s.vm.findClass RX5 = some m.cls := findClass_of_methodNamed B.named
  have hlocks := B.notSynchronized
  have hin : meth.name = "<init>" := (name_of_methodNamed B.named B.method).1
  subst hsz
  have hK := hAm.1
  have hD := hD0.self (sz := s.heap.size)
  generalize hAe : va_A [(h0, .inr (5, [.null, .null, .int 0]))] s.heap.size = A at hD hSt ⊢
  have hA : ∀ q : Nat, s.heap.size ≤ q → A q := fun q h => by rw [← hAe]; exact Or.inr h
  have hS : va_S A s.heap s.heap [] := va_S.rf
  clear hD0 hAe
  have hl := lv_entry ([.ref h0]) (n := 1) (Nat.le_of_ble_eq_true rfl)
  rw [lg_entry_eq]
  generalize (lg_sl ([.ref h0]) ++ List.replicate (1 - (lg_sl ([.ref h0])).length) Slot.unset).toArray = ls at hl ⊢
  have hl : lv_has ls 1 [(0, .ref h0)] := hl
  refine lv_aload_n hx hb dX5_init_0 rfl (lv_at hl 0 rfl) ?_
  refine W.objInit hx hb hown (hts (.methodLink RX5 3 objectInit) (mem_i 1 rfl)) (hts (.instanceMethod objectInit) (mem_i 2 rfl)) (hts (.code objectInit ⟨#[0xb1]⟩ 1 none) (mem_i 3 rfl)) rfl (by rw [hml]; exact hl.1) rfl dX5_init_1 (Nat.le_of_ble_eq_true rfl) (Nat.le_of_ble_eq_true rfl) ?_
  refine W.eq (g2 := F0 m 4 ls []) rfl ?_
  refine lv_aload_n hx hb dX5_init_4 rfl (lv_at hl 0 rfl) ?_
  refine lv_bipush (v := 10) hx hb dX5_init_5 (by decide) ?_
  refine va_newa (atype := .long) (ty := .long) (N' := 10) (a0 := (10, .inr (.inl (fun _ => 0)))) hx hb (hts (.arrayClass .long) (mem_i 4 rfl)) rfl hK hP hD hS hA (fun cA => vp_cell_l cA 10 (fun _ => 0)) (by decide) (by decide +kernel) (by decide +kernel) (show 0 + 1 ≤ 2 by decide) (show 0 + 10 ≤ 74 by decide) dX5_init_7 (fun q_1 cq_1 H hK1 hP hD hS => ?_)
  obtain rfl : cq_1 = c 2 := nk_id hK1 2 rfl
  have hP : va_P D vwCl [(h0, .inr (5, [.null, .null, .int 0])), (q_1, .inl (c 2, 10, .inr (.inl (fun _ => 0))))] H := hP
  have hD : va_D A [(h0, .inr (5, [.null, .null, .int 0])), (q_1, .inl (c 2, 10, .inr (.inl (fun _ => 0))))] := hD
  refine W.widen (k := 1) (n := 10) (by omega) (by omega) ?_
  refine va_putF (D := D) (ci := 5) (v := .ref q_1) (ty := (.array .long)) (C := RX5) (T := TX5) (N := 3) hx hb hts (fun _ h => List.mem_cons_of_mem _ (List.mem_append_right _ h)) tyX5 tyX5_ok nmX5 hown hK hP hD hS 0 rfl rfl 0 (by decide) (hts (.fieldLink RX5 9 "CrownTable$Weigher" "facts" "[J") (mem_i 5 rfl)) (fun _ h9 => h9) rfl hin rfl (by decide +kernel) rfl rfl (Nat.le_of_ble_eq_true rfl) dX5_init_9 (fun H locs hP hD hS => ?_)
  have hP : va_P D vwCl [(h0, .inr (5, [.ref q_1, .null, .int 0])), (q_1, .inl (c 2, 10, .inr (.inl (fun _ => 0))))] H := hP
  have hD : va_D A [(h0, .inr (5, [.ref q_1, .null, .int 0])), (q_1, .inl (c 2, 10, .inr (.inl (fun _ => 0))))] := hD
  refine lv_aload_n hx hb dX5_init_12 rfl (lv_at hl 0 rfl) ?_
  refine lv_bipush (v := 64) hx hb dX5_init_13 (by decide) ?_
  refine va_newa (atype := .long) (ty := .long) (N' := 64) (a0 := (64, .inr (.inl (fun _ => 0)))) hx hb (hts (.arrayClass .long) (mem_i 4 rfl)) rfl hK hP hD hS hA (fun cA => vp_cell_l cA 64 (fun _ => 0)) (by decide) (by decide +kernel) (by decide +kernel) (show 1 + 1 ≤ 2 by decide) (show 10 + 64 ≤ 74 by decide) dX5_init_15 (fun q_2 cq_2 H hK1 hP hD hS => ?_)
  obtain rfl : cq_2 = c 2 := nk_id hK1 2 rfl
  have hP : va_P D vwCl [(h0, .inr (5, [.ref q_1, .null, .int 0])), (q_1, .inl (c 2, 10, .inr (.inl (fun _ => 0)))), (q_2, .inl (c 2, 64, .inr (.inl (fun _ => 0))))] H := hP
  have hD : va_D A [(h0, .inr (5, [.ref q_1, .null, .int 0])), (q_1, .inl (c 2, 10, .inr (.inl (fun _ => 0)))), (q_2, .inl (c 2, 64, .inr (.inl (fun _ => 0))))] := hD
  refine W.widen (k := 2) (n := 74) (by omega) (by omega) ?_
  refine va_putF (D := D) (ci := 5) (v := .ref q_2) (ty := (.array .long)) (C := RX5) (T := TX5) (N := 3) hx hb hts (fun _ h => List.mem_cons_of_mem _ (List.mem_append_right _ h)) tyX5 tyX5_ok nmX5 hown hK hP hD hS 0 rfl rfl 1 (by decide) (hts (.fieldLink RX5 15 "CrownTable$Weigher" "pile" "[J") (mem_i 6 rfl)) (fun _ h9 => h9) rfl hin rfl (by decide +kernel) rfl rfl (Nat.le_of_ble_eq_true rfl) dX5_init_17 (fun H locs hP hD hS => ?_)
  have hP : va_P D vwCl [(h0, .inr (5, [.ref q_1, .ref q_2, .int 0])), (q_1, .inl (c 2, 10, .inr (.inl (fun _ => 0)))), (q_2, .inl (c 2, 64, .inr (.inl (fun _ => 0))))] H := hP
  have hD : va_D A [(h0, .inr (5, [.ref q_1, .ref q_2, .int 0])), (q_1, .inl (c 2, 10, .inr (.inl (fun _ => 0)))), (q_2, .inl (c 2, 64, .inr (.inl (fun _ => 0))))] := hD
  have hP9 := hP.sub (ws' := [(h0, .inr (5, [.ref q_1, .ref q_2, .int 0])), (q_1, .inl (c 2, 10, .inr (.inl (fun _ => 0)))), (q_2, .inl (c 2, 64, .inr (.inl (fun _ => 0))))]) [0, 1, 2] rfl
  have hD9 := hD.sub (ws' := [(h0, .inr (5, [.ref q_1, .ref q_2, .int 0])), (q_1, .inl (c 2, 10, .inr (.inl (fun _ => 0)))), (q_2, .inl (c 2, 64, .inr (.inl (fun _ => 0))))]) [0, 1, 2] (by decide) rfl
  refine W.widen (k := 2) (n := 74) (by omega) (by omega) ?_
  exact W.vret hx hb hr (fun t ht hW => ⟨⟨(fun k => [q_1, q_2].getD k 0, fun k => [].getD k (fun _ => 0), fun k => [].getD k (fun _ => 0)), rfl, trivial, ⟨by rw [ht]; exact hP9, hD9⟩⟩, hS.F ht⟩) hS.2.2 dX5_init_20

set_option maxHeartbeats 4000000 in
set_option maxRecDepth 100000 in
theorem c_X2_init (l : Launch) (D : va_G) (c : Nat → ClassId) (ts : Nat × Nat) (sz : Nat) (h0 : Nat) : Met l yX2_init wsX2_init ({ frames := 1, cells := 1, slots := 32, locals := 14 }) (va_Pc [.ref h0, .int 2, .int 40] (Pre0 D c ts [(h0, .inr (2, [.int 0, .int 0, .null, .int 0]))] sz)) (va_Qv (fun (u : (Nat → Nat) × (Nat → Nat → Int32) × (Nat → Nat → Int64)) => True) (fun u t => va_P D vwCl [(h0, .inr (2, [.int 2, .int 40, .ref ((u.1 0)), .int 0])), ((u.1 0), .inl (c 1, 32, .inl (fun _ => 0)))] t.heap ∧ va_D (va_A [(h0, .inr (2, [.int 0, .int 0, .null, .int 0]))] sz) [(h0, .inr (2, [.int 2, .int 40, .ref ((u.1 0)), .int 0])), ((u.1 0), .inl (c 1, 32, .inl (fun _ => 0)))]) (va_A [(h0, .inr (2, [.int 0, .int 0, .null, .int 0]))] sz)) 1 32 (va_A [(h0, .inr (2, [.int 0, .int 0, .null, .int 0]))] sz) := by
  refine Met.ofW (cc := cX2_init) (maxL := 3) (ret := none) (by decide) rfl ?_
  intro p e s m args below meth cd s₁ B hml hv
  obtain ⟨rfl, hsz, hP, hD0, hAm, hSt⟩ := hv
  have hx := B.exec
  have hb := B.bytes
  have hr := B.returns
  have hts := atoms_spec (ws := wsX2_init) B.pre
  have hown : s.vm.findClass RX2 = some m.cls := findClass_of_methodNamed B.named
  have hlocks := B.notSynchronized
  have hin : meth.name = "<init>" := (name_of_methodNamed B.named B.method).1
  subst hsz
  have hK := hAm.1
  have hD := hD0.self (sz := s.heap.size)
  generalize hAe : va_A [(h0, .inr (2, [.int 0, .int 0, .null, .int 0]))] s.heap.size = A at hD hSt ⊢
  have hA : ∀ q : Nat, s.heap.size ≤ q → A q := fun q h => by rw [← hAe]; exact Or.inr h
  have hS : va_S A s.heap s.heap [] := va_S.rf
  clear hD0 hAe
  have hl := lv_entry ([.ref h0, .int 2, .int 40]) (n := 3) (Nat.le_of_ble_eq_true rfl)
  rw [lg_entry_eq]
  generalize (lg_sl ([.ref h0, .int 2, .int 40]) ++ List.replicate (3 - (lg_sl ([.ref h0, .int 2, .int 40])).length) Slot.unset).toArray = ls at hl ⊢
  have hl : lv_has ls 3 [(0, .ref h0), (1, .int 2), (2, .int 40)] := hl
  refine lv_aload_n hx hb dX2_init_0 rfl (lv_at hl 0 rfl) ?_
  refine W.objInit hx hb hown (hts (.methodLink RX2 3 objectInit) (mem_i 1 rfl)) (hts (.instanceMethod objectInit) (mem_i 2 rfl)) (hts (.code objectInit ⟨#[0xb1]⟩ 1 none) (mem_i 3 rfl)) rfl (by rw [hml]; exact hl.1) rfl dX2_init_1 (Nat.le_of_ble_eq_true rfl) (Nat.le_of_ble_eq_true rfl) ?_
  refine W.eq (g2 := F0 m 4 ls []) rfl ?_
  refine lv_aload_n hx hb dX2_init_4 rfl (lv_at hl 0 rfl) ?_
  refine lv_iload_n hx hb dX2_init_5 rfl (lv_at hl 1 rfl) ?_
  refine lv_iconst (v := 1) hx hb dX2_init_6 (by decide) ?_
  refine va_mmax hx hb (by rw [hml]; exact hl.1.symm) hown (hts (.methodLink RX2 9 Lib.Math.max.name) (mem_i 4 rfl)) (hts (.static Lib.Math.max.name) (mem_i 5 rfl)) (hts (.initialized "java/lang/Math") (mem_i 6 rfl)) (hts (.code Lib.Math.max.name Lib.Math.max.code 2 (some .int)) (mem_i 7 rfl)) (Nat.le_of_ble_eq_true rfl) (Nat.le_of_ble_eq_true rfl) (Nat.le_of_ble_eq_true rfl) (Nat.le_of_ble_eq_true rfl) dX2_init_7 ?_
  refine lk_i (y := 2) (by decide) ?_
  refine va_putF (D := D) (ci := 2) (v := .int 2) (ty := .int) (C := RX2) (T := TX2) (N := 4) hx hb hts (fun _ h => List.mem_cons_of_mem _ (List.mem_append_right _ h)) tyX2 tyX2_ok nmX2 hown hK hP hD hS 0 rfl rfl 0 (by decide) (hts (.fieldLink RX2 15 "CrownTable$Rows" "width" "I") (mem_i 8 rfl)) (fun _ h9 => h9) rfl hin rfl (by decide +kernel) rfl rfl (Nat.le_of_ble_eq_true rfl) dX2_init_10 (fun H locs hP hD hS => ?_)
  have hP : va_P D vwCl [(h0, .inr (2, [.int 2, .int 0, .null, .int 0]))] H := hP
  have hD : va_D A [(h0, .inr (2, [.int 2, .int 0, .null, .int 0]))] := hD
  refine lv_aload_n hx hb dX2_init_13 rfl (lv_at hl 0 rfl) ?_
  refine lv_iload_n hx hb dX2_init_14 rfl (lv_at hl 2 rfl) ?_
  refine va_putF (D := D) (ci := 2) (v := .int 40) (ty := .int) (C := RX2) (T := TX2) (N := 4) hx hb hts (fun _ h => List.mem_cons_of_mem _ (List.mem_append_right _ h)) tyX2 tyX2_ok nmX2 hown hK hP hD hS 0 rfl rfl 1 (by decide) (hts (.fieldLink RX2 21 "CrownTable$Rows" "most" "I") (mem_i 9 rfl)) (fun _ h9 => h9) rfl hin rfl (by decide +kernel) rfl rfl (Nat.le_of_ble_eq_true rfl) dX2_init_15 (fun H locs hP hD hS => ?_)
  have hP : va_P D vwCl [(h0, .inr (2, [.int 2, .int 40, .null, .int 0]))] H := hP
  have hD : va_D A [(h0, .inr (2, [.int 2, .int 40, .null, .int 0]))] := hD
  refine lv_aload_n hx hb dX2_init_18 rfl (lv_at hl 0 rfl) ?_
  refine lv_aload_n hx hb dX2_init_19 rfl (lv_at hl 0 rfl) ?_
  refine va_get (D := D) (ci := 2) (v := .int 2) (C := RX2) (T := TX2) (N := 4) hx hb hts (fun _ h => List.mem_cons_of_mem _ (List.mem_append_right _ h)) hown hK hP 0 rfl rfl 0 (by decide) (hts (.fieldLink RX2 15 "CrownTable$Rows" "width" "I") (mem_i 8 rfl)) (fun _ h9 => h9) rfl dX2_init_20 ?_
  refine lv_bipush (v := 16) hx hb dX2_init_23 (by decide) ?_
  refine lv_imul hx hb dX2_init_25 ?_
  refine lk_i (y := 32) (by decide) ?_
  refine va_newa (atype := .int) (ty := .int) (N' := 32) (a0 := (32, .inl (fun _ => 0))) hx hb (hts (.arrayClass .int) (mem_i 10 rfl)) rfl hK hP hD hS hA (fun cA => vp_cell_i cA 32 (fun _ => 0)) (by decide) (by decide +kernel) (by decide +kernel) (show 0 + 1 ≤ 1 by decide) (show 0 + 32 ≤ 32 by decide) dX2_init_26 (fun q_1 cq_1 H hK1 hP hD hS => ?_)
  obtain rfl : cq_1 = c 1 := nk_id hK1 1 rfl
  have hP : va_P D vwCl [(h0, .inr (2, [.int 2, .int 40, .null, .int 0])), (q_1, .inl (c 1, 32, .inl (fun _ => 0)))] H := hP
  have hD : va_D A [(h0, .inr (2, [.int 2, .int 40, .null, .int 0])), (q_1, .inl (c 1, 32, .inl (fun _ => 0)))] := hD
  refine W.widen (k := 1) (n := 32) (by omega) (by omega) ?_
  refine va_put (D := D) (ci := 2) (v := .ref q_1) (ty := (.array .int)) (C := RX2) (T := TX2) (N := 4) hx hb hts (fun _ h => List.mem_cons_of_mem _ (List.mem_append_right _ h)) tyX2 tyX2_ok nmX2 hown hK hP hD hS 0 rfl rfl 2 (by decide) (hts (.fieldLink RX2 24 "CrownTable$Rows" "cells" "[I") (mem_i 11 rfl)) (fun _ h9 => h9) rfl (by decide +kernel) rfl rfl (Nat.le_of_ble_eq_true rfl) dX2_init_28 (fun H locs hP hD hS => ?_)
  have hP : va_P D vwCl [(h0, .inr (2, [.int 2, .int 40, .ref q_1, .int 0])), (q_1, .inl (c 1, 32, .inl (fun _ => 0)))] H := hP
  have hD : va_D A [(h0, .inr (2, [.int 2, .int 40, .ref q_1, .int 0])), (q_1, .inl (c 1, 32, .inl (fun _ => 0)))] := hD
  have hP9 := hP.sub (ws' := [(h0, .inr (2, [.int 2, .int 40, .ref q_1, .int 0])), (q_1, .inl (c 1, 32, .inl (fun _ => 0)))]) [0, 1] rfl
  have hD9 := hD.sub (ws' := [(h0, .inr (2, [.int 2, .int 40, .ref q_1, .int 0])), (q_1, .inl (c 1, 32, .inl (fun _ => 0)))]) [0, 1] (by decide) rfl
  refine W.widen (k := 1) (n := 32) (by omega) (by omega) ?_
  exact W.vret hx hb hr (fun t ht hW => ⟨⟨(fun k => [q_1].getD k 0, fun k => [].getD k (fun _ => 0), fun k => [].getD k (fun _ => 0)), rfl, trivial, ⟨by rw [ht]; exact hP9, hD9⟩⟩, hS.F ht⟩) hS.2.2 dX2_init_31

set_option maxHeartbeats 4000000 in
set_option maxRecDepth 100000 in
theorem c_X2_init_1 (l : Launch) (D : va_G) (c : Nat → ClassId) (ts : Nat × Nat) (sz : Nat) (h0 : Nat) : Met l yX2_init wsX2_init ({ frames := 1, cells := 1, slots := 112, locals := 14 }) (va_Pc [.ref h0, .int 7, .int 400] (Pre0 D c ts [(h0, .inr (2, [.int 0, .int 0, .null, .int 0]))] sz)) (va_Qv (fun (u : (Nat → Nat) × (Nat → Nat → Int32) × (Nat → Nat → Int64)) => True) (fun u t => va_P D vwCl [(h0, .inr (2, [.int 7, .int 400, .ref ((u.1 0)), .int 0])), ((u.1 0), .inl (c 1, 112, .inl (fun _ => 0)))] t.heap ∧ va_D (va_A [(h0, .inr (2, [.int 0, .int 0, .null, .int 0]))] sz) [(h0, .inr (2, [.int 7, .int 400, .ref ((u.1 0)), .int 0])), ((u.1 0), .inl (c 1, 112, .inl (fun _ => 0)))]) (va_A [(h0, .inr (2, [.int 0, .int 0, .null, .int 0]))] sz)) 1 112 (va_A [(h0, .inr (2, [.int 0, .int 0, .null, .int 0]))] sz) := by
  refine Met.ofW (cc := cX2_init) (maxL := 3) (ret := none) (by decide) rfl ?_
  intro p e s m args below meth cd s₁ B hml hv
  obtain ⟨rfl, hsz, hP, hD0, hAm, hSt⟩ := hv
  have hx := B.exec
  have hb := B.bytes
  have hr := B.returns
  have hts := atoms_spec (ws := wsX2_init) B.pre
  have hown : s.vm.findClass RX2 = some m.cls := findClass_of_methodNamed B.named
  have hlocks := B.notSynchronized
  have hin : meth.name = "<init>" := (name_of_methodNamed B.named B.method).1
  subst hsz
  have hK := hAm.1
  have hD := hD0.self (sz := s.heap.size)
  generalize hAe : va_A [(h0, .inr (2, [.int 0, .int 0, .null, .int 0]))] s.heap.size = A at hD hSt ⊢
  have hA : ∀ q : Nat, s.heap.size ≤ q → A q := fun q h => by rw [← hAe]; exact Or.inr h
  have hS : va_S A s.heap s.heap [] := va_S.rf
  clear hD0 hAe
  have hl := lv_entry ([.ref h0, .int 7, .int 400]) (n := 3) (Nat.le_of_ble_eq_true rfl)
  rw [lg_entry_eq]
  generalize (lg_sl ([.ref h0, .int 7, .int 400]) ++ List.replicate (3 - (lg_sl ([.ref h0, .int 7, .int 400])).length) Slot.unset).toArray = ls at hl ⊢
  have hl : lv_has ls 3 [(0, .ref h0), (1, .int 7), (2, .int 400)] := hl
  refine lv_aload_n hx hb dX2_init_0 rfl (lv_at hl 0 rfl) ?_
  refine W.objInit hx hb hown (hts (.methodLink RX2 3 objectInit) (mem_i 1 rfl)) (hts (.instanceMethod objectInit) (mem_i 2 rfl)) (hts (.code objectInit ⟨#[0xb1]⟩ 1 none) (mem_i 3 rfl)) rfl (by rw [hml]; exact hl.1) rfl dX2_init_1 (Nat.le_of_ble_eq_true rfl) (Nat.le_of_ble_eq_true rfl) ?_
  refine W.eq (g2 := F0 m 4 ls []) rfl ?_
  refine lv_aload_n hx hb dX2_init_4 rfl (lv_at hl 0 rfl) ?_
  refine lv_iload_n hx hb dX2_init_5 rfl (lv_at hl 1 rfl) ?_
  refine lv_iconst (v := 1) hx hb dX2_init_6 (by decide) ?_
  refine va_mmax hx hb (by rw [hml]; exact hl.1.symm) hown (hts (.methodLink RX2 9 Lib.Math.max.name) (mem_i 4 rfl)) (hts (.static Lib.Math.max.name) (mem_i 5 rfl)) (hts (.initialized "java/lang/Math") (mem_i 6 rfl)) (hts (.code Lib.Math.max.name Lib.Math.max.code 2 (some .int)) (mem_i 7 rfl)) (Nat.le_of_ble_eq_true rfl) (Nat.le_of_ble_eq_true rfl) (Nat.le_of_ble_eq_true rfl) (Nat.le_of_ble_eq_true rfl) dX2_init_7 ?_
  refine lk_i (y := 7) (by decide) ?_
  refine va_putF (D := D) (ci := 2) (v := .int 7) (ty := .int) (C := RX2) (T := TX2) (N := 4) hx hb hts (fun _ h => List.mem_cons_of_mem _ (List.mem_append_right _ h)) tyX2 tyX2_ok nmX2 hown hK hP hD hS 0 rfl rfl 0 (by decide) (hts (.fieldLink RX2 15 "CrownTable$Rows" "width" "I") (mem_i 8 rfl)) (fun _ h9 => h9) rfl hin rfl (by decide +kernel) rfl rfl (Nat.le_of_ble_eq_true rfl) dX2_init_10 (fun H locs hP hD hS => ?_)
  have hP : va_P D vwCl [(h0, .inr (2, [.int 7, .int 0, .null, .int 0]))] H := hP
  have hD : va_D A [(h0, .inr (2, [.int 7, .int 0, .null, .int 0]))] := hD
  refine lv_aload_n hx hb dX2_init_13 rfl (lv_at hl 0 rfl) ?_
  refine lv_iload_n hx hb dX2_init_14 rfl (lv_at hl 2 rfl) ?_
  refine va_putF (D := D) (ci := 2) (v := .int 400) (ty := .int) (C := RX2) (T := TX2) (N := 4) hx hb hts (fun _ h => List.mem_cons_of_mem _ (List.mem_append_right _ h)) tyX2 tyX2_ok nmX2 hown hK hP hD hS 0 rfl rfl 1 (by decide) (hts (.fieldLink RX2 21 "CrownTable$Rows" "most" "I") (mem_i 9 rfl)) (fun _ h9 => h9) rfl hin rfl (by decide +kernel) rfl rfl (Nat.le_of_ble_eq_true rfl) dX2_init_15 (fun H locs hP hD hS => ?_)
  have hP : va_P D vwCl [(h0, .inr (2, [.int 7, .int 400, .null, .int 0]))] H := hP
  have hD : va_D A [(h0, .inr (2, [.int 7, .int 400, .null, .int 0]))] := hD
  refine lv_aload_n hx hb dX2_init_18 rfl (lv_at hl 0 rfl) ?_
  refine lv_aload_n hx hb dX2_init_19 rfl (lv_at hl 0 rfl) ?_
  refine va_get (D := D) (ci := 2) (v := .int 7) (C := RX2) (T := TX2) (N := 4) hx hb hts (fun _ h => List.mem_cons_of_mem _ (List.mem_append_right _ h)) hown hK hP 0 rfl rfl 0 (by decide) (hts (.fieldLink RX2 15 "CrownTable$Rows" "width" "I") (mem_i 8 rfl)) (fun _ h9 => h9) rfl dX2_init_20 ?_
  refine lv_bipush (v := 16) hx hb dX2_init_23 (by decide) ?_
  refine lv_imul hx hb dX2_init_25 ?_
  refine lk_i (y := 112) (by decide) ?_
  refine va_newa (atype := .int) (ty := .int) (N' := 112) (a0 := (112, .inl (fun _ => 0))) hx hb (hts (.arrayClass .int) (mem_i 10 rfl)) rfl hK hP hD hS hA (fun cA => vp_cell_i cA 112 (fun _ => 0)) (by decide) (by decide +kernel) (by decide +kernel) (show 0 + 1 ≤ 1 by decide) (show 0 + 112 ≤ 112 by decide) dX2_init_26 (fun q_1 cq_1 H hK1 hP hD hS => ?_)
  obtain rfl : cq_1 = c 1 := nk_id hK1 1 rfl
  have hP : va_P D vwCl [(h0, .inr (2, [.int 7, .int 400, .null, .int 0])), (q_1, .inl (c 1, 112, .inl (fun _ => 0)))] H := hP
  have hD : va_D A [(h0, .inr (2, [.int 7, .int 400, .null, .int 0])), (q_1, .inl (c 1, 112, .inl (fun _ => 0)))] := hD
  refine W.widen (k := 1) (n := 112) (by omega) (by omega) ?_
  refine va_put (D := D) (ci := 2) (v := .ref q_1) (ty := (.array .int)) (C := RX2) (T := TX2) (N := 4) hx hb hts (fun _ h => List.mem_cons_of_mem _ (List.mem_append_right _ h)) tyX2 tyX2_ok nmX2 hown hK hP hD hS 0 rfl rfl 2 (by decide) (hts (.fieldLink RX2 24 "CrownTable$Rows" "cells" "[I") (mem_i 11 rfl)) (fun _ h9 => h9) rfl (by decide +kernel) rfl rfl (Nat.le_of_ble_eq_true rfl) dX2_init_28 (fun H locs hP hD hS => ?_)
  have hP : va_P D vwCl [(h0, .inr (2, [.int 7, .int 400, .ref q_1, .int 0])), (q_1, .inl (c 1, 112, .inl (fun _ => 0)))] H := hP
  have hD : va_D A [(h0, .inr (2, [.int 7, .int 400, .ref q_1, .int 0])), (q_1, .inl (c 1, 112, .inl (fun _ => 0)))] := hD
  have hP9 := hP.sub (ws' := [(h0, .inr (2, [.int 7, .int 400, .ref q_1, .int 0])), (q_1, .inl (c 1, 112, .inl (fun _ => 0)))]) [0, 1] rfl
  have hD9 := hD.sub (ws' := [(h0, .inr (2, [.int 7, .int 400, .ref q_1, .int 0])), (q_1, .inl (c 1, 112, .inl (fun _ => 0)))]) [0, 1] (by decide) rfl
  refine W.widen (k := 1) (n := 112) (by omega) (by omega) ?_
  exact W.vret hx hb hr (fun t ht hW => ⟨⟨(fun k => [q_1].getD k 0, fun k => [].getD k (fun _ => 0), fun k => [].getD k (fun _ => 0)), rfl, trivial, ⟨by rw [ht]; exact hP9, hD9⟩⟩, hS.F ht⟩) hS.2.2 dX2_init_31

set_option maxHeartbeats 4000000 in
set_option maxRecDepth 100000 in
theorem c_X2_init_2 (l : Launch) (D : va_G) (c : Nat → ClassId) (ts : Nat × Nat) (sz : Nat) (h0 : Nat) : Met l yX2_init wsX2_init ({ frames := 1, cells := 1, slots := 128, locals := 14 }) (va_Pc [.ref h0, .int 8, .int 4000] (Pre0 D c ts [(h0, .inr (2, [.int 0, .int 0, .null, .int 0]))] sz)) (va_Qv (fun (u : (Nat → Nat) × (Nat → Nat → Int32) × (Nat → Nat → Int64)) => True) (fun u t => va_P D vwCl [(h0, .inr (2, [.int 8, .int 4000, .ref ((u.1 0)), .int 0])), ((u.1 0), .inl (c 1, 128, .inl (fun _ => 0)))] t.heap ∧ va_D (va_A [(h0, .inr (2, [.int 0, .int 0, .null, .int 0]))] sz) [(h0, .inr (2, [.int 8, .int 4000, .ref ((u.1 0)), .int 0])), ((u.1 0), .inl (c 1, 128, .inl (fun _ => 0)))]) (va_A [(h0, .inr (2, [.int 0, .int 0, .null, .int 0]))] sz)) 1 128 (va_A [(h0, .inr (2, [.int 0, .int 0, .null, .int 0]))] sz) := by
  refine Met.ofW (cc := cX2_init) (maxL := 3) (ret := none) (by decide) rfl ?_
  intro p e s m args below meth cd s₁ B hml hv
  obtain ⟨rfl, hsz, hP, hD0, hAm, hSt⟩ := hv
  have hx := B.exec
  have hb := B.bytes
  have hr := B.returns
  have hts := atoms_spec (ws := wsX2_init) B.pre
  have hown : s.vm.findClass RX2 = some m.cls := findClass_of_methodNamed B.named
  have hlocks := B.notSynchronized
  have hin : meth.name = "<init>" := (name_of_methodNamed B.named B.method).1
  subst hsz
  have hK := hAm.1
  have hD := hD0.self (sz := s.heap.size)
  generalize hAe : va_A [(h0, .inr (2, [.int 0, .int 0, .null, .int 0]))] s.heap.size = A at hD hSt ⊢
  have hA : ∀ q : Nat, s.heap.size ≤ q → A q := fun q h => by rw [← hAe]; exact Or.inr h
  have hS : va_S A s.heap s.heap [] := va_S.rf
  clear hD0 hAe
  have hl := lv_entry ([.ref h0, .int 8, .int 4000]) (n := 3) (Nat.le_of_ble_eq_true rfl)
  rw [lg_entry_eq]
  generalize (lg_sl ([.ref h0, .int 8, .int 4000]) ++ List.replicate (3 - (lg_sl ([.ref h0, .int 8, .int 4000])).length) Slot.unset).toArray = ls at hl ⊢
  have hl : lv_has ls 3 [(0, .ref h0), (1, .int 8), (2, .int 4000)] := hl
  refine lv_aload_n hx hb dX2_init_0 rfl (lv_at hl 0 rfl) ?_
  refine W.objInit hx hb hown (hts (.methodLink RX2 3 objectInit) (mem_i 1 rfl)) (hts (.instanceMethod objectInit) (mem_i 2 rfl)) (hts (.code objectInit ⟨#[0xb1]⟩ 1 none) (mem_i 3 rfl)) rfl (by rw [hml]; exact hl.1) rfl dX2_init_1 (Nat.le_of_ble_eq_true rfl) (Nat.le_of_ble_eq_true rfl) ?_
  refine W.eq (g2 := F0 m 4 ls []) rfl ?_
  refine lv_aload_n hx hb dX2_init_4 rfl (lv_at hl 0 rfl) ?_
  refine lv_iload_n hx hb dX2_init_5 rfl (lv_at hl 1 rfl) ?_
  refine lv_iconst (v := 1) hx hb dX2_init_6 (by decide) ?_
  refine va_mmax hx hb (by rw [hml]; exact hl.1.symm) hown (hts (.methodLink RX2 9 Lib.Math.max.name) (mem_i 4 rfl)) (hts (.static Lib.Math.max.name) (mem_i 5 rfl)) (hts (.initialized "java/lang/Math") (mem_i 6 rfl)) (hts (.code Lib.Math.max.name Lib.Math.max.code 2 (some .int)) (mem_i 7 rfl)) (Nat.le_of_ble_eq_true rfl) (Nat.le_of_ble_eq_true rfl) (Nat.le_of_ble_eq_true rfl) (Nat.le_of_ble_eq_true rfl) dX2_init_7 ?_
  refine lk_i (y := 8) (by decide) ?_
  refine va_putF (D := D) (ci := 2) (v := .int 8) (ty := .int) (C := RX2) (T := TX2) (N := 4) hx hb hts (fun _ h => List.mem_cons_of_mem _ (List.mem_append_right _ h)) tyX2 tyX2_ok nmX2 hown hK hP hD hS 0 rfl rfl 0 (by decide) (hts (.fieldLink RX2 15 "CrownTable$Rows" "width" "I") (mem_i 8 rfl)) (fun _ h9 => h9) rfl hin rfl (by decide +kernel) rfl rfl (Nat.le_of_ble_eq_true rfl) dX2_init_10 (fun H locs hP hD hS => ?_)
  have hP : va_P D vwCl [(h0, .inr (2, [.int 8, .int 0, .null, .int 0]))] H := hP
  have hD : va_D A [(h0, .inr (2, [.int 8, .int 0, .null, .int 0]))] := hD
  refine lv_aload_n hx hb dX2_init_13 rfl (lv_at hl 0 rfl) ?_
  refine lv_iload_n hx hb dX2_init_14 rfl (lv_at hl 2 rfl) ?_
  refine va_putF (D := D) (ci := 2) (v := .int 4000) (ty := .int) (C := RX2) (T := TX2) (N := 4) hx hb hts (fun _ h => List.mem_cons_of_mem _ (List.mem_append_right _ h)) tyX2 tyX2_ok nmX2 hown hK hP hD hS 0 rfl rfl 1 (by decide) (hts (.fieldLink RX2 21 "CrownTable$Rows" "most" "I") (mem_i 9 rfl)) (fun _ h9 => h9) rfl hin rfl (by decide +kernel) rfl rfl (Nat.le_of_ble_eq_true rfl) dX2_init_15 (fun H locs hP hD hS => ?_)
  have hP : va_P D vwCl [(h0, .inr (2, [.int 8, .int 4000, .null, .int 0]))] H := hP
  have hD : va_D A [(h0, .inr (2, [.int 8, .int 4000, .null, .int 0]))] := hD
  refine lv_aload_n hx hb dX2_init_18 rfl (lv_at hl 0 rfl) ?_
  refine lv_aload_n hx hb dX2_init_19 rfl (lv_at hl 0 rfl) ?_
  refine va_get (D := D) (ci := 2) (v := .int 8) (C := RX2) (T := TX2) (N := 4) hx hb hts (fun _ h => List.mem_cons_of_mem _ (List.mem_append_right _ h)) hown hK hP 0 rfl rfl 0 (by decide) (hts (.fieldLink RX2 15 "CrownTable$Rows" "width" "I") (mem_i 8 rfl)) (fun _ h9 => h9) rfl dX2_init_20 ?_
  refine lv_bipush (v := 16) hx hb dX2_init_23 (by decide) ?_
  refine lv_imul hx hb dX2_init_25 ?_
  refine lk_i (y := 128) (by decide) ?_
  refine va_newa (atype := .int) (ty := .int) (N' := 128) (a0 := (128, .inl (fun _ => 0))) hx hb (hts (.arrayClass .int) (mem_i 10 rfl)) rfl hK hP hD hS hA (fun cA => vp_cell_i cA 128 (fun _ => 0)) (by decide) (by decide +kernel) (by decide +kernel) (show 0 + 1 ≤ 1 by decide) (show 0 + 128 ≤ 128 by decide) dX2_init_26 (fun q_1 cq_1 H hK1 hP hD hS => ?_)
  obtain rfl : cq_1 = c 1 := nk_id hK1 1 rfl
  have hP : va_P D vwCl [(h0, .inr (2, [.int 8, .int 4000, .null, .int 0])), (q_1, .inl (c 1, 128, .inl (fun _ => 0)))] H := hP
  have hD : va_D A [(h0, .inr (2, [.int 8, .int 4000, .null, .int 0])), (q_1, .inl (c 1, 128, .inl (fun _ => 0)))] := hD
  refine W.widen (k := 1) (n := 128) (by omega) (by omega) ?_
  refine va_put (D := D) (ci := 2) (v := .ref q_1) (ty := (.array .int)) (C := RX2) (T := TX2) (N := 4) hx hb hts (fun _ h => List.mem_cons_of_mem _ (List.mem_append_right _ h)) tyX2 tyX2_ok nmX2 hown hK hP hD hS 0 rfl rfl 2 (by decide) (hts (.fieldLink RX2 24 "CrownTable$Rows" "cells" "[I") (mem_i 11 rfl)) (fun _ h9 => h9) rfl (by decide +kernel) rfl rfl (Nat.le_of_ble_eq_true rfl) dX2_init_28 (fun H locs hP hD hS => ?_)
  have hP : va_P D vwCl [(h0, .inr (2, [.int 8, .int 4000, .ref q_1, .int 0])), (q_1, .inl (c 1, 128, .inl (fun _ => 0)))] H := hP
  have hD : va_D A [(h0, .inr (2, [.int 8, .int 4000, .ref q_1, .int 0])), (q_1, .inl (c 1, 128, .inl (fun _ => 0)))] := hD
  have hP9 := hP.sub (ws' := [(h0, .inr (2, [.int 8, .int 4000, .ref q_1, .int 0])), (q_1, .inl (c 1, 128, .inl (fun _ => 0)))]) [0, 1] rfl
  have hD9 := hD.sub (ws' := [(h0, .inr (2, [.int 8, .int 4000, .ref q_1, .int 0])), (q_1, .inl (c 1, 128, .inl (fun _ => 0)))]) [0, 1] (by decide) rfl
  refine W.widen (k := 1) (n := 128) (by omega) (by omega) ?_
  exact W.vret hx hb hr (fun t ht hW => ⟨⟨(fun k => [q_1].getD k 0, fun k => [].getD k (fun _ => 0), fun k => [].getD k (fun _ => 0)), rfl, trivial, ⟨by rw [ht]; exact hP9, hD9⟩⟩, hS.F ht⟩) hS.2.2 dX2_init_31

set_option maxHeartbeats 4000000 in
set_option maxRecDepth 100000 in
theorem c_X2_init_3 (l : Launch) (D : va_G) (c : Nat → ClassId) (ts : Nat × Nat) (sz : Nat) (h0 : Nat) : Met l yX2_init wsX2_init ({ frames := 1, cells := 1, slots := 16, locals := 14 }) (va_Pc [.ref h0, .int 1, .int 2000] (Pre0 D c ts [(h0, .inr (2, [.int 0, .int 0, .null, .int 0]))] sz)) (va_Qv (fun (u : (Nat → Nat) × (Nat → Nat → Int32) × (Nat → Nat → Int64)) => True) (fun u t => va_P D vwCl [(h0, .inr (2, [.int 1, .int 2000, .ref ((u.1 0)), .int 0])), ((u.1 0), .inl (c 1, 16, .inl (fun _ => 0)))] t.heap ∧ va_D (va_A [(h0, .inr (2, [.int 0, .int 0, .null, .int 0]))] sz) [(h0, .inr (2, [.int 1, .int 2000, .ref ((u.1 0)), .int 0])), ((u.1 0), .inl (c 1, 16, .inl (fun _ => 0)))]) (va_A [(h0, .inr (2, [.int 0, .int 0, .null, .int 0]))] sz)) 1 16 (va_A [(h0, .inr (2, [.int 0, .int 0, .null, .int 0]))] sz) := by
  refine Met.ofW (cc := cX2_init) (maxL := 3) (ret := none) (by decide) rfl ?_
  intro p e s m args below meth cd s₁ B hml hv
  obtain ⟨rfl, hsz, hP, hD0, hAm, hSt⟩ := hv
  have hx := B.exec
  have hb := B.bytes
  have hr := B.returns
  have hts := atoms_spec (ws := wsX2_init) B.pre
  have hown : s.vm.findClass RX2 = some m.cls := findClass_of_methodNamed B.named
  have hlocks := B.notSynchronized
  have hin : meth.name = "<init>" := (name_of_methodNamed B.named B.method).1
  subst hsz
  have hK := hAm.1
  have hD := hD0.self (sz := s.heap.size)
  generalize hAe : va_A [(h0, .inr (2, [.int 0, .int 0, .null, .int 0]))] s.heap.size = A at hD hSt ⊢
  have hA : ∀ q : Nat, s.heap.size ≤ q → A q := fun q h => by rw [← hAe]; exact Or.inr h
  have hS : va_S A s.heap s.heap [] := va_S.rf
  clear hD0 hAe
  have hl := lv_entry ([.ref h0, .int 1, .int 2000]) (n := 3) (Nat.le_of_ble_eq_true rfl)
  rw [lg_entry_eq]
  generalize (lg_sl ([.ref h0, .int 1, .int 2000]) ++ List.replicate (3 - (lg_sl ([.ref h0, .int 1, .int 2000])).length) Slot.unset).toArray = ls at hl ⊢
  have hl : lv_has ls 3 [(0, .ref h0), (1, .int 1), (2, .int 2000)] := hl
  refine lv_aload_n hx hb dX2_init_0 rfl (lv_at hl 0 rfl) ?_
  refine W.objInit hx hb hown (hts (.methodLink RX2 3 objectInit) (mem_i 1 rfl)) (hts (.instanceMethod objectInit) (mem_i 2 rfl)) (hts (.code objectInit ⟨#[0xb1]⟩ 1 none) (mem_i 3 rfl)) rfl (by rw [hml]; exact hl.1) rfl dX2_init_1 (Nat.le_of_ble_eq_true rfl) (Nat.le_of_ble_eq_true rfl) ?_
  refine W.eq (g2 := F0 m 4 ls []) rfl ?_
  refine lv_aload_n hx hb dX2_init_4 rfl (lv_at hl 0 rfl) ?_
  refine lv_iload_n hx hb dX2_init_5 rfl (lv_at hl 1 rfl) ?_
  refine lv_iconst (v := 1) hx hb dX2_init_6 (by decide) ?_
  refine va_mmax hx hb (by rw [hml]; exact hl.1.symm) hown (hts (.methodLink RX2 9 Lib.Math.max.name) (mem_i 4 rfl)) (hts (.static Lib.Math.max.name) (mem_i 5 rfl)) (hts (.initialized "java/lang/Math") (mem_i 6 rfl)) (hts (.code Lib.Math.max.name Lib.Math.max.code 2 (some .int)) (mem_i 7 rfl)) (Nat.le_of_ble_eq_true rfl) (Nat.le_of_ble_eq_true rfl) (Nat.le_of_ble_eq_true rfl) (Nat.le_of_ble_eq_true rfl) dX2_init_7 ?_
  refine lk_i (y := 1) (by decide) ?_
  refine va_putF (D := D) (ci := 2) (v := .int 1) (ty := .int) (C := RX2) (T := TX2) (N := 4) hx hb hts (fun _ h => List.mem_cons_of_mem _ (List.mem_append_right _ h)) tyX2 tyX2_ok nmX2 hown hK hP hD hS 0 rfl rfl 0 (by decide) (hts (.fieldLink RX2 15 "CrownTable$Rows" "width" "I") (mem_i 8 rfl)) (fun _ h9 => h9) rfl hin rfl (by decide +kernel) rfl rfl (Nat.le_of_ble_eq_true rfl) dX2_init_10 (fun H locs hP hD hS => ?_)
  have hP : va_P D vwCl [(h0, .inr (2, [.int 1, .int 0, .null, .int 0]))] H := hP
  have hD : va_D A [(h0, .inr (2, [.int 1, .int 0, .null, .int 0]))] := hD
  refine lv_aload_n hx hb dX2_init_13 rfl (lv_at hl 0 rfl) ?_
  refine lv_iload_n hx hb dX2_init_14 rfl (lv_at hl 2 rfl) ?_
  refine va_putF (D := D) (ci := 2) (v := .int 2000) (ty := .int) (C := RX2) (T := TX2) (N := 4) hx hb hts (fun _ h => List.mem_cons_of_mem _ (List.mem_append_right _ h)) tyX2 tyX2_ok nmX2 hown hK hP hD hS 0 rfl rfl 1 (by decide) (hts (.fieldLink RX2 21 "CrownTable$Rows" "most" "I") (mem_i 9 rfl)) (fun _ h9 => h9) rfl hin rfl (by decide +kernel) rfl rfl (Nat.le_of_ble_eq_true rfl) dX2_init_15 (fun H locs hP hD hS => ?_)
  have hP : va_P D vwCl [(h0, .inr (2, [.int 1, .int 2000, .null, .int 0]))] H := hP
  have hD : va_D A [(h0, .inr (2, [.int 1, .int 2000, .null, .int 0]))] := hD
  refine lv_aload_n hx hb dX2_init_18 rfl (lv_at hl 0 rfl) ?_
  refine lv_aload_n hx hb dX2_init_19 rfl (lv_at hl 0 rfl) ?_
  refine va_get (D := D) (ci := 2) (v := .int 1) (C := RX2) (T := TX2) (N := 4) hx hb hts (fun _ h => List.mem_cons_of_mem _ (List.mem_append_right _ h)) hown hK hP 0 rfl rfl 0 (by decide) (hts (.fieldLink RX2 15 "CrownTable$Rows" "width" "I") (mem_i 8 rfl)) (fun _ h9 => h9) rfl dX2_init_20 ?_
  refine lv_bipush (v := 16) hx hb dX2_init_23 (by decide) ?_
  refine lv_imul hx hb dX2_init_25 ?_
  refine lk_i (y := 16) (by decide) ?_
  refine va_newa (atype := .int) (ty := .int) (N' := 16) (a0 := (16, .inl (fun _ => 0))) hx hb (hts (.arrayClass .int) (mem_i 10 rfl)) rfl hK hP hD hS hA (fun cA => vp_cell_i cA 16 (fun _ => 0)) (by decide) (by decide +kernel) (by decide +kernel) (show 0 + 1 ≤ 1 by decide) (show 0 + 16 ≤ 16 by decide) dX2_init_26 (fun q_1 cq_1 H hK1 hP hD hS => ?_)
  obtain rfl : cq_1 = c 1 := nk_id hK1 1 rfl
  have hP : va_P D vwCl [(h0, .inr (2, [.int 1, .int 2000, .null, .int 0])), (q_1, .inl (c 1, 16, .inl (fun _ => 0)))] H := hP
  have hD : va_D A [(h0, .inr (2, [.int 1, .int 2000, .null, .int 0])), (q_1, .inl (c 1, 16, .inl (fun _ => 0)))] := hD
  refine W.widen (k := 1) (n := 16) (by omega) (by omega) ?_
  refine va_put (D := D) (ci := 2) (v := .ref q_1) (ty := (.array .int)) (C := RX2) (T := TX2) (N := 4) hx hb hts (fun _ h => List.mem_cons_of_mem _ (List.mem_append_right _ h)) tyX2 tyX2_ok nmX2 hown hK hP hD hS 0 rfl rfl 2 (by decide) (hts (.fieldLink RX2 24 "CrownTable$Rows" "cells" "[I") (mem_i 11 rfl)) (fun _ h9 => h9) rfl (by decide +kernel) rfl rfl (Nat.le_of_ble_eq_true rfl) dX2_init_28 (fun H locs hP hD hS => ?_)
  have hP : va_P D vwCl [(h0, .inr (2, [.int 1, .int 2000, .ref q_1, .int 0])), (q_1, .inl (c 1, 16, .inl (fun _ => 0)))] H := hP
  have hD : va_D A [(h0, .inr (2, [.int 1, .int 2000, .ref q_1, .int 0])), (q_1, .inl (c 1, 16, .inl (fun _ => 0)))] := hD
  have hP9 := hP.sub (ws' := [(h0, .inr (2, [.int 1, .int 2000, .ref q_1, .int 0])), (q_1, .inl (c 1, 16, .inl (fun _ => 0)))]) [0, 1] rfl
  have hD9 := hD.sub (ws' := [(h0, .inr (2, [.int 1, .int 2000, .ref q_1, .int 0])), (q_1, .inl (c 1, 16, .inl (fun _ => 0)))]) [0, 1] (by decide) rfl
  refine W.widen (k := 1) (n := 16) (by omega) (by omega) ?_
  exact W.vret hx hb hr (fun t ht hW => ⟨⟨(fun k => [q_1].getD k 0, fun k => [].getD k (fun _ => 0), fun k => [].getD k (fun _ => 0)), rfl, trivial, ⟨by rw [ht]; exact hP9, hD9⟩⟩, hS.F ht⟩) hS.2.2 dX2_init_31

set_option maxHeartbeats 4000000 in
set_option maxRecDepth 100000 in
theorem c_X0_init (l : Launch) (D : va_G) (c : Nat → ClassId) (ts : Nat × Nat) (sz : Nat) (h0 : Nat) : Met l yX0_init wsX0_init ({ frames := 1, cells := 1, slots := 6, locals := 12 }) (va_Pc [.ref h0] (Pre0 D c ts [(h0, .inr (0, [.null]))] sz)) (va_Qv (fun (u : (Nat → Nat) × (Nat → Nat → Int32) × (Nat → Nat → Int64)) => True) (fun u t => va_P D vwCl [(h0, .inr (0, [.ref ((u.1 0))])), ((u.1 0), .inl (c 1, 6, .inl (fun _ => 0)))] t.heap ∧ va_D (va_A [(h0, .inr (0, [.null]))] sz) [(h0, .inr (0, [.ref ((u.1 0))])), ((u.1 0), .inl (c 1, 6, .inl (fun _ => 0)))]) (va_A [(h0, .inr (0, [.null]))] sz)) 1 6 (va_A [(h0, .inr (0, [.null]))] sz) := by
  refine Met.ofW (cc := cX0_init) (maxL := 1) (ret := none) (by decide) rfl ?_
  intro p e s m args below meth cd s₁ B hml hv
  obtain ⟨rfl, hsz, hP, hD0, hAm, hSt⟩ := hv
  have hx := B.exec
  have hb := B.bytes
  have hr := B.returns
  have hts := atoms_spec (ws := wsX0_init) B.pre
  have hown : s.vm.findClass RX0 = some m.cls := findClass_of_methodNamed B.named
  have hlocks := B.notSynchronized
  have hin : meth.name = "<init>" := (name_of_methodNamed B.named B.method).1
  subst hsz
  have hK := hAm.1
  have hD := hD0.self (sz := s.heap.size)
  generalize hAe : va_A [(h0, .inr (0, [.null]))] s.heap.size = A at hD hSt ⊢
  have hA : ∀ q : Nat, s.heap.size ≤ q → A q := fun q h => by rw [← hAe]; exact Or.inr h
  have hS : va_S A s.heap s.heap [] := va_S.rf
  clear hD0 hAe
  have hl := lv_entry ([.ref h0]) (n := 1) (Nat.le_of_ble_eq_true rfl)
  rw [lg_entry_eq]
  generalize (lg_sl ([.ref h0]) ++ List.replicate (1 - (lg_sl ([.ref h0])).length) Slot.unset).toArray = ls at hl ⊢
  have hl : lv_has ls 1 [(0, .ref h0)] := hl
  refine lv_aload_n hx hb dX0_init_0 rfl (lv_at hl 0 rfl) ?_
  refine W.objInit hx hb hown (hts (.methodLink RX0 3 objectInit) (mem_i 1 rfl)) (hts (.instanceMethod objectInit) (mem_i 2 rfl)) (hts (.code objectInit ⟨#[0xb1]⟩ 1 none) (mem_i 3 rfl)) rfl (by rw [hml]; exact hl.1) rfl dX0_init_1 (Nat.le_of_ble_eq_true rfl) (Nat.le_of_ble_eq_true rfl) ?_
  refine W.eq (g2 := F0 m 4 ls []) rfl ?_
  refine lv_aload_n hx hb dX0_init_4 rfl (lv_at hl 0 rfl) ?_
  refine lv_bipush (v := 6) hx hb dX0_init_5 (by decide) ?_
  refine va_newa (atype := .int) (ty := .int) (N' := 6) (a0 := (6, .inl (fun _ => 0))) hx hb (hts (.arrayClass .int) (mem_i 4 rfl)) rfl hK hP hD hS hA (fun cA => vp_cell_i cA 6 (fun _ => 0)) (by decide) (by decide +kernel) (by decide +kernel) (show 0 + 1 ≤ 1 by decide) (show 0 + 6 ≤ 6 by decide) dX0_init_7 (fun q_1 cq_1 H hK1 hP hD hS => ?_)
  obtain rfl : cq_1 = c 1 := nk_id hK1 1 rfl
  have hP : va_P D vwCl [(h0, .inr (0, [.null])), (q_1, .inl (c 1, 6, .inl (fun _ => 0)))] H := hP
  have hD : va_D A [(h0, .inr (0, [.null])), (q_1, .inl (c 1, 6, .inl (fun _ => 0)))] := hD
  refine W.widen (k := 1) (n := 6) (by omega) (by omega) ?_
  refine va_putF (D := D) (ci := 0) (v := .ref q_1) (ty := (.array .int)) (C := RX0) (T := TX0) (N := 1) hx hb hts (fun _ h => List.mem_cons_of_mem _ (List.mem_append_right _ h)) tyX0 tyX0_ok nmX0 hown hK hP hD hS 0 rfl rfl 0 (by decide) (hts (.fieldLink RX0 9 "CrownTable$Cloth" "counters" "[I") (mem_i 5 rfl)) (fun _ h9 => h9) rfl hin rfl (by decide +kernel) rfl rfl (Nat.le_of_ble_eq_true rfl) dX0_init_9 (fun H locs hP hD hS => ?_)
  have hP : va_P D vwCl [(h0, .inr (0, [.ref q_1])), (q_1, .inl (c 1, 6, .inl (fun _ => 0)))] H := hP
  have hD : va_D A [(h0, .inr (0, [.ref q_1])), (q_1, .inl (c 1, 6, .inl (fun _ => 0)))] := hD
  have hP9 := hP.sub (ws' := [(h0, .inr (0, [.ref q_1])), (q_1, .inl (c 1, 6, .inl (fun _ => 0)))]) [0, 1] rfl
  have hD9 := hD.sub (ws' := [(h0, .inr (0, [.ref q_1])), (q_1, .inl (c 1, 6, .inl (fun _ => 0)))]) [0, 1] (by decide) rfl
  refine W.widen (k := 1) (n := 6) (by omega) (by omega) ?_
  exact W.vret hx hb hr (fun t ht hW => ⟨⟨(fun k => [q_1].getD k 0, fun k => [].getD k (fun _ => 0), fun k => [].getD k (fun _ => 0)), rfl, trivial, ⟨by rw [ht]; exact hP9, hD9⟩⟩, hS.F ht⟩) hS.2.2 dX0_init_12

set_option maxHeartbeats 4000000 in
set_option maxRecDepth 100000 in
theorem c_J7_fill_53178 (l : Launch) (D : va_G) (c : Nat → ClassId) (ts : Nat × Nat) (sz : Nat) (h0 : Nat) : Met l yJ7_fill_53178 wsJ7_fill_53178 ({ frames := 0, cells := 0, slots := 0, locals := 0 }) (va_Pc [.ref h0, .int (-1)] (Pre0 D c ts [(h0, .inl (c 1, 16, .inl (fun _ => 0)))] sz)) (va_Qv (fun (u : (Nat → Nat) × (Nat → Nat → Int32) × (Nat → Nat → Int64)) => True) (fun u t => va_P D vwCl [(h0, .inl (c 1, 16, .inl (fun _ => (-1))))] t.heap ∧ va_D (va_A [(h0, .inl (c 1, 16, .inl (fun _ => 0)))] sz) [(h0, .inl (c 1, 16, .inl (fun _ => (-1))))]) (va_A [(h0, .inl (c 1, 16, .inl (fun _ => 0)))] sz)) 0 0 (va_A [(h0, .inl (c 1, 16, .inl (fun _ => 0)))] sz) := by
  refine Met.ofW (cc := cJ7_fill_53178) (maxL := 4) (ret := none) (by decide) rfl ?_
  intro p e s m args below meth cd s₁ B hml hv
  obtain ⟨rfl, hsz, hP, hD0, hAm, hSt⟩ := hv
  have hx := B.exec
  have hb := B.bytes
  have hr := B.returns
  have hts := atoms_spec (ws := wsJ7_fill_53178) B.pre
  have hown : s.vm.findClass RJ7 = some m.cls := findClass_of_methodNamed B.named
  have hlocks := B.notSynchronized
  subst hsz
  have hK := hAm.1
  have hD := hD0.self (sz := s.heap.size)
  generalize hAe : va_A [(h0, .inl (c 1, 16, .inl (fun _ => 0)))] s.heap.size = A at hD hSt ⊢
  have hA : ∀ q : Nat, s.heap.size ≤ q → A q := fun q h => by rw [← hAe]; exact Or.inr h
  have hS : va_S A s.heap s.heap [] := va_S.rf
  clear hD0 hAe
  have hl := lv_entry ([.ref h0, .int (-1)]) (n := 4) (Nat.le_of_ble_eq_true rfl)
  rw [lg_entry_eq]
  generalize (lg_sl ([.ref h0, .int (-1)]) ++ List.replicate (4 - (lg_sl ([.ref h0, .int (-1)])).length) Slot.unset).toArray = ls at hl ⊢
  have hl : lv_has ls 4 [(0, .ref h0), (1, .int (-1))] := hl
  refine lv_iconst (v := 0) hx hb dJ7_fill_53178_0 (by decide) ?_
  refine lv_istore_n (lv' := [(2, .int 0), (0, .ref h0), (1, .int (-1))]) hx hb dJ7_fill_53178_1 rfl hl (by decide) rfl (fun ls hl => ?_)
  refine lv_aload_n hx hb dJ7_fill_53178_2 rfl (lv_at hl 1 rfl) ?_
  refine va_alen (v := 16) hx hb hK hP 0 1 rfl rfl (show Int32.ofNat 16 = 16 by decide) dJ7_fill_53178_3 ?_
  refine lv_istore_n (lv' := [(3, .int 16), (2, .int 0), (0, .ref h0), (1, .int (-1))]) hx hb dJ7_fill_53178_4 rfl hl (by decide) rfl (fun ls hl => ?_)
  refine lv_iload_n hx hb dJ7_fill_53178_5 rfl (lv_at hl 1 rfl) ?_
  refine lv_iload_n hx hb dJ7_fill_53178_6 rfl (lv_at hl 0 rfl) ?_
  refine iicmp_geF (a := 0) (b := 16) (tgt := 20) hx hb (by decide) (by decide) dJ7_fill_53178_7 (by decide) (by decide) ?_
  refine lv_aload_n hx hb dJ7_fill_53178_10 rfl (lv_at hl 2 rfl) ?_
  refine lv_iload_n hx hb dJ7_fill_53178_11 rfl (lv_at hl 1 rfl) ?_
  refine lv_iload_n hx hb dJ7_fill_53178_12 rfl (lv_at hl 3 rfl) ?_
  refine va_iast hx hb hK hP hD hS 0 1 rfl rfl (vin (a := 0) (by decide) (by decide) (by decide)) dJ7_fill_53178_13 (fun H locs hP hD hS => ?_)
  have hP : va_P D vwCl [(h0, .inl (c 1, 16, .inl (upd (fun _ => 0) 0 (-1))))] H := hP
  have hD : va_D A [(h0, .inl (c 1, 16, .inl (upd (fun _ => 0) 0 (-1))))] := hD
  refine lv_iinc (v := 1) (lv' := [(2, .int 1), (3, .int 16), (0, .ref h0), (1, .int (-1))]) hx hb dJ7_fill_53178_14 hl (k := 1) rfl (by decide) (by decide) rfl (fun ls hl => ?_)
  refine lv_goto (tgt := 5) hx hb dJ7_fill_53178_17 (by decide) ?_
  refine lv_iload_n hx hb dJ7_fill_53178_5 rfl (lv_at hl 0 rfl) ?_
  refine lv_iload_n hx hb dJ7_fill_53178_6 rfl (lv_at hl 1 rfl) ?_
  refine iicmp_geF (a := 1) (b := 16) (tgt := 20) hx hb (by decide) (by decide) dJ7_fill_53178_7 (by decide) (by decide) ?_
  refine lv_aload_n hx hb dJ7_fill_53178_10 rfl (lv_at hl 2 rfl) ?_
  refine lv_iload_n hx hb dJ7_fill_53178_11 rfl (lv_at hl 0 rfl) ?_
  refine lv_iload_n hx hb dJ7_fill_53178_12 rfl (lv_at hl 3 rfl) ?_
  refine va_iast hx hb hK hP hD hS 0 1 rfl rfl (vin (a := 1) (by decide) (by decide) (by decide)) dJ7_fill_53178_13 (fun H locs hP hD hS => ?_)
  have hP : va_P D vwCl [(h0, .inl (c 1, 16, .inl (upd (upd (fun _ => 0) 0 (-1)) 1 (-1))))] H := hP
  have hD : va_D A [(h0, .inl (c 1, 16, .inl (upd (upd (fun _ => 0) 0 (-1)) 1 (-1))))] := hD
  refine lv_iinc (v := 2) (lv' := [(2, .int 2), (3, .int 16), (0, .ref h0), (1, .int (-1))]) hx hb dJ7_fill_53178_14 hl (k := 0) rfl (by decide) (by decide) rfl (fun ls hl => ?_)
  refine lv_goto (tgt := 5) hx hb dJ7_fill_53178_17 (by decide) ?_
  refine lv_iload_n hx hb dJ7_fill_53178_5 rfl (lv_at hl 0 rfl) ?_
  refine lv_iload_n hx hb dJ7_fill_53178_6 rfl (lv_at hl 1 rfl) ?_
  refine iicmp_geF (a := 2) (b := 16) (tgt := 20) hx hb (by decide) (by decide) dJ7_fill_53178_7 (by decide) (by decide) ?_
  refine lv_aload_n hx hb dJ7_fill_53178_10 rfl (lv_at hl 2 rfl) ?_
  refine lv_iload_n hx hb dJ7_fill_53178_11 rfl (lv_at hl 0 rfl) ?_
  refine lv_iload_n hx hb dJ7_fill_53178_12 rfl (lv_at hl 3 rfl) ?_
  refine va_iast hx hb hK hP hD hS 0 1 rfl rfl (vin (a := 2) (by decide) (by decide) (by decide)) dJ7_fill_53178_13 (fun H locs hP hD hS => ?_)
  have hP : va_P D vwCl [(h0, .inl (c 1, 16, .inl (upd (upd (upd (fun _ => 0) 0 (-1)) 1 (-1)) 2 (-1))))] H := hP
  have hD : va_D A [(h0, .inl (c 1, 16, .inl (upd (upd (upd (fun _ => 0) 0 (-1)) 1 (-1)) 2 (-1))))] := hD
  refine lv_iinc (v := 3) (lv' := [(2, .int 3), (3, .int 16), (0, .ref h0), (1, .int (-1))]) hx hb dJ7_fill_53178_14 hl (k := 0) rfl (by decide) (by decide) rfl (fun ls hl => ?_)
  refine lv_goto (tgt := 5) hx hb dJ7_fill_53178_17 (by decide) ?_
  refine lv_iload_n hx hb dJ7_fill_53178_5 rfl (lv_at hl 0 rfl) ?_
  refine lv_iload_n hx hb dJ7_fill_53178_6 rfl (lv_at hl 1 rfl) ?_
  refine iicmp_geF (a := 3) (b := 16) (tgt := 20) hx hb (by decide) (by decide) dJ7_fill_53178_7 (by decide) (by decide) ?_
  refine lv_aload_n hx hb dJ7_fill_53178_10 rfl (lv_at hl 2 rfl) ?_
  refine lv_iload_n hx hb dJ7_fill_53178_11 rfl (lv_at hl 0 rfl) ?_
  refine lv_iload_n hx hb dJ7_fill_53178_12 rfl (lv_at hl 3 rfl) ?_
  refine va_iast hx hb hK hP hD hS 0 1 rfl rfl (vin (a := 3) (by decide) (by decide) (by decide)) dJ7_fill_53178_13 (fun H locs hP hD hS => ?_)
  have hP : va_P D vwCl [(h0, .inl (c 1, 16, .inl (upd (upd (upd (upd (fun _ => 0) 0 (-1)) 1 (-1)) 2 (-1)) 3 (-1))))] H := hP
  have hD : va_D A [(h0, .inl (c 1, 16, .inl (upd (upd (upd (upd (fun _ => 0) 0 (-1)) 1 (-1)) 2 (-1)) 3 (-1))))] := hD
  refine lv_iinc (v := 4) (lv' := [(2, .int 4), (3, .int 16), (0, .ref h0), (1, .int (-1))]) hx hb dJ7_fill_53178_14 hl (k := 0) rfl (by decide) (by decide) rfl (fun ls hl => ?_)
  refine lv_goto (tgt := 5) hx hb dJ7_fill_53178_17 (by decide) ?_
  refine lv_iload_n hx hb dJ7_fill_53178_5 rfl (lv_at hl 0 rfl) ?_
  refine lv_iload_n hx hb dJ7_fill_53178_6 rfl (lv_at hl 1 rfl) ?_
  refine iicmp_geF (a := 4) (b := 16) (tgt := 20) hx hb (by decide) (by decide) dJ7_fill_53178_7 (by decide) (by decide) ?_
  refine lv_aload_n hx hb dJ7_fill_53178_10 rfl (lv_at hl 2 rfl) ?_
  refine lv_iload_n hx hb dJ7_fill_53178_11 rfl (lv_at hl 0 rfl) ?_
  refine lv_iload_n hx hb dJ7_fill_53178_12 rfl (lv_at hl 3 rfl) ?_
  refine va_iast hx hb hK hP hD hS 0 1 rfl rfl (vin (a := 4) (by decide) (by decide) (by decide)) dJ7_fill_53178_13 (fun H locs hP hD hS => ?_)
  have hP : va_P D vwCl [(h0, .inl (c 1, 16, .inl (upd (upd (upd (upd (upd (fun _ => 0) 0 (-1)) 1 (-1)) 2 (-1)) 3 (-1)) 4 (-1))))] H := hP
  have hD : va_D A [(h0, .inl (c 1, 16, .inl (upd (upd (upd (upd (upd (fun _ => 0) 0 (-1)) 1 (-1)) 2 (-1)) 3 (-1)) 4 (-1))))] := hD
  refine lv_iinc (v := 5) (lv' := [(2, .int 5), (3, .int 16), (0, .ref h0), (1, .int (-1))]) hx hb dJ7_fill_53178_14 hl (k := 0) rfl (by decide) (by decide) rfl (fun ls hl => ?_)
  refine lv_goto (tgt := 5) hx hb dJ7_fill_53178_17 (by decide) ?_
  refine lv_iload_n hx hb dJ7_fill_53178_5 rfl (lv_at hl 0 rfl) ?_
  refine lv_iload_n hx hb dJ7_fill_53178_6 rfl (lv_at hl 1 rfl) ?_
  refine iicmp_geF (a := 5) (b := 16) (tgt := 20) hx hb (by decide) (by decide) dJ7_fill_53178_7 (by decide) (by decide) ?_
  refine lv_aload_n hx hb dJ7_fill_53178_10 rfl (lv_at hl 2 rfl) ?_
  refine lv_iload_n hx hb dJ7_fill_53178_11 rfl (lv_at hl 0 rfl) ?_
  refine lv_iload_n hx hb dJ7_fill_53178_12 rfl (lv_at hl 3 rfl) ?_
  refine va_iast hx hb hK hP hD hS 0 1 rfl rfl (vin (a := 5) (by decide) (by decide) (by decide)) dJ7_fill_53178_13 (fun H locs hP hD hS => ?_)
  have hP : va_P D vwCl [(h0, .inl (c 1, 16, .inl (upd (upd (upd (upd (upd (upd (fun _ => 0) 0 (-1)) 1 (-1)) 2 (-1)) 3 (-1)) 4 (-1)) 5 (-1))))] H := hP
  have hD : va_D A [(h0, .inl (c 1, 16, .inl (upd (upd (upd (upd (upd (upd (fun _ => 0) 0 (-1)) 1 (-1)) 2 (-1)) 3 (-1)) 4 (-1)) 5 (-1))))] := hD
  refine lv_iinc (v := 6) (lv' := [(2, .int 6), (3, .int 16), (0, .ref h0), (1, .int (-1))]) hx hb dJ7_fill_53178_14 hl (k := 0) rfl (by decide) (by decide) rfl (fun ls hl => ?_)
  refine lv_goto (tgt := 5) hx hb dJ7_fill_53178_17 (by decide) ?_
  refine lv_iload_n hx hb dJ7_fill_53178_5 rfl (lv_at hl 0 rfl) ?_
  refine lv_iload_n hx hb dJ7_fill_53178_6 rfl (lv_at hl 1 rfl) ?_
  refine iicmp_geF (a := 6) (b := 16) (tgt := 20) hx hb (by decide) (by decide) dJ7_fill_53178_7 (by decide) (by decide) ?_
  refine lv_aload_n hx hb dJ7_fill_53178_10 rfl (lv_at hl 2 rfl) ?_
  refine lv_iload_n hx hb dJ7_fill_53178_11 rfl (lv_at hl 0 rfl) ?_
  refine lv_iload_n hx hb dJ7_fill_53178_12 rfl (lv_at hl 3 rfl) ?_
  refine va_iast hx hb hK hP hD hS 0 1 rfl rfl (vin (a := 6) (by decide) (by decide) (by decide)) dJ7_fill_53178_13 (fun H locs hP hD hS => ?_)
  have hP : va_P D vwCl [(h0, .inl (c 1, 16, .inl (upd (upd (upd (upd (upd (upd (upd (fun _ => 0) 0 (-1)) 1 (-1)) 2 (-1)) 3 (-1)) 4 (-1)) 5 (-1)) 6 (-1))))] H := hP
  have hD : va_D A [(h0, .inl (c 1, 16, .inl (upd (upd (upd (upd (upd (upd (upd (fun _ => 0) 0 (-1)) 1 (-1)) 2 (-1)) 3 (-1)) 4 (-1)) 5 (-1)) 6 (-1))))] := hD
  refine lv_iinc (v := 7) (lv' := [(2, .int 7), (3, .int 16), (0, .ref h0), (1, .int (-1))]) hx hb dJ7_fill_53178_14 hl (k := 0) rfl (by decide) (by decide) rfl (fun ls hl => ?_)
  refine lv_goto (tgt := 5) hx hb dJ7_fill_53178_17 (by decide) ?_
  refine lv_iload_n hx hb dJ7_fill_53178_5 rfl (lv_at hl 0 rfl) ?_
  refine lv_iload_n hx hb dJ7_fill_53178_6 rfl (lv_at hl 1 rfl) ?_
  refine iicmp_geF (a := 7) (b := 16) (tgt := 20) hx hb (by decide) (by decide) dJ7_fill_53178_7 (by decide) (by decide) ?_
  refine lv_aload_n hx hb dJ7_fill_53178_10 rfl (lv_at hl 2 rfl) ?_
  refine lv_iload_n hx hb dJ7_fill_53178_11 rfl (lv_at hl 0 rfl) ?_
  refine lv_iload_n hx hb dJ7_fill_53178_12 rfl (lv_at hl 3 rfl) ?_
  refine va_iast hx hb hK hP hD hS 0 1 rfl rfl (vin (a := 7) (by decide) (by decide) (by decide)) dJ7_fill_53178_13 (fun H locs hP hD hS => ?_)
  have hP : va_P D vwCl [(h0, .inl (c 1, 16, .inl (upd (upd (upd (upd (upd (upd (upd (upd (fun _ => 0) 0 (-1)) 1 (-1)) 2 (-1)) 3 (-1)) 4 (-1)) 5 (-1)) 6 (-1)) 7 (-1))))] H := hP
  have hD : va_D A [(h0, .inl (c 1, 16, .inl (upd (upd (upd (upd (upd (upd (upd (upd (fun _ => 0) 0 (-1)) 1 (-1)) 2 (-1)) 3 (-1)) 4 (-1)) 5 (-1)) 6 (-1)) 7 (-1))))] := hD
  refine lv_iinc (v := 8) (lv' := [(2, .int 8), (3, .int 16), (0, .ref h0), (1, .int (-1))]) hx hb dJ7_fill_53178_14 hl (k := 0) rfl (by decide) (by decide) rfl (fun ls hl => ?_)
  refine lv_goto (tgt := 5) hx hb dJ7_fill_53178_17 (by decide) ?_
  refine lv_iload_n hx hb dJ7_fill_53178_5 rfl (lv_at hl 0 rfl) ?_
  refine lv_iload_n hx hb dJ7_fill_53178_6 rfl (lv_at hl 1 rfl) ?_
  refine iicmp_geF (a := 8) (b := 16) (tgt := 20) hx hb (by decide) (by decide) dJ7_fill_53178_7 (by decide) (by decide) ?_
  refine lv_aload_n hx hb dJ7_fill_53178_10 rfl (lv_at hl 2 rfl) ?_
  refine lv_iload_n hx hb dJ7_fill_53178_11 rfl (lv_at hl 0 rfl) ?_
  refine lv_iload_n hx hb dJ7_fill_53178_12 rfl (lv_at hl 3 rfl) ?_
  refine va_iast hx hb hK hP hD hS 0 1 rfl rfl (vin (a := 8) (by decide) (by decide) (by decide)) dJ7_fill_53178_13 (fun H locs hP hD hS => ?_)
  have hP : va_P D vwCl [(h0, .inl (c 1, 16, .inl (upd (upd (upd (upd (upd (upd (upd (upd (upd (fun _ => 0) 0 (-1)) 1 (-1)) 2 (-1)) 3 (-1)) 4 (-1)) 5 (-1)) 6 (-1)) 7 (-1)) 8 (-1))))] H := hP
  have hD : va_D A [(h0, .inl (c 1, 16, .inl (upd (upd (upd (upd (upd (upd (upd (upd (upd (fun _ => 0) 0 (-1)) 1 (-1)) 2 (-1)) 3 (-1)) 4 (-1)) 5 (-1)) 6 (-1)) 7 (-1)) 8 (-1))))] := hD
  refine lv_iinc (v := 9) (lv' := [(2, .int 9), (3, .int 16), (0, .ref h0), (1, .int (-1))]) hx hb dJ7_fill_53178_14 hl (k := 0) rfl (by decide) (by decide) rfl (fun ls hl => ?_)
  refine lv_goto (tgt := 5) hx hb dJ7_fill_53178_17 (by decide) ?_
  refine lv_iload_n hx hb dJ7_fill_53178_5 rfl (lv_at hl 0 rfl) ?_
  refine lv_iload_n hx hb dJ7_fill_53178_6 rfl (lv_at hl 1 rfl) ?_
  refine iicmp_geF (a := 9) (b := 16) (tgt := 20) hx hb (by decide) (by decide) dJ7_fill_53178_7 (by decide) (by decide) ?_
  refine lv_aload_n hx hb dJ7_fill_53178_10 rfl (lv_at hl 2 rfl) ?_
  refine lv_iload_n hx hb dJ7_fill_53178_11 rfl (lv_at hl 0 rfl) ?_
  refine lv_iload_n hx hb dJ7_fill_53178_12 rfl (lv_at hl 3 rfl) ?_
  refine va_iast hx hb hK hP hD hS 0 1 rfl rfl (vin (a := 9) (by decide) (by decide) (by decide)) dJ7_fill_53178_13 (fun H locs hP hD hS => ?_)
  have hP : va_P D vwCl [(h0, .inl (c 1, 16, .inl (upd (upd (upd (upd (upd (upd (upd (upd (upd (upd (fun _ => 0) 0 (-1)) 1 (-1)) 2 (-1)) 3 (-1)) 4 (-1)) 5 (-1)) 6 (-1)) 7 (-1)) 8 (-1)) 9 (-1))))] H := hP
  have hD : va_D A [(h0, .inl (c 1, 16, .inl (upd (upd (upd (upd (upd (upd (upd (upd (upd (upd (fun _ => 0) 0 (-1)) 1 (-1)) 2 (-1)) 3 (-1)) 4 (-1)) 5 (-1)) 6 (-1)) 7 (-1)) 8 (-1)) 9 (-1))))] := hD
  refine lv_iinc (v := 10) (lv' := [(2, .int 10), (3, .int 16), (0, .ref h0), (1, .int (-1))]) hx hb dJ7_fill_53178_14 hl (k := 0) rfl (by decide) (by decide) rfl (fun ls hl => ?_)
  refine lv_goto (tgt := 5) hx hb dJ7_fill_53178_17 (by decide) ?_
  refine lv_iload_n hx hb dJ7_fill_53178_5 rfl (lv_at hl 0 rfl) ?_
  refine lv_iload_n hx hb dJ7_fill_53178_6 rfl (lv_at hl 1 rfl) ?_
  refine iicmp_geF (a := 10) (b := 16) (tgt := 20) hx hb (by decide) (by decide) dJ7_fill_53178_7 (by decide) (by decide) ?_
  refine lv_aload_n hx hb dJ7_fill_53178_10 rfl (lv_at hl 2 rfl) ?_
  refine lv_iload_n hx hb dJ7_fill_53178_11 rfl (lv_at hl 0 rfl) ?_
  refine lv_iload_n hx hb dJ7_fill_53178_12 rfl (lv_at hl 3 rfl) ?_
  refine va_iast hx hb hK hP hD hS 0 1 rfl rfl (vin (a := 10) (by decide) (by decide) (by decide)) dJ7_fill_53178_13 (fun H locs hP hD hS => ?_)
  have hP : va_P D vwCl [(h0, .inl (c 1, 16, .inl (upd (upd (upd (upd (upd (upd (upd (upd (upd (upd (upd (fun _ => 0) 0 (-1)) 1 (-1)) 2 (-1)) 3 (-1)) 4 (-1)) 5 (-1)) 6 (-1)) 7 (-1)) 8 (-1)) 9 (-1)) 10 (-1))))] H := hP
  have hD : va_D A [(h0, .inl (c 1, 16, .inl (upd (upd (upd (upd (upd (upd (upd (upd (upd (upd (upd (fun _ => 0) 0 (-1)) 1 (-1)) 2 (-1)) 3 (-1)) 4 (-1)) 5 (-1)) 6 (-1)) 7 (-1)) 8 (-1)) 9 (-1)) 10 (-1))))] := hD
  refine lv_iinc (v := 11) (lv' := [(2, .int 11), (3, .int 16), (0, .ref h0), (1, .int (-1))]) hx hb dJ7_fill_53178_14 hl (k := 0) rfl (by decide) (by decide) rfl (fun ls hl => ?_)
  refine lv_goto (tgt := 5) hx hb dJ7_fill_53178_17 (by decide) ?_
  refine lv_iload_n hx hb dJ7_fill_53178_5 rfl (lv_at hl 0 rfl) ?_
  refine lv_iload_n hx hb dJ7_fill_53178_6 rfl (lv_at hl 1 rfl) ?_
  refine iicmp_geF (a := 11) (b := 16) (tgt := 20) hx hb (by decide) (by decide) dJ7_fill_53178_7 (by decide) (by decide) ?_
  refine lv_aload_n hx hb dJ7_fill_53178_10 rfl (lv_at hl 2 rfl) ?_
  refine lv_iload_n hx hb dJ7_fill_53178_11 rfl (lv_at hl 0 rfl) ?_
  refine lv_iload_n hx hb dJ7_fill_53178_12 rfl (lv_at hl 3 rfl) ?_
  refine va_iast hx hb hK hP hD hS 0 1 rfl rfl (vin (a := 11) (by decide) (by decide) (by decide)) dJ7_fill_53178_13 (fun H locs hP hD hS => ?_)
  have hP : va_P D vwCl [(h0, .inl (c 1, 16, .inl (upd (upd (upd (upd (upd (upd (upd (upd (upd (upd (upd (upd (fun _ => 0) 0 (-1)) 1 (-1)) 2 (-1)) 3 (-1)) 4 (-1)) 5 (-1)) 6 (-1)) 7 (-1)) 8 (-1)) 9 (-1)) 10 (-1)) 11 (-1))))] H := hP
  have hD : va_D A [(h0, .inl (c 1, 16, .inl (upd (upd (upd (upd (upd (upd (upd (upd (upd (upd (upd (upd (fun _ => 0) 0 (-1)) 1 (-1)) 2 (-1)) 3 (-1)) 4 (-1)) 5 (-1)) 6 (-1)) 7 (-1)) 8 (-1)) 9 (-1)) 10 (-1)) 11 (-1))))] := hD
  refine lv_iinc (v := 12) (lv' := [(2, .int 12), (3, .int 16), (0, .ref h0), (1, .int (-1))]) hx hb dJ7_fill_53178_14 hl (k := 0) rfl (by decide) (by decide) rfl (fun ls hl => ?_)
  refine lv_goto (tgt := 5) hx hb dJ7_fill_53178_17 (by decide) ?_
  refine lv_iload_n hx hb dJ7_fill_53178_5 rfl (lv_at hl 0 rfl) ?_
  refine lv_iload_n hx hb dJ7_fill_53178_6 rfl (lv_at hl 1 rfl) ?_
  refine iicmp_geF (a := 12) (b := 16) (tgt := 20) hx hb (by decide) (by decide) dJ7_fill_53178_7 (by decide) (by decide) ?_
  refine lv_aload_n hx hb dJ7_fill_53178_10 rfl (lv_at hl 2 rfl) ?_
  refine lv_iload_n hx hb dJ7_fill_53178_11 rfl (lv_at hl 0 rfl) ?_
  refine lv_iload_n hx hb dJ7_fill_53178_12 rfl (lv_at hl 3 rfl) ?_
  refine va_iast hx hb hK hP hD hS 0 1 rfl rfl (vin (a := 12) (by decide) (by decide) (by decide)) dJ7_fill_53178_13 (fun H locs hP hD hS => ?_)
  have hP : va_P D vwCl [(h0, .inl (c 1, 16, .inl (upd (upd (upd (upd (upd (upd (upd (upd (upd (upd (upd (upd (upd (fun _ => 0) 0 (-1)) 1 (-1)) 2 (-1)) 3 (-1)) 4 (-1)) 5 (-1)) 6 (-1)) 7 (-1)) 8 (-1)) 9 (-1)) 10 (-1)) 11 (-1)) 12 (-1))))] H := hP
  have hD : va_D A [(h0, .inl (c 1, 16, .inl (upd (upd (upd (upd (upd (upd (upd (upd (upd (upd (upd (upd (upd (fun _ => 0) 0 (-1)) 1 (-1)) 2 (-1)) 3 (-1)) 4 (-1)) 5 (-1)) 6 (-1)) 7 (-1)) 8 (-1)) 9 (-1)) 10 (-1)) 11 (-1)) 12 (-1))))] := hD
  refine lv_iinc (v := 13) (lv' := [(2, .int 13), (3, .int 16), (0, .ref h0), (1, .int (-1))]) hx hb dJ7_fill_53178_14 hl (k := 0) rfl (by decide) (by decide) rfl (fun ls hl => ?_)
  refine lv_goto (tgt := 5) hx hb dJ7_fill_53178_17 (by decide) ?_
  refine lv_iload_n hx hb dJ7_fill_53178_5 rfl (lv_at hl 0 rfl) ?_
  refine lv_iload_n hx hb dJ7_fill_53178_6 rfl (lv_at hl 1 rfl) ?_
  refine iicmp_geF (a := 13) (b := 16) (tgt := 20) hx hb (by decide) (by decide) dJ7_fill_53178_7 (by decide) (by decide) ?_
  refine lv_aload_n hx hb dJ7_fill_53178_10 rfl (lv_at hl 2 rfl) ?_
  refine lv_iload_n hx hb dJ7_fill_53178_11 rfl (lv_at hl 0 rfl) ?_
  refine lv_iload_n hx hb dJ7_fill_53178_12 rfl (lv_at hl 3 rfl) ?_
  refine va_iast hx hb hK hP hD hS 0 1 rfl rfl (vin (a := 13) (by decide) (by decide) (by decide)) dJ7_fill_53178_13 (fun H locs hP hD hS => ?_)
  have hP : va_P D vwCl [(h0, .inl (c 1, 16, .inl (upd (upd (upd (upd (upd (upd (upd (upd (upd (upd (upd (upd (upd (upd (fun _ => 0) 0 (-1)) 1 (-1)) 2 (-1)) 3 (-1)) 4 (-1)) 5 (-1)) 6 (-1)) 7 (-1)) 8 (-1)) 9 (-1)) 10 (-1)) 11 (-1)) 12 (-1)) 13 (-1))))] H := hP
  have hD : va_D A [(h0, .inl (c 1, 16, .inl (upd (upd (upd (upd (upd (upd (upd (upd (upd (upd (upd (upd (upd (upd (fun _ => 0) 0 (-1)) 1 (-1)) 2 (-1)) 3 (-1)) 4 (-1)) 5 (-1)) 6 (-1)) 7 (-1)) 8 (-1)) 9 (-1)) 10 (-1)) 11 (-1)) 12 (-1)) 13 (-1))))] := hD
  refine lv_iinc (v := 14) (lv' := [(2, .int 14), (3, .int 16), (0, .ref h0), (1, .int (-1))]) hx hb dJ7_fill_53178_14 hl (k := 0) rfl (by decide) (by decide) rfl (fun ls hl => ?_)
  refine lv_goto (tgt := 5) hx hb dJ7_fill_53178_17 (by decide) ?_
  refine lv_iload_n hx hb dJ7_fill_53178_5 rfl (lv_at hl 0 rfl) ?_
  refine lv_iload_n hx hb dJ7_fill_53178_6 rfl (lv_at hl 1 rfl) ?_
  refine iicmp_geF (a := 14) (b := 16) (tgt := 20) hx hb (by decide) (by decide) dJ7_fill_53178_7 (by decide) (by decide) ?_
  refine lv_aload_n hx hb dJ7_fill_53178_10 rfl (lv_at hl 2 rfl) ?_
  refine lv_iload_n hx hb dJ7_fill_53178_11 rfl (lv_at hl 0 rfl) ?_
  refine lv_iload_n hx hb dJ7_fill_53178_12 rfl (lv_at hl 3 rfl) ?_
  refine va_iast hx hb hK hP hD hS 0 1 rfl rfl (vin (a := 14) (by decide) (by decide) (by decide)) dJ7_fill_53178_13 (fun H locs hP hD hS => ?_)
  have hP : va_P D vwCl [(h0, .inl (c 1, 16, .inl (upd (upd (upd (upd (upd (upd (upd (upd (upd (upd (upd (upd (upd (upd (upd (fun _ => 0) 0 (-1)) 1 (-1)) 2 (-1)) 3 (-1)) 4 (-1)) 5 (-1)) 6 (-1)) 7 (-1)) 8 (-1)) 9 (-1)) 10 (-1)) 11 (-1)) 12 (-1)) 13 (-1)) 14 (-1))))] H := hP
  have hD : va_D A [(h0, .inl (c 1, 16, .inl (upd (upd (upd (upd (upd (upd (upd (upd (upd (upd (upd (upd (upd (upd (upd (fun _ => 0) 0 (-1)) 1 (-1)) 2 (-1)) 3 (-1)) 4 (-1)) 5 (-1)) 6 (-1)) 7 (-1)) 8 (-1)) 9 (-1)) 10 (-1)) 11 (-1)) 12 (-1)) 13 (-1)) 14 (-1))))] := hD
  refine lv_iinc (v := 15) (lv' := [(2, .int 15), (3, .int 16), (0, .ref h0), (1, .int (-1))]) hx hb dJ7_fill_53178_14 hl (k := 0) rfl (by decide) (by decide) rfl (fun ls hl => ?_)
  refine lv_goto (tgt := 5) hx hb dJ7_fill_53178_17 (by decide) ?_
  refine lv_iload_n hx hb dJ7_fill_53178_5 rfl (lv_at hl 0 rfl) ?_
  refine lv_iload_n hx hb dJ7_fill_53178_6 rfl (lv_at hl 1 rfl) ?_
  refine iicmp_geF (a := 15) (b := 16) (tgt := 20) hx hb (by decide) (by decide) dJ7_fill_53178_7 (by decide) (by decide) ?_
  refine lv_aload_n hx hb dJ7_fill_53178_10 rfl (lv_at hl 2 rfl) ?_
  refine lv_iload_n hx hb dJ7_fill_53178_11 rfl (lv_at hl 0 rfl) ?_
  refine lv_iload_n hx hb dJ7_fill_53178_12 rfl (lv_at hl 3 rfl) ?_
  refine va_iast hx hb hK hP hD hS 0 1 rfl rfl (vin (a := 15) (by decide) (by decide) (by decide)) dJ7_fill_53178_13 (fun H locs hP hD hS => ?_)
  have hP : va_P D vwCl [(h0, .inl (c 1, 16, .inl (upd (upd (upd (upd (upd (upd (upd (upd (upd (upd (upd (upd (upd (upd (upd (upd (fun _ => 0) 0 (-1)) 1 (-1)) 2 (-1)) 3 (-1)) 4 (-1)) 5 (-1)) 6 (-1)) 7 (-1)) 8 (-1)) 9 (-1)) 10 (-1)) 11 (-1)) 12 (-1)) 13 (-1)) 14 (-1)) 15 (-1))))] H := hP
  have hD : va_D A [(h0, .inl (c 1, 16, .inl (upd (upd (upd (upd (upd (upd (upd (upd (upd (upd (upd (upd (upd (upd (upd (upd (fun _ => 0) 0 (-1)) 1 (-1)) 2 (-1)) 3 (-1)) 4 (-1)) 5 (-1)) 6 (-1)) 7 (-1)) 8 (-1)) 9 (-1)) 10 (-1)) 11 (-1)) 12 (-1)) 13 (-1)) 14 (-1)) 15 (-1))))] := hD
  refine lv_iinc (v := 16) (lv' := [(2, .int 16), (3, .int 16), (0, .ref h0), (1, .int (-1))]) hx hb dJ7_fill_53178_14 hl (k := 0) rfl (by decide) (by decide) rfl (fun ls hl => ?_)
  refine lv_goto (tgt := 5) hx hb dJ7_fill_53178_17 (by decide) ?_
  refine lv_iload_n hx hb dJ7_fill_53178_5 rfl (lv_at hl 0 rfl) ?_
  refine lv_iload_n hx hb dJ7_fill_53178_6 rfl (lv_at hl 1 rfl) ?_
  refine iicmp_geT (a := 16) (b := 16) (tgt := 20) hx hb (by decide) (by decide) dJ7_fill_53178_7 (by decide) (by decide) ?_
  obtain ⟨hP, hD⟩ := va_P.fset hP hD 0 rfl (fun _ => (-1)) (by decide)
  have hP : va_P D vwCl [(h0, .inl (c 1, 16, .inl (fun _ => (-1))))] H := hP
  have hD : va_D A [(h0, .inl (c 1, 16, .inl (fun _ => (-1))))] := hD
  have hP9 := hP.sub (ws' := [(h0, .inl (c 1, 16, .inl (fun _ => (-1))))]) [0] rfl
  have hD9 := hD.sub (ws' := [(h0, .inl (c 1, 16, .inl (fun _ => (-1))))]) [0] (by decide) rfl
  refine W.widen (k := 0) (n := 0) (by omega) (by omega) ?_
  exact W.vret hx hb hr (fun t ht hW => ⟨⟨(fun k => [].getD k 0, fun k => [].getD k (fun _ => 0), fun k => [].getD k (fun _ => 0)), rfl, trivial, ⟨by rw [ht]; exact hP9, hD9⟩⟩, hS.F ht⟩) hS.2.2 dJ7_fill_53178_20

set_option maxHeartbeats 4000000 in
set_option maxRecDepth 100000 in
theorem c_J7_fill_53178_1 (l : Launch) (D : va_G) (c : Nat → ClassId) (ts : Nat × Nat) (sz : Nat) (h0 : Nat) : Met l yJ7_fill_53178 wsJ7_fill_53178 ({ frames := 0, cells := 0, slots := 0, locals := 0 }) (va_Pc [.ref h0, .int (-1)] (Pre0 D c ts [(h0, .inl (c 1, 8, .inl (fun _ => 0)))] sz)) (va_Qv (fun (u : (Nat → Nat) × (Nat → Nat → Int32) × (Nat → Nat → Int64)) => True) (fun u t => va_P D vwCl [(h0, .inl (c 1, 8, .inl (fun _ => (-1))))] t.heap ∧ va_D (va_A [(h0, .inl (c 1, 8, .inl (fun _ => 0)))] sz) [(h0, .inl (c 1, 8, .inl (fun _ => (-1))))]) (va_A [(h0, .inl (c 1, 8, .inl (fun _ => 0)))] sz)) 0 0 (va_A [(h0, .inl (c 1, 8, .inl (fun _ => 0)))] sz) := by
  refine Met.ofW (cc := cJ7_fill_53178) (maxL := 4) (ret := none) (by decide) rfl ?_
  intro p e s m args below meth cd s₁ B hml hv
  obtain ⟨rfl, hsz, hP, hD0, hAm, hSt⟩ := hv
  have hx := B.exec
  have hb := B.bytes
  have hr := B.returns
  have hts := atoms_spec (ws := wsJ7_fill_53178) B.pre
  have hown : s.vm.findClass RJ7 = some m.cls := findClass_of_methodNamed B.named
  have hlocks := B.notSynchronized
  subst hsz
  have hK := hAm.1
  have hD := hD0.self (sz := s.heap.size)
  generalize hAe : va_A [(h0, .inl (c 1, 8, .inl (fun _ => 0)))] s.heap.size = A at hD hSt ⊢
  have hA : ∀ q : Nat, s.heap.size ≤ q → A q := fun q h => by rw [← hAe]; exact Or.inr h
  have hS : va_S A s.heap s.heap [] := va_S.rf
  clear hD0 hAe
  have hl := lv_entry ([.ref h0, .int (-1)]) (n := 4) (Nat.le_of_ble_eq_true rfl)
  rw [lg_entry_eq]
  generalize (lg_sl ([.ref h0, .int (-1)]) ++ List.replicate (4 - (lg_sl ([.ref h0, .int (-1)])).length) Slot.unset).toArray = ls at hl ⊢
  have hl : lv_has ls 4 [(0, .ref h0), (1, .int (-1))] := hl
  refine lv_iconst (v := 0) hx hb dJ7_fill_53178_0 (by decide) ?_
  refine lv_istore_n (lv' := [(2, .int 0), (0, .ref h0), (1, .int (-1))]) hx hb dJ7_fill_53178_1 rfl hl (by decide) rfl (fun ls hl => ?_)
  refine lv_aload_n hx hb dJ7_fill_53178_2 rfl (lv_at hl 1 rfl) ?_
  refine va_alen (v := 8) hx hb hK hP 0 1 rfl rfl (show Int32.ofNat 8 = 8 by decide) dJ7_fill_53178_3 ?_
  refine lv_istore_n (lv' := [(3, .int 8), (2, .int 0), (0, .ref h0), (1, .int (-1))]) hx hb dJ7_fill_53178_4 rfl hl (by decide) rfl (fun ls hl => ?_)
  refine lv_iload_n hx hb dJ7_fill_53178_5 rfl (lv_at hl 1 rfl) ?_
  refine lv_iload_n hx hb dJ7_fill_53178_6 rfl (lv_at hl 0 rfl) ?_
  refine iicmp_geF (a := 0) (b := 8) (tgt := 20) hx hb (by decide) (by decide) dJ7_fill_53178_7 (by decide) (by decide) ?_
  refine lv_aload_n hx hb dJ7_fill_53178_10 rfl (lv_at hl 2 rfl) ?_
  refine lv_iload_n hx hb dJ7_fill_53178_11 rfl (lv_at hl 1 rfl) ?_
  refine lv_iload_n hx hb dJ7_fill_53178_12 rfl (lv_at hl 3 rfl) ?_
  refine va_iast hx hb hK hP hD hS 0 1 rfl rfl (vin (a := 0) (by decide) (by decide) (by decide)) dJ7_fill_53178_13 (fun H locs hP hD hS => ?_)
  have hP : va_P D vwCl [(h0, .inl (c 1, 8, .inl (upd (fun _ => 0) 0 (-1))))] H := hP
  have hD : va_D A [(h0, .inl (c 1, 8, .inl (upd (fun _ => 0) 0 (-1))))] := hD
  refine lv_iinc (v := 1) (lv' := [(2, .int 1), (3, .int 8), (0, .ref h0), (1, .int (-1))]) hx hb dJ7_fill_53178_14 hl (k := 1) rfl (by decide) (by decide) rfl (fun ls hl => ?_)
  refine lv_goto (tgt := 5) hx hb dJ7_fill_53178_17 (by decide) ?_
  refine lv_iload_n hx hb dJ7_fill_53178_5 rfl (lv_at hl 0 rfl) ?_
  refine lv_iload_n hx hb dJ7_fill_53178_6 rfl (lv_at hl 1 rfl) ?_
  refine iicmp_geF (a := 1) (b := 8) (tgt := 20) hx hb (by decide) (by decide) dJ7_fill_53178_7 (by decide) (by decide) ?_
  refine lv_aload_n hx hb dJ7_fill_53178_10 rfl (lv_at hl 2 rfl) ?_
  refine lv_iload_n hx hb dJ7_fill_53178_11 rfl (lv_at hl 0 rfl) ?_
  refine lv_iload_n hx hb dJ7_fill_53178_12 rfl (lv_at hl 3 rfl) ?_
  refine va_iast hx hb hK hP hD hS 0 1 rfl rfl (vin (a := 1) (by decide) (by decide) (by decide)) dJ7_fill_53178_13 (fun H locs hP hD hS => ?_)
  have hP : va_P D vwCl [(h0, .inl (c 1, 8, .inl (upd (upd (fun _ => 0) 0 (-1)) 1 (-1))))] H := hP
  have hD : va_D A [(h0, .inl (c 1, 8, .inl (upd (upd (fun _ => 0) 0 (-1)) 1 (-1))))] := hD
  refine lv_iinc (v := 2) (lv' := [(2, .int 2), (3, .int 8), (0, .ref h0), (1, .int (-1))]) hx hb dJ7_fill_53178_14 hl (k := 0) rfl (by decide) (by decide) rfl (fun ls hl => ?_)
  refine lv_goto (tgt := 5) hx hb dJ7_fill_53178_17 (by decide) ?_
  refine lv_iload_n hx hb dJ7_fill_53178_5 rfl (lv_at hl 0 rfl) ?_
  refine lv_iload_n hx hb dJ7_fill_53178_6 rfl (lv_at hl 1 rfl) ?_
  refine iicmp_geF (a := 2) (b := 8) (tgt := 20) hx hb (by decide) (by decide) dJ7_fill_53178_7 (by decide) (by decide) ?_
  refine lv_aload_n hx hb dJ7_fill_53178_10 rfl (lv_at hl 2 rfl) ?_
  refine lv_iload_n hx hb dJ7_fill_53178_11 rfl (lv_at hl 0 rfl) ?_
  refine lv_iload_n hx hb dJ7_fill_53178_12 rfl (lv_at hl 3 rfl) ?_
  refine va_iast hx hb hK hP hD hS 0 1 rfl rfl (vin (a := 2) (by decide) (by decide) (by decide)) dJ7_fill_53178_13 (fun H locs hP hD hS => ?_)
  have hP : va_P D vwCl [(h0, .inl (c 1, 8, .inl (upd (upd (upd (fun _ => 0) 0 (-1)) 1 (-1)) 2 (-1))))] H := hP
  have hD : va_D A [(h0, .inl (c 1, 8, .inl (upd (upd (upd (fun _ => 0) 0 (-1)) 1 (-1)) 2 (-1))))] := hD
  refine lv_iinc (v := 3) (lv' := [(2, .int 3), (3, .int 8), (0, .ref h0), (1, .int (-1))]) hx hb dJ7_fill_53178_14 hl (k := 0) rfl (by decide) (by decide) rfl (fun ls hl => ?_)
  refine lv_goto (tgt := 5) hx hb dJ7_fill_53178_17 (by decide) ?_
  refine lv_iload_n hx hb dJ7_fill_53178_5 rfl (lv_at hl 0 rfl) ?_
  refine lv_iload_n hx hb dJ7_fill_53178_6 rfl (lv_at hl 1 rfl) ?_
  refine iicmp_geF (a := 3) (b := 8) (tgt := 20) hx hb (by decide) (by decide) dJ7_fill_53178_7 (by decide) (by decide) ?_
  refine lv_aload_n hx hb dJ7_fill_53178_10 rfl (lv_at hl 2 rfl) ?_
  refine lv_iload_n hx hb dJ7_fill_53178_11 rfl (lv_at hl 0 rfl) ?_
  refine lv_iload_n hx hb dJ7_fill_53178_12 rfl (lv_at hl 3 rfl) ?_
  refine va_iast hx hb hK hP hD hS 0 1 rfl rfl (vin (a := 3) (by decide) (by decide) (by decide)) dJ7_fill_53178_13 (fun H locs hP hD hS => ?_)
  have hP : va_P D vwCl [(h0, .inl (c 1, 8, .inl (upd (upd (upd (upd (fun _ => 0) 0 (-1)) 1 (-1)) 2 (-1)) 3 (-1))))] H := hP
  have hD : va_D A [(h0, .inl (c 1, 8, .inl (upd (upd (upd (upd (fun _ => 0) 0 (-1)) 1 (-1)) 2 (-1)) 3 (-1))))] := hD
  refine lv_iinc (v := 4) (lv' := [(2, .int 4), (3, .int 8), (0, .ref h0), (1, .int (-1))]) hx hb dJ7_fill_53178_14 hl (k := 0) rfl (by decide) (by decide) rfl (fun ls hl => ?_)
  refine lv_goto (tgt := 5) hx hb dJ7_fill_53178_17 (by decide) ?_
  refine lv_iload_n hx hb dJ7_fill_53178_5 rfl (lv_at hl 0 rfl) ?_
  refine lv_iload_n hx hb dJ7_fill_53178_6 rfl (lv_at hl 1 rfl) ?_
  refine iicmp_geF (a := 4) (b := 8) (tgt := 20) hx hb (by decide) (by decide) dJ7_fill_53178_7 (by decide) (by decide) ?_
  refine lv_aload_n hx hb dJ7_fill_53178_10 rfl (lv_at hl 2 rfl) ?_
  refine lv_iload_n hx hb dJ7_fill_53178_11 rfl (lv_at hl 0 rfl) ?_
  refine lv_iload_n hx hb dJ7_fill_53178_12 rfl (lv_at hl 3 rfl) ?_
  refine va_iast hx hb hK hP hD hS 0 1 rfl rfl (vin (a := 4) (by decide) (by decide) (by decide)) dJ7_fill_53178_13 (fun H locs hP hD hS => ?_)
  have hP : va_P D vwCl [(h0, .inl (c 1, 8, .inl (upd (upd (upd (upd (upd (fun _ => 0) 0 (-1)) 1 (-1)) 2 (-1)) 3 (-1)) 4 (-1))))] H := hP
  have hD : va_D A [(h0, .inl (c 1, 8, .inl (upd (upd (upd (upd (upd (fun _ => 0) 0 (-1)) 1 (-1)) 2 (-1)) 3 (-1)) 4 (-1))))] := hD
  refine lv_iinc (v := 5) (lv' := [(2, .int 5), (3, .int 8), (0, .ref h0), (1, .int (-1))]) hx hb dJ7_fill_53178_14 hl (k := 0) rfl (by decide) (by decide) rfl (fun ls hl => ?_)
  refine lv_goto (tgt := 5) hx hb dJ7_fill_53178_17 (by decide) ?_
  refine lv_iload_n hx hb dJ7_fill_53178_5 rfl (lv_at hl 0 rfl) ?_
  refine lv_iload_n hx hb dJ7_fill_53178_6 rfl (lv_at hl 1 rfl) ?_
  refine iicmp_geF (a := 5) (b := 8) (tgt := 20) hx hb (by decide) (by decide) dJ7_fill_53178_7 (by decide) (by decide) ?_
  refine lv_aload_n hx hb dJ7_fill_53178_10 rfl (lv_at hl 2 rfl) ?_
  refine lv_iload_n hx hb dJ7_fill_53178_11 rfl (lv_at hl 0 rfl) ?_
  refine lv_iload_n hx hb dJ7_fill_53178_12 rfl (lv_at hl 3 rfl) ?_
  refine va_iast hx hb hK hP hD hS 0 1 rfl rfl (vin (a := 5) (by decide) (by decide) (by decide)) dJ7_fill_53178_13 (fun H locs hP hD hS => ?_)
  have hP : va_P D vwCl [(h0, .inl (c 1, 8, .inl (upd (upd (upd (upd (upd (upd (fun _ => 0) 0 (-1)) 1 (-1)) 2 (-1)) 3 (-1)) 4 (-1)) 5 (-1))))] H := hP
  have hD : va_D A [(h0, .inl (c 1, 8, .inl (upd (upd (upd (upd (upd (upd (fun _ => 0) 0 (-1)) 1 (-1)) 2 (-1)) 3 (-1)) 4 (-1)) 5 (-1))))] := hD
  refine lv_iinc (v := 6) (lv' := [(2, .int 6), (3, .int 8), (0, .ref h0), (1, .int (-1))]) hx hb dJ7_fill_53178_14 hl (k := 0) rfl (by decide) (by decide) rfl (fun ls hl => ?_)
  refine lv_goto (tgt := 5) hx hb dJ7_fill_53178_17 (by decide) ?_
  refine lv_iload_n hx hb dJ7_fill_53178_5 rfl (lv_at hl 0 rfl) ?_
  refine lv_iload_n hx hb dJ7_fill_53178_6 rfl (lv_at hl 1 rfl) ?_
  refine iicmp_geF (a := 6) (b := 8) (tgt := 20) hx hb (by decide) (by decide) dJ7_fill_53178_7 (by decide) (by decide) ?_
  refine lv_aload_n hx hb dJ7_fill_53178_10 rfl (lv_at hl 2 rfl) ?_
  refine lv_iload_n hx hb dJ7_fill_53178_11 rfl (lv_at hl 0 rfl) ?_
  refine lv_iload_n hx hb dJ7_fill_53178_12 rfl (lv_at hl 3 rfl) ?_
  refine va_iast hx hb hK hP hD hS 0 1 rfl rfl (vin (a := 6) (by decide) (by decide) (by decide)) dJ7_fill_53178_13 (fun H locs hP hD hS => ?_)
  have hP : va_P D vwCl [(h0, .inl (c 1, 8, .inl (upd (upd (upd (upd (upd (upd (upd (fun _ => 0) 0 (-1)) 1 (-1)) 2 (-1)) 3 (-1)) 4 (-1)) 5 (-1)) 6 (-1))))] H := hP
  have hD : va_D A [(h0, .inl (c 1, 8, .inl (upd (upd (upd (upd (upd (upd (upd (fun _ => 0) 0 (-1)) 1 (-1)) 2 (-1)) 3 (-1)) 4 (-1)) 5 (-1)) 6 (-1))))] := hD
  refine lv_iinc (v := 7) (lv' := [(2, .int 7), (3, .int 8), (0, .ref h0), (1, .int (-1))]) hx hb dJ7_fill_53178_14 hl (k := 0) rfl (by decide) (by decide) rfl (fun ls hl => ?_)
  refine lv_goto (tgt := 5) hx hb dJ7_fill_53178_17 (by decide) ?_
  refine lv_iload_n hx hb dJ7_fill_53178_5 rfl (lv_at hl 0 rfl) ?_
  refine lv_iload_n hx hb dJ7_fill_53178_6 rfl (lv_at hl 1 rfl) ?_
  refine iicmp_geF (a := 7) (b := 8) (tgt := 20) hx hb (by decide) (by decide) dJ7_fill_53178_7 (by decide) (by decide) ?_
  refine lv_aload_n hx hb dJ7_fill_53178_10 rfl (lv_at hl 2 rfl) ?_
  refine lv_iload_n hx hb dJ7_fill_53178_11 rfl (lv_at hl 0 rfl) ?_
  refine lv_iload_n hx hb dJ7_fill_53178_12 rfl (lv_at hl 3 rfl) ?_
  refine va_iast hx hb hK hP hD hS 0 1 rfl rfl (vin (a := 7) (by decide) (by decide) (by decide)) dJ7_fill_53178_13 (fun H locs hP hD hS => ?_)
  have hP : va_P D vwCl [(h0, .inl (c 1, 8, .inl (upd (upd (upd (upd (upd (upd (upd (upd (fun _ => 0) 0 (-1)) 1 (-1)) 2 (-1)) 3 (-1)) 4 (-1)) 5 (-1)) 6 (-1)) 7 (-1))))] H := hP
  have hD : va_D A [(h0, .inl (c 1, 8, .inl (upd (upd (upd (upd (upd (upd (upd (upd (fun _ => 0) 0 (-1)) 1 (-1)) 2 (-1)) 3 (-1)) 4 (-1)) 5 (-1)) 6 (-1)) 7 (-1))))] := hD
  refine lv_iinc (v := 8) (lv' := [(2, .int 8), (3, .int 8), (0, .ref h0), (1, .int (-1))]) hx hb dJ7_fill_53178_14 hl (k := 0) rfl (by decide) (by decide) rfl (fun ls hl => ?_)
  refine lv_goto (tgt := 5) hx hb dJ7_fill_53178_17 (by decide) ?_
  refine lv_iload_n hx hb dJ7_fill_53178_5 rfl (lv_at hl 0 rfl) ?_
  refine lv_iload_n hx hb dJ7_fill_53178_6 rfl (lv_at hl 1 rfl) ?_
  refine iicmp_geT (a := 8) (b := 8) (tgt := 20) hx hb (by decide) (by decide) dJ7_fill_53178_7 (by decide) (by decide) ?_
  obtain ⟨hP, hD⟩ := va_P.fset hP hD 0 rfl (fun _ => (-1)) (by decide)
  have hP : va_P D vwCl [(h0, .inl (c 1, 8, .inl (fun _ => (-1))))] H := hP
  have hD : va_D A [(h0, .inl (c 1, 8, .inl (fun _ => (-1))))] := hD
  have hP9 := hP.sub (ws' := [(h0, .inl (c 1, 8, .inl (fun _ => (-1))))]) [0] rfl
  have hD9 := hD.sub (ws' := [(h0, .inl (c 1, 8, .inl (fun _ => (-1))))]) [0] (by decide) rfl
  refine W.widen (k := 0) (n := 0) (by omega) (by omega) ?_
  exact W.vret hx hb hr (fun t ht hW => ⟨⟨(fun k => [].getD k 0, fun k => [].getD k (fun _ => 0), fun k => [].getD k (fun _ => 0)), rfl, trivial, ⟨by rw [ht]; exact hP9, hD9⟩⟩, hS.F ht⟩) hS.2.2 dJ7_fill_53178_20
