set_option maxHeartbeats 4000000 in
set_option maxRecDepth 100000 in
theorem c_X2_init_3 (l : Launch) (D : va_G) (c : Nat → ClassId) (ts : Nat × Nat) (sz : Nat) (h0 : Nat) : Met l yX2_init wsX2_init ({ frames := 1, cells := 1, slots := 16, locals := 14 }) (va_Pc [.ref h0, .int 1, .int 2000] (Pre0 D c ts [(h0, .inr (2, [.int 0, .int 0, .null, .int 0]))] sz)) (va_Qv (fun (u : (Nat → Nat) × (Nat → Nat → Int32) × (Nat → Nat → Int64)) => True) (fun u t => va_P D vwCl [(h0, .inr (2, [.int 1, .int 2000, .ref ((u.1 0)), .int 0])), ((u.1 0), .inl (c 1, 16, .inl (fun _ => 0)))] t.heap ∧ va_D (va_A [(h0, .inr (2, [.int 0, .int 0, .null, .int 0]))] sz) [(h0, .inr (2, [.int 1, .int 2000, .ref ((u.1 0)), .int 0])), ((u.1 0), .inl (c 1, 16, .inl (fun _ => 0)))]) (va_A [(h0, .inr (2, [.int 0, .int 0, .null, .int 0]))] sz)) 1 16 (va_A [(h0, .inr (2, [.int 0, .int 0, .null, .int 0]))] sz) := by
  refine Met.ofW (cc := cX2_init) (maxL := 3) (ret := none) (by decide) rfl ?_
  intro p e s m args below meth cd s₁ B hml hv
  obtain ⟨rfl, hsz, hP, hD0, hAm, hSt⟩ := hv
  have hx := B.exec
  have hb := B.bytes
  have hr := B.returns
  have hts := atoms_spec (ws := wsX2_init) B.pre
  have hown : s.vm.findClass RX2 = some m.cls := findClass_of_methodNamed B.named
  have hlocks := B.notSynchronized
  have hin : meth.name = "<init>" := (name_of_methodNamed B.named B.method).1
  subst hsz
  have hK := hAm.1
  have hD := hD0.self (sz := s.heap.size)
  generalize hAe : va_A [(h0, .inr (2, [.int 0, .int 0, .null, .int 0]))] s.heap.size = A at hD hSt ⊢
  have hA : ∀ q : Nat, s.heap.size ≤ q → A q := fun q h => by rw [← hAe]; exact Or.inr h
  have hS : va_S A s.heap s.heap [] := va_S.rf
  clear hD0 hAe
  have hl := lv_entry ([.ref h0, .int 1, .int 2000]) (n := 3) (Nat.le_of_ble_eq_true rfl)
  rw [lg_entry_eq]
  generalize (lg_sl ([.ref h0, .int 1, .int 2000]) ++ List.replicate (3 - (lg_sl ([.ref h0, .int 1, .int 2000])).length) Slot.unset).toArray = ls at hl ⊢
  have hl : lv_has ls 3 [(0, .ref h0), (1, .int 1), (2, .int 2000)] := hl
  refine lv_aload_n hx hb dX2_init_0 rfl (lv_at hl 0 rfl) ?_
  refine W.objInit hx hb hown (hts (.methodLink RX2 3 objectInit) (mem_i 1 rfl)) (hts (.instanceMethod objectInit) (mem_i 2 rfl)) (hts (.code objectInit ⟨#[0xb1]⟩ 1 none) (mem_i 3 rfl)) rfl (by rw [hml]; exact hl.1) rfl dX2_init_1 (Nat.le_of_ble_eq_true rfl) (Nat.le_of_ble_eq_true rfl) ?_
  refine W.eq (g2 := F0 m 4 ls []) rfl ?_
  refine lv_aload_n hx hb dX2_init_4 rfl (lv_at hl 0 rfl) ?_
  refine lv_iload_n hx hb dX2_init_5 rfl (lv_at hl 1 rfl) ?_
  refine lv_iconst (v := 1) hx hb dX2_init_6 (by decide) ?_
  refine va_mmax hx hb (by rw [hml]; exact hl.1.symm) hown (hts (.methodLink RX2 9 Lib.Math.max.name) (mem_i 4 rfl)) (hts (.static Lib.Math.max.name) (mem_i 5 rfl)) (hts (.initialized "java/lang/Math") (mem_i 6 rfl)) (hts (.code Lib.Math.max.name Lib.Math.max.code 2 (some .int)) (mem_i 7 rfl)) (Nat.le_of_ble_eq_true rfl) (Nat.le_of_ble_eq_true rfl) (Nat.le_of_ble_eq_true rfl) (Nat.le_of_ble_eq_true rfl) dX2_init_7 ?_
  refine lk_i (y := 1) (by decide) ?_
  refine va_putF (D := D) (ci := 2) (v := .int 1) (ty := .int) (C := RX2) (T := TX2) (N := 4) hx hb hts (fun _ h => List.mem_cons_of_mem _ (List.mem_append_right _ h)) tyX2 tyX2_ok nmX2 hown hK hP hD hS 0 rfl rfl 0 (by decide) (hts (.fieldLink RX2 15 "CrownTable$Rows" "width" "I") (mem_i 8 rfl)) (fun _ h9 => h9) rfl hin rfl (by decide +kernel) rfl rfl (Nat.le_of_ble_eq_true rfl) dX2_init_10 (fun H locs hP hD hS => ?_)
  have hP : va_P D vwCl [(h0, .inr (2, [.int 1, .int 0, .null, .int 0]))] H := hP
  have hD : va_D A [(h0, .inr (2, [.int 1, .int 0, .null, .int 0]))] := hD
  refine lv_aload_n hx hb dX2_init_13 rfl (lv_at hl 0 rfl) ?_
  refine lv_iload_n hx hb dX2_init_14 rfl (lv_at hl 2 rfl) ?_
  refine va_putF (D := D) (ci := 2) (v := .int 2000) (ty := .int) (C := RX2) (T := TX2) (N := 4) hx hb hts (fun _ h => List.mem_cons_of_mem _ (List.mem_append_right _ h)) tyX2 tyX2_ok nmX2 hown hK hP hD hS 0 rfl rfl 1 (by decide) (hts (.fieldLink RX2 21 "CrownTable$Rows" "most" "I") (mem_i 9 rfl)) (fun _ h9 => h9) rfl hin rfl (by decide +kernel) rfl rfl (Nat.le_of_ble_eq_true rfl) dX2_init_15 (fun H locs hP hD hS => ?_)
  have hP : va_P D vwCl [(h0, .inr (2, [.int 1, .int 2000, .null, .int 0]))] H := hP
  have hD : va_D A [(h0, .inr (2, [.int 1, .int 2000, .null, .int 0]))] := hD
  refine lv_aload_n hx hb dX2_init_18 rfl (lv_at hl 0 rfl) ?_
  refine lv_aload_n hx hb dX2_init_19 rfl (lv_at hl 0 rfl) ?_
  refine va_get (D := D) (ci := 2) (v := .int 1) (C := RX2) (T := TX2) (N := 4) hx hb hts (fun _ h => List.mem_cons_of_mem _ (List.mem_append_right _ h)) hown hK hP 0 rfl rfl 0 (by decide) (hts (.fieldLink RX2 15 "CrownTable$Rows" "width" "I") (mem_i 8 rfl)) (fun _ h9 => h9) rfl dX2_init_20 ?_
  refine lv_bipush (v := 16) hx hb dX2_init_23 (by decide) ?_
  refine lv_imul hx hb dX2_init_25 ?_
  refine lk_i (y := 16) (by decide) ?_
  refine va_newa (atype := .int) (ty := .int) (N' := 16) (a0 := (16, .inl (fun _ => 0))) hx hb (hts (.arrayClass .int) (mem_i 10 rfl)) rfl hK hP hD hS hA (fun cA => vp_cell_i cA 16 (fun _ => 0)) (by decide) (by decide +kernel) (by decide +kernel) (show 0 + 1 ≤ 1 by decide) (show 0 + 16 ≤ 16 by decide) dX2_init_26 (fun q_1 cq_1 H hK1 hP hD hS => ?_)
  obtain rfl : cq_1 = c 1 := nk_id hK1 1 rfl
  have hP : va_P D vwCl [(h0, .inr (2, [.int 1, .int 2000, .null, .int 0])), (q_1, .inl (c 1, 16, .inl (fun _ => 0)))] H := hP
  have hD : va_D A [(h0, .inr (2, [.int 1, .int 2000, .null, .int 0])), (q_1, .inl (c 1, 16, .inl (fun _ => 0)))] := hD
  refine W.widen (k := 1) (n := 16) (by omega) (by omega) ?_
  refine va_put (D := D) (ci := 2) (v := .ref q_1) (ty := (.array .int)) (C := RX2) (T := TX2) (N := 4) hx hb hts (fun _ h => List.mem_cons_of_mem _ (List.mem_append_right _ h)) tyX2 tyX2_ok nmX2 hown hK hP hD hS 0 rfl rfl 2 (by decide) (hts (.fieldLink RX2 24 "CrownTable$Rows" "cells" "[I") (mem_i 11 rfl)) (fun _ h9 => h9) rfl (by decide +kernel) rfl rfl (Nat.le_of_ble_eq_true rfl) dX2_init_28 (fun H locs hP hD hS => ?_)
  have hP : va_P D vwCl [(h0, .inr (2, [.int 1, .int 2000, .ref q_1, .int 0])), (q_1, .inl (c 1, 16, .inl (fun _ => 0)))] H := hP
  have hD : va_D A [(h0, .inr (2, [.int 1, .int 2000, .ref q_1, .int 0])), (q_1, .inl (c 1, 16, .inl (fun _ => 0)))] := hD
  have hP9 := hP.sub (ws' := [(h0, .inr (2, [.int 1, .int 2000, .ref q_1, .int 0])), (q_1, .inl (c 1, 16, .inl (fun _ => 0)))]) [0, 1] rfl
  have hD9 := hD.sub (ws' := [(h0, .inr (2, [.int 1, .int 2000, .ref q_1, .int 0])), (q_1, .inl (c 1, 16, .inl (fun _ => 0)))]) [0, 1] (by decide) rfl
  refine W.widen (k := 1) (n := 16) (by omega) (by omega) ?_
  exact W.vret hx hb hr (fun t ht hW => ⟨⟨(fun k => [q_1].getD k 0, fun k => [].getD k (fun _ => 0), fun k => [].getD k (fun _ => 0)), rfl, trivial, ⟨by rw [ht]; exact hP9, hD9⟩⟩, hS.F ht⟩) hS.2.2 dX2_init_31
