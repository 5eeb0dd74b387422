set_option maxHeartbeats 4000000 in
set_option maxRecDepth 100000 in
theorem c_X2_hasRoom (l : Launch) (D : va_G) (c : Nat → ClassId) (ts : Nat × Nat) (sz : Nat) (h0 : Nat) (h1 : Nat) : Met l yX2_hasRoom wsX2_hasRoom ({ frames := 0, cells := 0, slots := 0, locals := 0 }) (va_Pc [.ref h0, .int 1] (Pre0 D c ts [(h0, .inr (2, [.int 7, .int 400, .ref h1, .int 0]))] sz)) (vp_Si (fun r : Int32 => r = 1)) 0 0 (fun _ => False) := by
  refine Met.ofW (cc := cX2_hasRoom) (maxL := 2) (ret := (some .boolean)) (by decide) rfl ?_
  intro p e s m args below meth cd s₁ B hml hv
  obtain ⟨rfl, hsz, hP, hD0, hAm, hSt⟩ := hv
  have hx := B.exec
  have hb := B.bytes
  have hr := B.returns
  have hts := atoms_spec (ws := wsX2_hasRoom) B.pre
  have hown : s.vm.findClass RX2 = some m.cls := findClass_of_methodNamed B.named
  have hlocks := B.notSynchronized
  subst hsz
  have hK := hAm.1
  have hD := hD0.self (sz := s.heap.size)
  generalize hAe : va_A [(h0, .inr (2, [.int 7, .int 400, .ref h1, .int 0]))] s.heap.size = A at hD hSt
  have hA : ∀ q : Nat, s.heap.size ≤ q → A q := fun q h => by rw [← hAe]; exact Or.inr h
  have hS : va_S A s.heap s.heap [] := va_S.rf
  clear hD0 hAe
  have hl := lv_entry ([.ref h0, .int 1]) (n := 2) (Nat.le_of_ble_eq_true rfl)
  rw [lg_entry_eq]
  generalize (lg_sl ([.ref h0, .int 1]) ++ List.replicate (2 - (lg_sl ([.ref h0, .int 1])).length) Slot.unset).toArray = ls at hl ⊢
  have hl : lv_has ls 2 [(0, .ref h0), (1, .int 1)] := hl
  refine lv_aload_n hx hb dX2_hasRoom_0 rfl (lv_at hl 0 rfl) ?_
  refine va_get (D := D) (ci := 2) (v := .int 0) (C := RX2) (T := TX2) (N := 4) hx hb hts (fun _ h => List.mem_cons_of_mem _ (List.mem_append_right _ h)) hown hK hP 0 rfl rfl 3 (by decide) (hts (.fieldLink RX2 28 "CrownTable$Rows" "size" "I") (mem_i 1 rfl)) (fun _ h9 => h9) rfl dX2_hasRoom_1 ?_
  refine lv_iload_n hx hb dX2_hasRoom_4 rfl (lv_at hl 1 rfl) ?_
  refine lv_iadd hx hb dX2_hasRoom_5 ?_
  refine lk_i (y := 1) (by decide) ?_
  refine lv_aload_n hx hb dX2_hasRoom_6 rfl (lv_at hl 0 rfl) ?_
  refine va_get (D := D) (ci := 2) (v := .int 400) (C := RX2) (T := TX2) (N := 4) hx hb hts (fun _ h => List.mem_cons_of_mem _ (List.mem_append_right _ h)) hown hK hP 0 rfl rfl 1 (by decide) (hts (.fieldLink RX2 21 "CrownTable$Rows" "most" "I") (mem_i 2 rfl)) (fun _ h9 => h9) rfl dX2_hasRoom_7 ?_
  refine iicmp_gtF (a := 1) (b := 400) (tgt := 17) hx hb (by decide) (by decide) dX2_hasRoom_10 (by decide) (by decide) ?_
  refine lv_iconst (v := 1) hx hb dX2_hasRoom_13 (by decide) ?_
  refine lv_goto (tgt := 18) hx hb dX2_hasRoom_14 (by decide) ?_
  exact W.zret (v := 1) hx hb hr (by decide) (fun t ht hW => ⟨_, rfl, rfl, ht⟩) (fun _ h => by cases h) dX2_hasRoom_18

set_option maxHeartbeats 4000000 in
set_option maxRecDepth 100000 in
theorem c_X2_add (l : Launch) (D : va_G) (c : Nat → ClassId) (ts : Nat × Nat) (sz : Nat) (h0 : Nat) (h1 : Nat) : Met l yX2_add wsX2_add ({ frames := 1, cells := 0, slots := 0, locals := 21 }) (va_Pc [.ref h0] (Pre0 D c ts [(h0, .inr (2, [.int 7, .int 400, .ref h1, .int 0])), (h1, .inl (c 1, 112, .inl (fun _ => 0)))] sz)) (va_Qi (fun (r : Int32) (u : (Nat → Nat) × (Nat → Nat → Int32) × (Nat → Nat → Int64)) => r = 0) (fun u t => va_P D vwCl [(h0, .inr (2, [.int 7, .int 400, .ref h1, .int 1])), (h1, .inl (c 1, 112, .inl (fun _ => 0)))] t.heap ∧ va_D (va_A [(h0, .inr (2, [.int 7, .int 400, .ref h1, .int 0])), (h1, .inl (c 1, 112, .inl (fun _ => 0)))] sz) [(h0, .inr (2, [.int 7, .int 400, .ref h1, .int 1])), (h1, .inl (c 1, 112, .inl (fun _ => 0)))]) (va_A [(h0, .inr (2, [.int 7, .int 400, .ref h1, .int 0])), (h1, .inl (c 1, 112, .inl (fun _ => 0)))] sz)) 0 0 (va_A [(h0, .inr (2, [.int 7, .int 400, .ref h1, .int 0])), (h1, .inl (c 1, 112, .inl (fun _ => 0)))] sz) := by
  refine Met.ofW (cc := cX2_add) (maxL := 1) (ret := (some .int)) (by decide) rfl ?_
  intro p e s m args below meth cd s₁ B hml hv
  obtain ⟨rfl, hsz, hP, hD0, hAm, hSt⟩ := hv
  have hx := B.exec
  have hb := B.bytes
  have hr := B.returns
  have hts := atoms_spec (ws := wsX2_add) B.pre
  have hown : s.vm.findClass RX2 = some m.cls := findClass_of_methodNamed B.named
  have hlocks := B.notSynchronized
  subst hsz
  have hK := hAm.1
  have hD := hD0.self (sz := s.heap.size)
  generalize hAe : va_A [(h0, .inr (2, [.int 7, .int 400, .ref h1, .int 0])), (h1, .inl (c 1, 112, .inl (fun _ => 0)))] s.heap.size = A at hD hSt ⊢
  have hA : ∀ q : Nat, s.heap.size ≤ q → A q := fun q h => by rw [← hAe]; exact Or.inr h
  have hS : va_S A s.heap s.heap [] := va_S.rf
  clear hD0 hAe
  have hl := lv_entry ([.ref h0]) (n := 1) (Nat.le_of_ble_eq_true rfl)
  rw [lg_entry_eq]
  generalize (lg_sl ([.ref h0]) ++ List.replicate (1 - (lg_sl ([.ref h0])).length) Slot.unset).toArray = ls at hl ⊢
  have hl : lv_has ls 1 [(0, .ref h0)] := hl
  refine lv_aload_n hx hb dX2_add_0 rfl (lv_at hl 0 rfl) ?_
  refine lv_iconst (v := 1) hx hb dX2_add_1 (by decide) ?_
  have hPc := hP.sub (ws' := [(h0, .inr (2, [.int 7, .int 400, .ref h1, .int 0]))]) [0] rfl
  have hDc := hD.sub (ws' := [(h0, .inr (2, [.int 7, .int 400, .ref h1, .int 0]))]) [0] (by decide) rfl
  have hFc := va_free (wc := [(h0, .inr (2, [.int 7, .int 400, .ref h1, .int 0]))]) hD hS hA [0] rfl
  refine va_csi (va_runV (As := [.int 1]) (rest := []) ⟨hx, hb, hml, hown, hts⟩ (c_X2_hasRoom l D c ts s.heap.size h0 h1) (cwV 1 hts gX2_add_X2_hasRoom rfl rfl rfl ⟨rfl, hdX2_hasRoom⟩ ⟨(show 0 + 1 ≤ 1 by decide), (show 8 + (2 + 11) + 0 ≤ 21 by decide)⟩) ⟨Pre0.blind, va_recv hK hPc (ci := 2) (q0 := 0) rfl rfl, Pre0.at hPc hDc hAm hSt hS hFc⟩ rfl rfl hl.1 rfl (lv_room (Nat.le_of_ble_eq_true rfl)) dX2_add_2 ⟨(show 0 + 0 ≤ 0 by decide), (show 0 + 0 ≤ 0 by decide)⟩) (fun r_2 hw_1 => ?_)
  refine lk_i (y := 1) hw_1 ?_
  refine iif_neT (a := 1) (tgt := 10) hx hb (by decide) dX2_add_5 (by decide) (by decide) ?_
  refine lv_aload_n hx hb dX2_add_10 rfl (lv_at hl 0 rfl) ?_
  refine va_get (D := D) (ci := 2) (v := .int 0) (C := RX2) (T := TX2) (N := 4) hx hb hts (fun _ h => List.mem_cons_of_mem _ (List.mem_append_right _ h)) hown hK hP 0 rfl rfl 3 (by decide) (hts (.fieldLink RX2 28 "CrownTable$Rows" "size" "I") (mem_i 1 rfl)) (fun _ h9 => h9) rfl dX2_add_11 ?_
  refine lv_iconst (v := 1) hx hb dX2_add_14 (by decide) ?_
  refine lv_iadd hx hb dX2_add_15 ?_
  refine lk_i (y := 1) (by decide) ?_
  refine lv_aload_n hx hb dX2_add_16 rfl (lv_at hl 0 rfl) ?_
  refine va_get (D := D) (ci := 2) (v := .int 7) (C := RX2) (T := TX2) (N := 4) hx hb hts (fun _ h => List.mem_cons_of_mem _ (List.mem_append_right _ h)) hown hK hP 0 rfl rfl 0 (by decide) (hts (.fieldLink RX2 15 "CrownTable$Rows" "width" "I") (mem_i 2 rfl)) (fun _ h9 => h9) rfl dX2_add_17 ?_
  refine lv_imul hx hb dX2_add_20 ?_
  refine lk_i (y := 7) (by decide) ?_
  refine lv_aload_n hx hb dX2_add_21 rfl (lv_at hl 0 rfl) ?_
  refine va_get (D := D) (ci := 2) (v := .ref h1) (C := RX2) (T := TX2) (N := 4) hx hb hts (fun _ h => List.mem_cons_of_mem _ (List.mem_append_right _ h)) hown hK hP 0 rfl rfl 2 (by decide) (hts (.fieldLink RX2 24 "CrownTable$Rows" "cells" "[I") (mem_i 3 rfl)) (fun _ h9 => h9) rfl dX2_add_22 ?_
  refine va_alen (v := 112) hx hb hK hP 1 1 rfl rfl (by decide) dX2_add_25 ?_
  refine iicmp_leT (a := 7) (b := 112) (tgt := 47) hx hb (by decide) (by decide) dX2_add_26 (by decide) (by decide) ?_
  refine lv_aload_n hx hb dX2_add_47 rfl (lv_at hl 0 rfl) ?_
  refine lv_dup hx hb dX2_add_48 rfl ?_
  refine va_get (D := D) (ci := 2) (v := .int 0) (C := RX2) (T := TX2) (N := 4) hx hb hts (fun _ h => List.mem_cons_of_mem _ (List.mem_append_right _ h)) hown hK hP 0 rfl rfl 3 (by decide) (hts (.fieldLink RX2 28 "CrownTable$Rows" "size" "I") (mem_i 1 rfl)) (fun _ h9 => h9) rfl dX2_add_49 ?_
  refine lv_dup_x1 hx hb dX2_add_52 rfl rfl ?_
  refine lv_iconst (v := 1) hx hb dX2_add_53 (by decide) ?_
  refine lv_iadd hx hb dX2_add_54 ?_
  refine lk_i (y := 1) (by decide) ?_
  refine va_put (D := D) (ci := 2) (v := .int 1) (ty := .int) (C := RX2) (T := TX2) (N := 4) hx hb hts (fun _ h => List.mem_cons_of_mem _ (List.mem_append_right _ h)) tyX2 tyX2_ok nmX2 hown hK hP hD hS 0 rfl rfl 3 (by decide) (hts (.fieldLink RX2 28 "CrownTable$Rows" "size" "I") (mem_i 1 rfl)) (fun _ h9 => h9) rfl (by decide +kernel) rfl rfl (Nat.le_of_ble_eq_true rfl) dX2_add_55 (fun H locs hP hD hS => ?_)
  have hP : va_P D vwCl [(h0, .inr (2, [.int 7, .int 400, .ref h1, .int 1])), (h1, .inl (c 1, 112, .inl (fun _ => 0)))] H := hP
  have hD : va_D A [(h0, .inr (2, [.int 7, .int 400, .ref h1, .int 1])), (h1, .inl (c 1, 112, .inl (fun _ => 0)))] := hD
  have hP9 := hP.sub (ws' := [(h0, .inr (2, [.int 7, .int 400, .ref h1, .int 1])), (h1, .inl (c 1, 112, .inl (fun _ => 0)))]) [0, 1] rfl
  have hD9 := hD.sub (ws' := [(h0, .inr (2, [.int 7, .int 400, .ref h1, .int 1])), (h1, .inl (c 1, 112, .inl (fun _ => 0)))]) [0, 1] (by decide) rfl
  refine W.widen (k := 0) (n := 0) (by omega) (by omega) ?_
  exact W.iret (v := 0) hx hb hr (fun t ht hW => ⟨⟨_, (fun k => [].getD k 0, fun k => [].getD k (fun _ => 0), fun k => [].getD k (fun _ => 0)), rfl, rfl, ⟨by rw [ht]; exact hP9, hD9⟩⟩, hS.F ht⟩) hS.2.2 dX2_add_58

set_option maxHeartbeats 4000000 in
set_option maxRecDepth 100000 in
theorem c_X2_has_4 (l : Launch) (D : va_G) (c : Nat → ClassId) (ts : Nat × Nat) (sz : Nat) (h0 : Nat) (h1 : Nat) : Met l yX2_has wsX2_has ({ frames := 0, cells := 0, slots := 0, locals := 0 }) (va_Pc [.ref h0, .int 0, .int 0] (Pre0 D c ts [(h0, .inr (2, [.int 7, .int 400, .ref h1, .int 1]))] sz)) (vp_Si (fun r : Int32 => r = 1)) 0 0 (fun _ => False) := by
  refine Met.ofW (cc := cX2_has) (maxL := 3) (ret := (some .boolean)) (by decide) rfl ?_
  intro p e s m args below meth cd s₁ B hml hv
  obtain ⟨rfl, hsz, hP, hD0, hAm, hSt⟩ := hv
  have hx := B.exec
  have hb := B.bytes
  have hr := B.returns
  have hts := atoms_spec (ws := wsX2_has) B.pre
  have hown : s.vm.findClass RX2 = some m.cls := findClass_of_methodNamed B.named
  have hlocks := B.notSynchronized
  subst hsz
  have hK := hAm.1
  have hD := hD0.self (sz := s.heap.size)
  generalize hAe : va_A [(h0, .inr (2, [.int 7, .int 400, .ref h1, .int 1]))] s.heap.size = A at hD hSt
  have hA : ∀ q : Nat, s.heap.size ≤ q → A q := fun q h => by rw [← hAe]; exact Or.inr h
  have hS : va_S A s.heap s.heap [] := va_S.rf
  clear hD0 hAe
  have hl := lv_entry ([.ref h0, .int 0, .int 0]) (n := 3) (Nat.le_of_ble_eq_true rfl)
  rw [lg_entry_eq]
  generalize (lg_sl ([.ref h0, .int 0, .int 0]) ++ List.replicate (3 - (lg_sl ([.ref h0, .int 0, .int 0])).length) Slot.unset).toArray = ls at hl ⊢
  have hl : lv_has ls 3 [(0, .ref h0), (1, .int 0), (2, .int 0)] := hl
  refine lv_iload_n hx hb dX2_has_0 rfl (lv_at hl 1 rfl) ?_
  refine iif_ltF (a := 0) (tgt := 28) hx hb (by decide) dX2_has_1 (by decide) (by decide) ?_
  refine lv_iload_n hx hb dX2_has_4 rfl (lv_at hl 1 rfl) ?_
  refine lv_aload_n hx hb dX2_has_5 rfl (lv_at hl 0 rfl) ?_
  refine va_get (D := D) (ci := 2) (v := .int 1) (C := RX2) (T := TX2) (N := 4) hx hb hts (fun _ h => List.mem_cons_of_mem _ (List.mem_append_right _ h)) hown hK hP 0 rfl rfl 3 (by decide) (hts (.fieldLink RX2 28 "CrownTable$Rows" "size" "I") (mem_i 1 rfl)) (fun _ h9 => h9) rfl dX2_has_6 ?_
  refine iicmp_geF (a := 0) (b := 1) (tgt := 28) hx hb (by decide) (by decide) dX2_has_9 (by decide) (by decide) ?_
  refine lv_iload_n hx hb dX2_has_12 rfl (lv_at hl 2 rfl) ?_
  refine iif_ltF (a := 0) (tgt := 28) hx hb (by decide) dX2_has_13 (by decide) (by decide) ?_
  refine lv_iload_n hx hb dX2_has_16 rfl (lv_at hl 2 rfl) ?_
  refine lv_aload_n hx hb dX2_has_17 rfl (lv_at hl 0 rfl) ?_
  refine va_get (D := D) (ci := 2) (v := .int 7) (C := RX2) (T := TX2) (N := 4) hx hb hts (fun _ h => List.mem_cons_of_mem _ (List.mem_append_right _ h)) hown hK hP 0 rfl rfl 0 (by decide) (hts (.fieldLink RX2 15 "CrownTable$Rows" "width" "I") (mem_i 2 rfl)) (fun _ h9 => h9) rfl dX2_has_18 ?_
  refine iicmp_geF (a := 0) (b := 7) (tgt := 28) hx hb (by decide) (by decide) dX2_has_21 (by decide) (by decide) ?_
  refine lv_iconst (v := 1) hx hb dX2_has_24 (by decide) ?_
  refine lv_goto (tgt := 29) hx hb dX2_has_25 (by decide) ?_
  exact W.zret (v := 1) hx hb hr (by decide) (fun t ht hW => ⟨_, rfl, rfl, ht⟩) (fun _ h => by cases h) dX2_has_29

set_option maxHeartbeats 4000000 in
set_option maxRecDepth 100000 in
theorem c_X2_set (l : Launch) (D : va_G) (c : Nat → ClassId) (ts : Nat × Nat) (sz : Nat) (h0 : Nat) (h1 : Nat) (a3 : Int32) (i_a3 : Int) (hi_a3 : a3.toInt = i_a3) : Met l yX2_set wsX2_set ({ frames := 1, cells := 0, slots := 0, locals := 22 }) (va_Pc [.ref h0, .int 0, .int 0, .int a3] (Pre0 D c ts [(h0, .inr (2, [.int 7, .int 400, .ref h1, .int 1])), (h1, .inl (c 1, 112, .inl (fun _ => 0)))] sz)) (va_Qv (fun (u : (Nat → Nat) × (Nat → Nat → Int32) × (Nat → Nat → Int64)) => True) (fun u t => va_P D vwCl [(h0, .inr (2, [.int 7, .int 400, .ref h1, .int 1])), (h1, .inl (c 1, 112, .inl (u.2.1 0)))] t.heap ∧ va_D (va_A [(h0, .inr (2, [.int 7, .int 400, .ref h1, .int 1])), (h1, .inl (c 1, 112, .inl (fun _ => 0)))] sz) [(h0, .inr (2, [.int 7, .int 400, .ref h1, .int 1])), (h1, .inl (c 1, 112, .inl (u.2.1 0)))]) (va_A [(h0, .inr (2, [.int 7, .int 400, .ref h1, .int 1])), (h1, .inl (c 1, 112, .inl (fun _ => 0)))] sz)) 0 0 (va_A [(h0, .inr (2, [.int 7, .int 400, .ref h1, .int 1])), (h1, .inl (c 1, 112, .inl (fun _ => 0)))] sz) := by
  refine Met.ofW (cc := cX2_set) (maxL := 4) (ret := none) (by decide) rfl ?_
  intro p e s m args below meth cd s₁ B hml hv
  obtain ⟨rfl, hsz, hP, hD0, hAm, hSt⟩ := hv
  have hx := B.exec
  have hb := B.bytes
  have hr := B.returns
  have hts := atoms_spec (ws := wsX2_set) B.pre
  have hown : s.vm.findClass RX2 = some m.cls := findClass_of_methodNamed B.named
  have hlocks := B.notSynchronized
  subst hsz
  have hK := hAm.1
  have hD := hD0.self (sz := s.heap.size)
  generalize hAe : va_A [(h0, .inr (2, [.int 7, .int 400, .ref h1, .int 1])), (h1, .inl (c 1, 112, .inl (fun _ => 0)))] s.heap.size = A at hD hSt ⊢
  have hA : ∀ q : Nat, s.heap.size ≤ q → A q := fun q h => by rw [← hAe]; exact Or.inr h
  have hS : va_S A s.heap s.heap [] := va_S.rf
  clear hD0 hAe
  have hl := lv_entry ([.ref h0, .int 0, .int 0, .int a3]) (n := 4) (Nat.le_of_ble_eq_true rfl)
  rw [lg_entry_eq]
  generalize (lg_sl ([.ref h0, .int 0, .int 0, .int a3]) ++ List.replicate (4 - (lg_sl ([.ref h0, .int 0, .int 0, .int a3])).length) Slot.unset).toArray = ls at hl ⊢
  have hl : lv_has ls 4 [(0, .ref h0), (1, .int 0), (2, .int 0), (3, .int a3)] := hl
  refine lv_aload_n hx hb dX2_set_0 rfl (lv_at hl 0 rfl) ?_
  refine lv_iload_n hx hb dX2_set_1 rfl (lv_at hl 1 rfl) ?_
  refine lv_iload_n hx hb dX2_set_2 rfl (lv_at hl 2 rfl) ?_
  have hPc := hP.sub (ws' := [(h0, .inr (2, [.int 7, .int 400, .ref h1, .int 1]))]) [0] rfl
  have hDc := hD.sub (ws' := [(h0, .inr (2, [.int 7, .int 400, .ref h1, .int 1]))]) [0] (by decide) rfl
  have hFc := va_free (wc := [(h0, .inr (2, [.int 7, .int 400, .ref h1, .int 1]))]) hD hS hA [0] rfl
  refine va_csi (va_runV (As := [.int 0, .int 0]) (rest := []) ⟨hx, hb, hml, hown, hts⟩ (c_X2_has_4 l D c ts s.heap.size h0 h1) (cwV 2 hts gX2_set_X2_has rfl rfl rfl ⟨rfl, hdX2_has⟩ ⟨(show 0 + 1 ≤ 1 by decide), (show 8 + (3 + 11) + 0 ≤ 22 by decide)⟩) ⟨Pre0.blind, va_recv hK hPc (ci := 2) (q0 := 0) rfl rfl, Pre0.at hPc hDc hAm hSt hS hFc⟩ rfl rfl hl.1 rfl (lv_room (Nat.le_of_ble_eq_true rfl)) dX2_set_3 ⟨(show 0 + 0 ≤ 0 by decide), (show 0 + 0 ≤ 0 by decide)⟩) (fun r_2 hw_1 => ?_)
  refine lk_i (y := 1) hw_1 ?_
  refine iif_eqF (a := 1) (tgt := 23) hx hb (by decide) dX2_set_6 (by decide) (by decide) ?_
  refine lv_aload_n hx hb dX2_set_9 rfl (lv_at hl 0 rfl) ?_
  refine va_get (D := D) (ci := 2) (v := .ref h1) (C := RX2) (T := TX2) (N := 4) hx hb hts (fun _ h => List.mem_cons_of_mem _ (List.mem_append_right _ h)) hown hK hP 0 rfl rfl 2 (by decide) (hts (.fieldLink RX2 24 "CrownTable$Rows" "cells" "[I") (mem_i 1 rfl)) (fun _ h9 => h9) rfl dX2_set_10 ?_
  refine lv_iload_n hx hb dX2_set_13 rfl (lv_at hl 1 rfl) ?_
  refine lv_aload_n hx hb dX2_set_14 rfl (lv_at hl 0 rfl) ?_
  refine va_get (D := D) (ci := 2) (v := .int 7) (C := RX2) (T := TX2) (N := 4) hx hb hts (fun _ h => List.mem_cons_of_mem _ (List.mem_append_right _ h)) hown hK hP 0 rfl rfl 0 (by decide) (hts (.fieldLink RX2 15 "CrownTable$Rows" "width" "I") (mem_i 2 rfl)) (fun _ h9 => h9) rfl dX2_set_15 ?_
  refine lv_imul hx hb dX2_set_18 ?_
  refine lk_i (y := 0) (by decide) ?_
  refine lv_iload_n hx hb dX2_set_19 rfl (lv_at hl 2 rfl) ?_
  refine lv_iadd hx hb dX2_set_20 ?_
  refine lk_i (y := 0) (by decide) ?_
  refine lv_iload_n hx hb dX2_set_21 rfl (lv_at hl 3 rfl) ?_
  refine va_iast hx hb hK hP hD hS 1 1 rfl rfl (vin (a := 0) (by decide) (by decide) (by decide)) dX2_set_22 (fun H locs hP hD hS => ?_)
  obtain ⟨f_3, hP, hD⟩ : ∃ f_3 : Nat → Int32, va_P D vwCl [(h0, .inr (2, [.int 7, .int 400, .ref h1, .int 1])), (h1, .inl (c 1, 112, .inl f_3))] H ∧ va_D A [(h0, .inr (2, [.int 7, .int 400, .ref h1, .int 1])), (h1, .inl (c 1, 112, .inl f_3))] := ⟨_, hP, hD⟩
  have hP9 := hP.sub (ws' := [(h0, .inr (2, [.int 7, .int 400, .ref h1, .int 1])), (h1, .inl (c 1, 112, .inl f_3))]) [0, 1] rfl
  have hD9 := hD.sub (ws' := [(h0, .inr (2, [.int 7, .int 400, .ref h1, .int 1])), (h1, .inl (c 1, 112, .inl f_3))]) [0, 1] (by decide) rfl
  refine W.widen (k := 0) (n := 0) (by omega) (by omega) ?_
  exact W.vret hx hb hr (fun t ht hW => ⟨⟨(fun k => [].getD k 0, fun k => [f_3].getD k (fun _ => 0), fun k => [].getD k (fun _ => 0)), rfl, trivial, ⟨by rw [ht]; exact hP9, hD9⟩⟩, hS.F ht⟩) hS.2.2 dX2_set_23

set_option maxHeartbeats 4000000 in
set_option maxRecDepth 100000 in
theorem c_X2_has_5 (l : Launch) (D : va_G) (c : Nat → ClassId) (ts : Nat × Nat) (sz : Nat) (h0 : Nat) (h1 : Nat) : Met l yX2_has wsX2_has ({ frames := 0, cells := 0, slots := 0, locals := 0 }) (va_Pc [.ref h0, .int 0, .int 1] (Pre0 D c ts [(h0, .inr (2, [.int 7, .int 400, .ref h1, .int 1]))] sz)) (vp_Si (fun r : Int32 => r = 1)) 0 0 (fun _ => False) := by
  refine Met.ofW (cc := cX2_has) (maxL := 3) (ret := (some .boolean)) (by decide) rfl ?_
  intro p e s m args below meth cd s₁ B hml hv
  obtain ⟨rfl, hsz, hP, hD0, hAm, hSt⟩ := hv
  have hx := B.exec
  have hb := B.bytes
  have hr := B.returns
  have hts := atoms_spec (ws := wsX2_has) B.pre
  have hown : s.vm.findClass RX2 = some m.cls := findClass_of_methodNamed B.named
  have hlocks := B.notSynchronized
  subst hsz
  have hK := hAm.1
  have hD := hD0.self (sz := s.heap.size)
  generalize hAe : va_A [(h0, .inr (2, [.int 7, .int 400, .ref h1, .int 1]))] s.heap.size = A at hD hSt
  have hA : ∀ q : Nat, s.heap.size ≤ q → A q := fun q h => by rw [← hAe]; exact Or.inr h
  have hS : va_S A s.heap s.heap [] := va_S.rf
  clear hD0 hAe
  have hl := lv_entry ([.ref h0, .int 0, .int 1]) (n := 3) (Nat.le_of_ble_eq_true rfl)
  rw [lg_entry_eq]
  generalize (lg_sl ([.ref h0, .int 0, .int 1]) ++ List.replicate (3 - (lg_sl ([.ref h0, .int 0, .int 1])).length) Slot.unset).toArray = ls at hl ⊢
  have hl : lv_has ls 3 [(0, .ref h0), (1, .int 0), (2, .int 1)] := hl
  refine lv_iload_n hx hb dX2_has_0 rfl (lv_at hl 1 rfl) ?_
  refine iif_ltF (a := 0) (tgt := 28) hx hb (by decide) dX2_has_1 (by decide) (by decide) ?_
  refine lv_iload_n hx hb dX2_has_4 rfl (lv_at hl 1 rfl) ?_
  refine lv_aload_n hx hb dX2_has_5 rfl (lv_at hl 0 rfl) ?_
  refine va_get (D := D) (ci := 2) (v := .int 1) (C := RX2) (T := TX2) (N := 4) hx hb hts (fun _ h => List.mem_cons_of_mem _ (List.mem_append_right _ h)) hown hK hP 0 rfl rfl 3 (by decide) (hts (.fieldLink RX2 28 "CrownTable$Rows" "size" "I") (mem_i 1 rfl)) (fun _ h9 => h9) rfl dX2_has_6 ?_
  refine iicmp_geF (a := 0) (b := 1) (tgt := 28) hx hb (by decide) (by decide) dX2_has_9 (by decide) (by decide) ?_
  refine lv_iload_n hx hb dX2_has_12 rfl (lv_at hl 2 rfl) ?_
  refine iif_ltF (a := 1) (tgt := 28) hx hb (by decide) dX2_has_13 (by decide) (by decide) ?_
  refine lv_iload_n hx hb dX2_has_16 rfl (lv_at hl 2 rfl) ?_
  refine lv_aload_n hx hb dX2_has_17 rfl (lv_at hl 0 rfl) ?_
  refine va_get (D := D) (ci := 2) (v := .int 7) (C := RX2) (T := TX2) (N := 4) hx hb hts (fun _ h => List.mem_cons_of_mem _ (List.mem_append_right _ h)) hown hK hP 0 rfl rfl 0 (by decide) (hts (.fieldLink RX2 15 "CrownTable$Rows" "width" "I") (mem_i 2 rfl)) (fun _ h9 => h9) rfl dX2_has_18 ?_
  refine iicmp_geF (a := 1) (b := 7) (tgt := 28) hx hb (by decide) (by decide) dX2_has_21 (by decide) (by decide) ?_
  refine lv_iconst (v := 1) hx hb dX2_has_24 (by decide) ?_
  refine lv_goto (tgt := 29) hx hb dX2_has_25 (by decide) ?_
  exact W.zret (v := 1) hx hb hr (by decide) (fun t ht hW => ⟨_, rfl, rfl, ht⟩) (fun _ h => by cases h) dX2_has_29

set_option maxHeartbeats 4000000 in
set_option maxRecDepth 100000 in
theorem c_X2_set_1 (l : Launch) (D : va_G) (c : Nat → ClassId) (ts : Nat × Nat) (sz : Nat) (h0 : Nat) (h1 : Nat) (f0 : Nat → Int32) (a3 : Int32) (i_a3 : Int) (hi_a3 : a3.toInt = i_a3) : Met l yX2_set wsX2_set ({ frames := 1, cells := 0, slots := 0, locals := 22 }) (va_Pc [.ref h0, .int 0, .int 1, .int a3] (Pre0 D c ts [(h0, .inr (2, [.int 7, .int 400, .ref h1, .int 1])), (h1, .inl (c 1, 112, .inl f0))] sz)) (va_Qv (fun (u : (Nat → Nat) × (Nat → Nat → Int32) × (Nat → Nat → Int64)) => True) (fun u t => va_P D vwCl [(h0, .inr (2, [.int 7, .int 400, .ref h1, .int 1])), (h1, .inl (c 1, 112, .inl (u.2.1 0)))] t.heap ∧ va_D (va_A [(h0, .inr (2, [.int 7, .int 400, .ref h1, .int 1])), (h1, .inl (c 1, 112, .inl f0))] sz) [(h0, .inr (2, [.int 7, .int 400, .ref h1, .int 1])), (h1, .inl (c 1, 112, .inl (u.2.1 0)))]) (va_A [(h0, .inr (2, [.int 7, .int 400, .ref h1, .int 1])), (h1, .inl (c 1, 112, .inl f0))] sz)) 0 0 (va_A [(h0, .inr (2, [.int 7, .int 400, .ref h1, .int 1])), (h1, .inl (c 1, 112, .inl f0))] sz) := by
  refine Met.ofW (cc := cX2_set) (maxL := 4) (ret := none) (by decide) rfl ?_
  intro p e s m args below meth cd s₁ B hml hv
  obtain ⟨rfl, hsz, hP, hD0, hAm, hSt⟩ := hv
  have hx := B.exec
  have hb := B.bytes
  have hr := B.returns
  have hts := atoms_spec (ws := wsX2_set) B.pre
  have hown : s.vm.findClass RX2 = some m.cls := findClass_of_methodNamed B.named
  have hlocks := B.notSynchronized
  subst hsz
  have hK := hAm.1
  have hD := hD0.self (sz := s.heap.size)
  generalize hAe : va_A [(h0, .inr (2, [.int 7, .int 400, .ref h1, .int 1])), (h1, .inl (c 1, 112, .inl f0))] s.heap.size = A at hD hSt ⊢
  have hA : ∀ q : Nat, s.heap.size ≤ q → A q := fun q h => by rw [← hAe]; exact Or.inr h
  have hS : va_S A s.heap s.heap [] := va_S.rf
  clear hD0 hAe
  have hl := lv_entry ([.ref h0, .int 0, .int 1, .int a3]) (n := 4) (Nat.le_of_ble_eq_true rfl)
  rw [lg_entry_eq]
  generalize (lg_sl ([.ref h0, .int 0, .int 1, .int a3]) ++ List.replicate (4 - (lg_sl ([.ref h0, .int 0, .int 1, .int a3])).length) Slot.unset).toArray = ls at hl ⊢
  have hl : lv_has ls 4 [(0, .ref h0), (1, .int 0), (2, .int 1), (3, .int a3)] := hl
  refine lv_aload_n hx hb dX2_set_0 rfl (lv_at hl 0 rfl) ?_
  refine lv_iload_n hx hb dX2_set_1 rfl (lv_at hl 1 rfl) ?_
  refine lv_iload_n hx hb dX2_set_2 rfl (lv_at hl 2 rfl) ?_
  have hPc := hP.sub (ws' := [(h0, .inr (2, [.int 7, .int 400, .ref h1, .int 1]))]) [0] rfl
  have hDc := hD.sub (ws' := [(h0, .inr (2, [.int 7, .int 400, .ref h1, .int 1]))]) [0] (by decide) rfl
  have hFc := va_free (wc := [(h0, .inr (2, [.int 7, .int 400, .ref h1, .int 1]))]) hD hS hA [0] rfl
  refine va_csi (va_runV (As := [.int 0, .int 1]) (rest := []) ⟨hx, hb, hml, hown, hts⟩ (c_X2_has_5 l D c ts s.heap.size h0 h1) (cwV 2 hts gX2_set_X2_has rfl rfl rfl ⟨rfl, hdX2_has⟩ ⟨(show 0 + 1 ≤ 1 by decide), (show 8 + (3 + 11) + 0 ≤ 22 by decide)⟩) ⟨Pre0.blind, va_recv hK hPc (ci := 2) (q0 := 0) rfl rfl, Pre0.at hPc hDc hAm hSt hS hFc⟩ rfl rfl hl.1 rfl (lv_room (Nat.le_of_ble_eq_true rfl)) dX2_set_3 ⟨(show 0 + 0 ≤ 0 by decide), (show 0 + 0 ≤ 0 by decide)⟩) (fun r_2 hw_1 => ?_)
  refine lk_i (y := 1) hw_1 ?_
  refine iif_eqF (a := 1) (tgt := 23) hx hb (by decide) dX2_set_6 (by decide) (by decide) ?_
  refine lv_aload_n hx hb dX2_set_9 rfl (lv_at hl 0 rfl) ?_
  refine va_get (D := D) (ci := 2) (v := .ref h1) (C := RX2) (T := TX2) (N := 4) hx hb hts (fun _ h => List.mem_cons_of_mem _ (List.mem_append_right _ h)) hown hK hP 0 rfl rfl 2 (by decide) (hts (.fieldLink RX2 24 "CrownTable$Rows" "cells" "[I") (mem_i 1 rfl)) (fun _ h9 => h9) rfl dX2_set_10 ?_
  refine lv_iload_n hx hb dX2_set_13 rfl (lv_at hl 1 rfl) ?_
  refine lv_aload_n hx hb dX2_set_14 rfl (lv_at hl 0 rfl) ?_
  refine va_get (D := D) (ci := 2) (v := .int 7) (C := RX2) (T := TX2) (N := 4) hx hb hts (fun _ h => List.mem_cons_of_mem _ (List.mem_append_right _ h)) hown hK hP 0 rfl rfl 0 (by decide) (hts (.fieldLink RX2 15 "CrownTable$Rows" "width" "I") (mem_i 2 rfl)) (fun _ h9 => h9) rfl dX2_set_15 ?_
  refine lv_imul hx hb dX2_set_18 ?_
  refine lk_i (y := 0) (by decide) ?_
  refine lv_iload_n hx hb dX2_set_19 rfl (lv_at hl 2 rfl) ?_
  refine lv_iadd hx hb dX2_set_20 ?_
  refine lk_i (y := 1) (by decide) ?_
  refine lv_iload_n hx hb dX2_set_21 rfl (lv_at hl 3 rfl) ?_
  refine va_iast hx hb hK hP hD hS 1 1 rfl rfl (vin (a := 1) (by decide) (by decide) (by decide)) dX2_set_22 (fun H locs hP hD hS => ?_)
  obtain ⟨f_3, hP, hD⟩ : ∃ f_3 : Nat → Int32, va_P D vwCl [(h0, .inr (2, [.int 7, .int 400, .ref h1, .int 1])), (h1, .inl (c 1, 112, .inl f_3))] H ∧ va_D A [(h0, .inr (2, [.int 7, .int 400, .ref h1, .int 1])), (h1, .inl (c 1, 112, .inl f_3))] := ⟨_, hP, hD⟩
  have hP9 := hP.sub (ws' := [(h0, .inr (2, [.int 7, .int 400, .ref h1, .int 1])), (h1, .inl (c 1, 112, .inl f_3))]) [0, 1] rfl
  have hD9 := hD.sub (ws' := [(h0, .inr (2, [.int 7, .int 400, .ref h1, .int 1])), (h1, .inl (c 1, 112, .inl f_3))]) [0, 1] (by decide) rfl
  refine W.widen (k := 0) (n := 0) (by omega) (by omega) ?_
  exact W.vret hx hb hr (fun t ht hW => ⟨⟨(fun k => [].getD k 0, fun k => [f_3].getD k (fun _ => 0), fun k => [].getD k (fun _ => 0)), rfl, trivial, ⟨by rw [ht]; exact hP9, hD9⟩⟩, hS.F ht⟩) hS.2.2 dX2_set_23

set_option maxHeartbeats 4000000 in
set_option maxRecDepth 100000 in
theorem c_X2_has_6 (l : Launch) (D : va_G) (c : Nat → ClassId) (ts : Nat × Nat) (sz : Nat) (h0 : Nat) (h1 : Nat) : Met l yX2_has wsX2_has ({ frames := 0, cells := 0, slots := 0, locals := 0 }) (va_Pc [.ref h0, .int 0, .int 2] (Pre0 D c ts [(h0, .inr (2, [.int 7, .int 400, .ref h1, .int 1]))] sz)) (vp_Si (fun r : Int32 => r = 1)) 0 0 (fun _ => False) := by
  refine Met.ofW (cc := cX2_has) (maxL := 3) (ret := (some .boolean)) (by decide) rfl ?_
  intro p e s m args below meth cd s₁ B hml hv
  obtain ⟨rfl, hsz, hP, hD0, hAm, hSt⟩ := hv
  have hx := B.exec
  have hb := B.bytes
  have hr := B.returns
  have hts := atoms_spec (ws := wsX2_has) B.pre
  have hown : s.vm.findClass RX2 = some m.cls := findClass_of_methodNamed B.named
  have hlocks := B.notSynchronized
  subst hsz
  have hK := hAm.1
  have hD := hD0.self (sz := s.heap.size)
  generalize hAe : va_A [(h0, .inr (2, [.int 7, .int 400, .ref h1, .int 1]))] s.heap.size = A at hD hSt
  have hA : ∀ q : Nat, s.heap.size ≤ q → A q := fun q h => by rw [← hAe]; exact Or.inr h
  have hS : va_S A s.heap s.heap [] := va_S.rf
  clear hD0 hAe
  have hl := lv_entry ([.ref h0, .int 0, .int 2]) (n := 3) (Nat.le_of_ble_eq_true rfl)
  rw [lg_entry_eq]
  generalize (lg_sl ([.ref h0, .int 0, .int 2]) ++ List.replicate (3 - (lg_sl ([.ref h0, .int 0, .int 2])).length) Slot.unset).toArray = ls at hl ⊢
  have hl : lv_has ls 3 [(0, .ref h0), (1, .int 0), (2, .int 2)] := hl
  refine lv_iload_n hx hb dX2_has_0 rfl (lv_at hl 1 rfl) ?_
  refine iif_ltF (a := 0) (tgt := 28) hx hb (by decide) dX2_has_1 (by decide) (by decide) ?_
  refine lv_iload_n hx hb dX2_has_4 rfl (lv_at hl 1 rfl) ?_
  refine lv_aload_n hx hb dX2_has_5 rfl (lv_at hl 0 rfl) ?_
  refine va_get (D := D) (ci := 2) (v := .int 1) (C := RX2) (T := TX2) (N := 4) hx hb hts (fun _ h => List.mem_cons_of_mem _ (List.mem_append_right _ h)) hown hK hP 0 rfl rfl 3 (by decide) (hts (.fieldLink RX2 28 "CrownTable$Rows" "size" "I") (mem_i 1 rfl)) (fun _ h9 => h9) rfl dX2_has_6 ?_
  refine iicmp_geF (a := 0) (b := 1) (tgt := 28) hx hb (by decide) (by decide) dX2_has_9 (by decide) (by decide) ?_
  refine lv_iload_n hx hb dX2_has_12 rfl (lv_at hl 2 rfl) ?_
  refine iif_ltF (a := 2) (tgt := 28) hx hb (by decide) dX2_has_13 (by decide) (by decide) ?_
  refine lv_iload_n hx hb dX2_has_16 rfl (lv_at hl 2 rfl) ?_
  refine lv_aload_n hx hb dX2_has_17 rfl (lv_at hl 0 rfl) ?_
  refine va_get (D := D) (ci := 2) (v := .int 7) (C := RX2) (T := TX2) (N := 4) hx hb hts (fun _ h => List.mem_cons_of_mem _ (List.mem_append_right _ h)) hown hK hP 0 rfl rfl 0 (by decide) (hts (.fieldLink RX2 15 "CrownTable$Rows" "width" "I") (mem_i 2 rfl)) (fun _ h9 => h9) rfl dX2_has_18 ?_
  refine iicmp_geF (a := 2) (b := 7) (tgt := 28) hx hb (by decide) (by decide) dX2_has_21 (by decide) (by decide) ?_
  refine lv_iconst (v := 1) hx hb dX2_has_24 (by decide) ?_
  refine lv_goto (tgt := 29) hx hb dX2_has_25 (by decide) ?_
  exact W.zret (v := 1) hx hb hr (by decide) (fun t ht hW => ⟨_, rfl, rfl, ht⟩) (fun _ h => by cases h) dX2_has_29

set_option maxHeartbeats 4000000 in
set_option maxRecDepth 100000 in
theorem c_X2_set_2 (l : Launch) (D : va_G) (c : Nat → ClassId) (ts : Nat × Nat) (sz : Nat) (h0 : Nat) (h1 : Nat) (f0 : Nat → Int32) (a3 : Int32) (i_a3 : Int) (hi_a3 : a3.toInt = i_a3) : Met l yX2_set wsX2_set ({ frames := 1, cells := 0, slots := 0, locals := 22 }) (va_Pc [.ref h0, .int 0, .int 2, .int a3] (Pre0 D c ts [(h0, .inr (2, [.int 7, .int 400, .ref h1, .int 1])), (h1, .inl (c 1, 112, .inl f0))] sz)) (va_Qv (fun (u : (Nat → Nat) × (Nat → Nat → Int32) × (Nat → Nat → Int64)) => True) (fun u t => va_P D vwCl [(h0, .inr (2, [.int 7, .int 400, .ref h1, .int 1])), (h1, .inl (c 1, 112, .inl (u.2.1 0)))] t.heap ∧ va_D (va_A [(h0, .inr (2, [.int 7, .int 400, .ref h1, .int 1])), (h1, .inl (c 1, 112, .inl f0))] sz) [(h0, .inr (2, [.int 7, .int 400, .ref h1, .int 1])), (h1, .inl (c 1, 112, .inl (u.2.1 0)))]) (va_A [(h0, .inr (2, [.int 7, .int 400, .ref h1, .int 1])), (h1, .inl (c 1, 112, .inl f0))] sz)) 0 0 (va_A [(h0, .inr (2, [.int 7, .int 400, .ref h1, .int 1])), (h1, .inl (c 1, 112, .inl f0))] sz) := by
  refine Met.ofW (cc := cX2_set) (maxL := 4) (ret := none) (by decide) rfl ?_
  intro p e s m args below meth cd s₁ B hml hv
  obtain ⟨rfl, hsz, hP, hD0, hAm, hSt⟩ := hv
  have hx := B.exec
  have hb := B.bytes
  have hr := B.returns
  have hts := atoms_spec (ws := wsX2_set) B.pre
  have hown : s.vm.findClass RX2 = some m.cls := findClass_of_methodNamed B.named
  have hlocks := B.notSynchronized
  subst hsz
  have hK := hAm.1
  have hD := hD0.self (sz := s.heap.size)
  generalize hAe : va_A [(h0, .inr (2, [.int 7, .int 400, .ref h1, .int 1])), (h1, .inl (c 1, 112, .inl f0))] s.heap.size = A at hD hSt ⊢
  have hA : ∀ q : Nat, s.heap.size ≤ q → A q := fun q h => by rw [← hAe]; exact Or.inr h
  have hS : va_S A s.heap s.heap [] := va_S.rf
  clear hD0 hAe
  have hl := lv_entry ([.ref h0, .int 0, .int 2, .int a3]) (n := 4) (Nat.le_of_ble_eq_true rfl)
  rw [lg_entry_eq]
  generalize (lg_sl ([.ref h0, .int 0, .int 2, .int a3]) ++ List.replicate (4 - (lg_sl ([.ref h0, .int 0, .int 2, .int a3])).length) Slot.unset).toArray = ls at hl ⊢
  have hl : lv_has ls 4 [(0, .ref h0), (1, .int 0), (2, .int 2), (3, .int a3)] := hl
  refine lv_aload_n hx hb dX2_set_0 rfl (lv_at hl 0 rfl) ?_
  refine lv_iload_n hx hb dX2_set_1 rfl (lv_at hl 1 rfl) ?_
  refine lv_iload_n hx hb dX2_set_2 rfl (lv_at hl 2 rfl) ?_
  have hPc := hP.sub (ws' := [(h0, .inr (2, [.int 7, .int 400, .ref h1, .int 1]))]) [0] rfl
  have hDc := hD.sub (ws' := [(h0, .inr (2, [.int 7, .int 400, .ref h1, .int 1]))]) [0] (by decide) rfl
  have hFc := va_free (wc := [(h0, .inr (2, [.int 7, .int 400, .ref h1, .int 1]))]) hD hS hA [0] rfl
  refine va_csi (va_runV (As := [.int 0, .int 2]) (rest := []) ⟨hx, hb, hml, hown, hts⟩ (c_X2_has_6 l D c ts s.heap.size h0 h1) (cwV 2 hts gX2_set_X2_has rfl rfl rfl ⟨rfl, hdX2_has⟩ ⟨(show 0 + 1 ≤ 1 by decide), (show 8 + (3 + 11) + 0 ≤ 22 by decide)⟩) ⟨Pre0.blind, va_recv hK hPc (ci := 2) (q0 := 0) rfl rfl, Pre0.at hPc hDc hAm hSt hS hFc⟩ rfl rfl hl.1 rfl (lv_room (Nat.le_of_ble_eq_true rfl)) dX2_set_3 ⟨(show 0 + 0 ≤ 0 by decide), (show 0 + 0 ≤ 0 by decide)⟩) (fun r_2 hw_1 => ?_)
  refine lk_i (y := 1) hw_1 ?_
  refine iif_eqF (a := 1) (tgt := 23) hx hb (by decide) dX2_set_6 (by decide) (by decide) ?_
  refine lv_aload_n hx hb dX2_set_9 rfl (lv_at hl 0 rfl) ?_
  refine va_get (D := D) (ci := 2) (v := .ref h1) (C := RX2) (T := TX2) (N := 4) hx hb hts (fun _ h => List.mem_cons_of_mem _ (List.mem_append_right _ h)) hown hK hP 0 rfl rfl 2 (by decide) (hts (.fieldLink RX2 24 "CrownTable$Rows" "cells" "[I") (mem_i 1 rfl)) (fun _ h9 => h9) rfl dX2_set_10 ?_
  refine lv_iload_n hx hb dX2_set_13 rfl (lv_at hl 1 rfl) ?_
  refine lv_aload_n hx hb dX2_set_14 rfl (lv_at hl 0 rfl) ?_
  refine va_get (D := D) (ci := 2) (v := .int 7) (C := RX2) (T := TX2) (N := 4) hx hb hts (fun _ h => List.mem_cons_of_mem _ (List.mem_append_right _ h)) hown hK hP 0 rfl rfl 0 (by decide) (hts (.fieldLink RX2 15 "CrownTable$Rows" "width" "I") (mem_i 2 rfl)) (fun _ h9 => h9) rfl dX2_set_15 ?_
  refine lv_imul hx hb dX2_set_18 ?_
  refine lk_i (y := 0) (by decide) ?_
  refine lv_iload_n hx hb dX2_set_19 rfl (lv_at hl 2 rfl) ?_
  refine lv_iadd hx hb dX2_set_20 ?_
  refine lk_i (y := 2) (by decide) ?_
  refine lv_iload_n hx hb dX2_set_21 rfl (lv_at hl 3 rfl) ?_
  refine va_iast hx hb hK hP hD hS 1 1 rfl rfl (vin (a := 2) (by decide) (by decide) (by decide)) dX2_set_22 (fun H locs hP hD hS => ?_)
  obtain ⟨f_3, hP, hD⟩ : ∃ f_3 : Nat → Int32, va_P D vwCl [(h0, .inr (2, [.int 7, .int 400, .ref h1, .int 1])), (h1, .inl (c 1, 112, .inl f_3))] H ∧ va_D A [(h0, .inr (2, [.int 7, .int 400, .ref h1, .int 1])), (h1, .inl (c 1, 112, .inl f_3))] := ⟨_, hP, hD⟩
  have hP9 := hP.sub (ws' := [(h0, .inr (2, [.int 7, .int 400, .ref h1, .int 1])), (h1, .inl (c 1, 112, .inl f_3))]) [0, 1] rfl
  have hD9 := hD.sub (ws' := [(h0, .inr (2, [.int 7, .int 400, .ref h1, .int 1])), (h1, .inl (c 1, 112, .inl f_3))]) [0, 1] (by decide) rfl
  refine W.widen (k := 0) (n := 0) (by omega) (by omega) ?_
  exact W.vret hx hb hr (fun t ht hW => ⟨⟨(fun k => [].getD k 0, fun k => [f_3].getD k (fun _ => 0), fun k => [].getD k (fun _ => 0)), rfl, trivial, ⟨by rw [ht]; exact hP9, hD9⟩⟩, hS.F ht⟩) hS.2.2 dX2_set_23

set_option maxHeartbeats 4000000 in
set_option maxRecDepth 100000 in
theorem c_X2_has_7 (l : Launch) (D : va_G) (c : Nat → ClassId) (ts : Nat × Nat) (sz : Nat) (h0 : Nat) (h1 : Nat) : Met l yX2_has wsX2_has ({ frames := 0, cells := 0, slots := 0, locals := 0 }) (va_Pc [.ref h0, .int 0, .int 3] (Pre0 D c ts [(h0, .inr (2, [.int 7, .int 400, .ref h1, .int 1]))] sz)) (vp_Si (fun r : Int32 => r = 1)) 0 0 (fun _ => False) := by
  refine Met.ofW (cc := cX2_has) (maxL := 3) (ret := (some .boolean)) (by decide) rfl ?_
  intro p e s m args below meth cd s₁ B hml hv
  obtain ⟨rfl, hsz, hP, hD0, hAm, hSt⟩ := hv
  have hx := B.exec
  have hb := B.bytes
  have hr := B.returns
  have hts := atoms_spec (ws := wsX2_has) B.pre
  have hown : s.vm.findClass RX2 = some m.cls := findClass_of_methodNamed B.named
  have hlocks := B.notSynchronized
  subst hsz
  have hK := hAm.1
  have hD := hD0.self (sz := s.heap.size)
  generalize hAe : va_A [(h0, .inr (2, [.int 7, .int 400, .ref h1, .int 1]))] s.heap.size = A at hD hSt
  have hA : ∀ q : Nat, s.heap.size ≤ q → A q := fun q h => by rw [← hAe]; exact Or.inr h
  have hS : va_S A s.heap s.heap [] := va_S.rf
  clear hD0 hAe
  have hl := lv_entry ([.ref h0, .int 0, .int 3]) (n := 3) (Nat.le_of_ble_eq_true rfl)
  rw [lg_entry_eq]
  generalize (lg_sl ([.ref h0, .int 0, .int 3]) ++ List.replicate (3 - (lg_sl ([.ref h0, .int 0, .int 3])).length) Slot.unset).toArray = ls at hl ⊢
  have hl : lv_has ls 3 [(0, .ref h0), (1, .int 0), (2, .int 3)] := hl
  refine lv_iload_n hx hb dX2_has_0 rfl (lv_at hl 1 rfl) ?_
  refine iif_ltF (a := 0) (tgt := 28) hx hb (by decide) dX2_has_1 (by decide) (by decide) ?_
  refine lv_iload_n hx hb dX2_has_4 rfl (lv_at hl 1 rfl) ?_
  refine lv_aload_n hx hb dX2_has_5 rfl (lv_at hl 0 rfl) ?_
  refine va_get (D := D) (ci := 2) (v := .int 1) (C := RX2) (T := TX2) (N := 4) hx hb hts (fun _ h => List.mem_cons_of_mem _ (List.mem_append_right _ h)) hown hK hP 0 rfl rfl 3 (by decide) (hts (.fieldLink RX2 28 "CrownTable$Rows" "size" "I") (mem_i 1 rfl)) (fun _ h9 => h9) rfl dX2_has_6 ?_
  refine iicmp_geF (a := 0) (b := 1) (tgt := 28) hx hb (by decide) (by decide) dX2_has_9 (by decide) (by decide) ?_
  refine lv_iload_n hx hb dX2_has_12 rfl (lv_at hl 2 rfl) ?_
  refine iif_ltF (a := 3) (tgt := 28) hx hb (by decide) dX2_has_13 (by decide) (by decide) ?_
  refine lv_iload_n hx hb dX2_has_16 rfl (lv_at hl 2 rfl) ?_
  refine lv_aload_n hx hb dX2_has_17 rfl (lv_at hl 0 rfl) ?_
  refine va_get (D := D) (ci := 2) (v := .int 7) (C := RX2) (T := TX2) (N := 4) hx hb hts (fun _ h => List.mem_cons_of_mem _ (List.mem_append_right _ h)) hown hK hP 0 rfl rfl 0 (by decide) (hts (.fieldLink RX2 15 "CrownTable$Rows" "width" "I") (mem_i 2 rfl)) (fun _ h9 => h9) rfl dX2_has_18 ?_
  refine iicmp_geF (a := 3) (b := 7) (tgt := 28) hx hb (by decide) (by decide) dX2_has_21 (by decide) (by decide) ?_
  refine lv_iconst (v := 1) hx hb dX2_has_24 (by decide) ?_
  refine lv_goto (tgt := 29) hx hb dX2_has_25 (by decide) ?_
  exact W.zret (v := 1) hx hb hr (by decide) (fun t ht hW => ⟨_, rfl, rfl, ht⟩) (fun _ h => by cases h) dX2_has_29

set_option maxHeartbeats 4000000 in
set_option maxRecDepth 100000 in
theorem c_X2_set_3 (l : Launch) (D : va_G) (c : Nat → ClassId) (ts : Nat × Nat) (sz : Nat) (h0 : Nat) (h1 : Nat) (f0 : Nat → Int32) (a3 : Int32) (i_a3 : Int) (hi_a3 : a3.toInt = i_a3) : Met l yX2_set wsX2_set ({ frames := 1, cells := 0, slots := 0, locals := 22 }) (va_Pc [.ref h0, .int 0, .int 3, .int a3] (Pre0 D c ts [(h0, .inr (2, [.int 7, .int 400, .ref h1, .int 1])), (h1, .inl (c 1, 112, .inl f0))] sz)) (va_Qv (fun (u : (Nat → Nat) × (Nat → Nat → Int32) × (Nat → Nat → Int64)) => True) (fun u t => va_P D vwCl [(h0, .inr (2, [.int 7, .int 400, .ref h1, .int 1])), (h1, .inl (c 1, 112, .inl (u.2.1 0)))] t.heap ∧ va_D (va_A [(h0, .inr (2, [.int 7, .int 400, .ref h1, .int 1])), (h1, .inl (c 1, 112, .inl f0))] sz) [(h0, .inr (2, [.int 7, .int 400, .ref h1, .int 1])), (h1, .inl (c 1, 112, .inl (u.2.1 0)))]) (va_A [(h0, .inr (2, [.int 7, .int 400, .ref h1, .int 1])), (h1, .inl (c 1, 112, .inl f0))] sz)) 0 0 (va_A [(h0, .inr (2, [.int 7, .int 400, .ref h1, .int 1])), (h1, .inl (c 1, 112, .inl f0))] sz) := by
  refine Met.ofW (cc := cX2_set) (maxL := 4) (ret := none) (by decide) rfl ?_
  intro p e s m args below meth cd s₁ B hml hv
  obtain ⟨rfl, hsz, hP, hD0, hAm, hSt⟩ := hv
  have hx := B.exec
  have hb := B.bytes
  have hr := B.returns
  have hts := atoms_spec (ws := wsX2_set) B.pre
  have hown : s.vm.findClass RX2 = some m.cls := findClass_of_methodNamed B.named
  have hlocks := B.notSynchronized
  subst hsz
  have hK := hAm.1
  have hD := hD0.self (sz := s.heap.size)
  generalize hAe : va_A [(h0, .inr (2, [.int 7, .int 400, .ref h1, .int 1])), (h1, .inl (c 1, 112, .inl f0))] s.heap.size = A at hD hSt ⊢
  have hA : ∀ q : Nat, s.heap.size ≤ q → A q := fun q h => by rw [← hAe]; exact Or.inr h
  have hS : va_S A s.heap s.heap [] := va_S.rf
  clear hD0 hAe
  have hl := lv_entry ([.ref h0, .int 0, .int 3, .int a3]) (n := 4) (Nat.le_of_ble_eq_true rfl)
  rw [lg_entry_eq]
  generalize (lg_sl ([.ref h0, .int 0, .int 3, .int a3]) ++ List.replicate (4 - (lg_sl ([.ref h0, .int 0, .int 3, .int a3])).length) Slot.unset).toArray = ls at hl ⊢
  have hl : lv_has ls 4 [(0, .ref h0), (1, .int 0), (2, .int 3), (3, .int a3)] := hl
  refine lv_aload_n hx hb dX2_set_0 rfl (lv_at hl 0 rfl) ?_
  refine lv_iload_n hx hb dX2_set_1 rfl (lv_at hl 1 rfl) ?_
  refine lv_iload_n hx hb dX2_set_2 rfl (lv_at hl 2 rfl) ?_
  have hPc := hP.sub (ws' := [(h0, .inr (2, [.int 7, .int 400, .ref h1, .int 1]))]) [0] rfl
  have hDc := hD.sub (ws' := [(h0, .inr (2, [.int 7, .int 400, .ref h1, .int 1]))]) [0] (by decide) rfl
  have hFc := va_free (wc := [(h0, .inr (2, [.int 7, .int 400, .ref h1, .int 1]))]) hD hS hA [0] rfl
  refine va_csi (va_runV (As := [.int 0, .int 3]) (rest := []) ⟨hx, hb, hml, hown, hts⟩ (c_X2_has_7 l D c ts s.heap.size h0 h1) (cwV 2 hts gX2_set_X2_has rfl rfl rfl ⟨rfl, hdX2_has⟩ ⟨(show 0 + 1 ≤ 1 by decide), (show 8 + (3 + 11) + 0 ≤ 22 by decide)⟩) ⟨Pre0.blind, va_recv hK hPc (ci := 2) (q0 := 0) rfl rfl, Pre0.at hPc hDc hAm hSt hS hFc⟩ rfl rfl hl.1 rfl (lv_room (Nat.le_of_ble_eq_true rfl)) dX2_set_3 ⟨(show 0 + 0 ≤ 0 by decide), (show 0 + 0 ≤ 0 by decide)⟩) (fun r_2 hw_1 => ?_)
  refine lk_i (y := 1) hw_1 ?_
  refine iif_eqF (a := 1) (tgt := 23) hx hb (by decide) dX2_set_6 (by decide) (by decide) ?_
  refine lv_aload_n hx hb dX2_set_9 rfl (lv_at hl 0 rfl) ?_
  refine va_get (D := D) (ci := 2) (v := .ref h1) (C := RX2) (T := TX2) (N := 4) hx hb hts (fun _ h => List.mem_cons_of_mem _ (List.mem_append_right _ h)) hown hK hP 0 rfl rfl 2 (by decide) (hts (.fieldLink RX2 24 "CrownTable$Rows" "cells" "[I") (mem_i 1 rfl)) (fun _ h9 => h9) rfl dX2_set_10 ?_
  refine lv_iload_n hx hb dX2_set_13 rfl (lv_at hl 1 rfl) ?_
  refine lv_aload_n hx hb dX2_set_14 rfl (lv_at hl 0 rfl) ?_
  refine va_get (D := D) (ci := 2) (v := .int 7) (C := RX2) (T := TX2) (N := 4) hx hb hts (fun _ h => List.mem_cons_of_mem _ (List.mem_append_right _ h)) hown hK hP 0 rfl rfl 0 (by decide) (hts (.fieldLink RX2 15 "CrownTable$Rows" "width" "I") (mem_i 2 rfl)) (fun _ h9 => h9) rfl dX2_set_15 ?_
  refine lv_imul hx hb dX2_set_18 ?_
  refine lk_i (y := 0) (by decide) ?_
  refine lv_iload_n hx hb dX2_set_19 rfl (lv_at hl 2 rfl) ?_
  refine lv_iadd hx hb dX2_set_20 ?_
  refine lk_i (y := 3) (by decide) ?_
  refine lv_iload_n hx hb dX2_set_21 rfl (lv_at hl 3 rfl) ?_
  refine va_iast hx hb hK hP hD hS 1 1 rfl rfl (vin (a := 3) (by decide) (by decide) (by decide)) dX2_set_22 (fun H locs hP hD hS => ?_)
  obtain ⟨f_3, hP, hD⟩ : ∃ f_3 : Nat → Int32, va_P D vwCl [(h0, .inr (2, [.int 7, .int 400, .ref h1, .int 1])), (h1, .inl (c 1, 112, .inl f_3))] H ∧ va_D A [(h0, .inr (2, [.int 7, .int 400, .ref h1, .int 1])), (h1, .inl (c 1, 112, .inl f_3))] := ⟨_, hP, hD⟩
  have hP9 := hP.sub (ws' := [(h0, .inr (2, [.int 7, .int 400, .ref h1, .int 1])), (h1, .inl (c 1, 112, .inl f_3))]) [0, 1] rfl
  have hD9 := hD.sub (ws' := [(h0, .inr (2, [.int 7, .int 400, .ref h1, .int 1])), (h1, .inl (c 1, 112, .inl f_3))]) [0, 1] (by decide) rfl
  refine W.widen (k := 0) (n := 0) (by omega) (by omega) ?_
  exact W.vret hx hb hr (fun t ht hW => ⟨⟨(fun k => [].getD k 0, fun k => [f_3].getD k (fun _ => 0), fun k => [].getD k (fun _ => 0)), rfl, trivial, ⟨by rw [ht]; exact hP9, hD9⟩⟩, hS.F ht⟩) hS.2.2 dX2_set_23

set_option maxHeartbeats 4000000 in
set_option maxRecDepth 100000 in
theorem c_X2_has_8 (l : Launch) (D : va_G) (c : Nat → ClassId) (ts : Nat × Nat) (sz : Nat) (h0 : Nat) (h1 : Nat) : Met l yX2_has wsX2_has ({ frames := 0, cells := 0, slots := 0, locals := 0 }) (va_Pc [.ref h0, .int 0, .int 4] (Pre0 D c ts [(h0, .inr (2, [.int 7, .int 400, .ref h1, .int 1]))] sz)) (vp_Si (fun r : Int32 => r = 1)) 0 0 (fun _ => False) := by
  refine Met.ofW (cc := cX2_has) (maxL := 3) (ret := (some .boolean)) (by decide) rfl ?_
  intro p e s m args below meth cd s₁ B hml hv
  obtain ⟨rfl, hsz, hP, hD0, hAm, hSt⟩ := hv
  have hx := B.exec
  have hb := B.bytes
  have hr := B.returns
  have hts := atoms_spec (ws := wsX2_has) B.pre
  have hown : s.vm.findClass RX2 = some m.cls := findClass_of_methodNamed B.named
  have hlocks := B.notSynchronized
  subst hsz
  have hK := hAm.1
  have hD := hD0.self (sz := s.heap.size)
  generalize hAe : va_A [(h0, .inr (2, [.int 7, .int 400, .ref h1, .int 1]))] s.heap.size = A at hD hSt
  have hA : ∀ q : Nat, s.heap.size ≤ q → A q := fun q h => by rw [← hAe]; exact Or.inr h
  have hS : va_S A s.heap s.heap [] := va_S.rf
  clear hD0 hAe
  have hl := lv_entry ([.ref h0, .int 0, .int 4]) (n := 3) (Nat.le_of_ble_eq_true rfl)
  rw [lg_entry_eq]
  generalize (lg_sl ([.ref h0, .int 0, .int 4]) ++ List.replicate (3 - (lg_sl ([.ref h0, .int 0, .int 4])).length) Slot.unset).toArray = ls at hl ⊢
  have hl : lv_has ls 3 [(0, .ref h0), (1, .int 0), (2, .int 4)] := hl
  refine lv_iload_n hx hb dX2_has_0 rfl (lv_at hl 1 rfl) ?_
  refine iif_ltF (a := 0) (tgt := 28) hx hb (by decide) dX2_has_1 (by decide) (by decide) ?_
  refine lv_iload_n hx hb dX2_has_4 rfl (lv_at hl 1 rfl) ?_
  refine lv_aload_n hx hb dX2_has_5 rfl (lv_at hl 0 rfl) ?_
  refine va_get (D := D) (ci := 2) (v := .int 1) (C := RX2) (T := TX2) (N := 4) hx hb hts (fun _ h => List.mem_cons_of_mem _ (List.mem_append_right _ h)) hown hK hP 0 rfl rfl 3 (by decide) (hts (.fieldLink RX2 28 "CrownTable$Rows" "size" "I") (mem_i 1 rfl)) (fun _ h9 => h9) rfl dX2_has_6 ?_
  refine iicmp_geF (a := 0) (b := 1) (tgt := 28) hx hb (by decide) (by decide) dX2_has_9 (by decide) (by decide) ?_
  refine lv_iload_n hx hb dX2_has_12 rfl (lv_at hl 2 rfl) ?_
  refine iif_ltF (a := 4) (tgt := 28) hx hb (by decide) dX2_has_13 (by decide) (by decide) ?_
  refine lv_iload_n hx hb dX2_has_16 rfl (lv_at hl 2 rfl) ?_
  refine lv_aload_n hx hb dX2_has_17 rfl (lv_at hl 0 rfl) ?_
  refine va_get (D := D) (ci := 2) (v := .int 7) (C := RX2) (T := TX2) (N := 4) hx hb hts (fun _ h => List.mem_cons_of_mem _ (List.mem_append_right _ h)) hown hK hP 0 rfl rfl 0 (by decide) (hts (.fieldLink RX2 15 "CrownTable$Rows" "width" "I") (mem_i 2 rfl)) (fun _ h9 => h9) rfl dX2_has_18 ?_
  refine iicmp_geF (a := 4) (b := 7) (tgt := 28) hx hb (by decide) (by decide) dX2_has_21 (by decide) (by decide) ?_
  refine lv_iconst (v := 1) hx hb dX2_has_24 (by decide) ?_
  refine lv_goto (tgt := 29) hx hb dX2_has_25 (by decide) ?_
  exact W.zret (v := 1) hx hb hr (by decide) (fun t ht hW => ⟨_, rfl, rfl, ht⟩) (fun _ h => by cases h) dX2_has_29

set_option maxHeartbeats 4000000 in
set_option maxRecDepth 100000 in
theorem c_X2_set_4 (l : Launch) (D : va_G) (c : Nat → ClassId) (ts : Nat × Nat) (sz : Nat) (h0 : Nat) (h1 : Nat) (f0 : Nat → Int32) : Met l yX2_set wsX2_set ({ frames := 1, cells := 0, slots := 0, locals := 22 }) (va_Pc [.ref h0, .int 0, .int 4, .int 0] (Pre0 D c ts [(h0, .inr (2, [.int 7, .int 400, .ref h1, .int 1])), (h1, .inl (c 1, 112, .inl f0))] sz)) (va_Qv (fun (u : (Nat → Nat) × (Nat → Nat → Int32) × (Nat → Nat → Int64)) => True) (fun u t => va_P D vwCl [(h0, .inr (2, [.int 7, .int 400, .ref h1, .int 1])), (h1, .inl (c 1, 112, .inl (u.2.1 0)))] t.heap ∧ va_D (va_A [(h0, .inr (2, [.int 7, .int 400, .ref h1, .int 1])), (h1, .inl (c 1, 112, .inl f0))] sz) [(h0, .inr (2, [.int 7, .int 400, .ref h1, .int 1])), (h1, .inl (c 1, 112, .inl (u.2.1 0)))]) (va_A [(h0, .inr (2, [.int 7, .int 400, .ref h1, .int 1])), (h1, .inl (c 1, 112, .inl f0))] sz)) 0 0 (va_A [(h0, .inr (2, [.int 7, .int 400, .ref h1, .int 1])), (h1, .inl (c 1, 112, .inl f0))] sz) := by
  refine Met.ofW (cc := cX2_set) (maxL := 4) (ret := none) (by decide) rfl ?_
  intro p e s m args below meth cd s₁ B hml hv
  obtain ⟨rfl, hsz, hP, hD0, hAm, hSt⟩ := hv
  have hx := B.exec
  have hb := B.bytes
  have hr := B.returns
  have hts := atoms_spec (ws := wsX2_set) B.pre
  have hown : s.vm.findClass RX2 = some m.cls := findClass_of_methodNamed B.named
  have hlocks := B.notSynchronized
  subst hsz
  have hK := hAm.1
  have hD := hD0.self (sz := s.heap.size)
  generalize hAe : va_A [(h0, .inr (2, [.int 7, .int 400, .ref h1, .int 1])), (h1, .inl (c 1, 112, .inl f0))] s.heap.size = A at hD hSt ⊢
  have hA : ∀ q : Nat, s.heap.size ≤ q → A q := fun q h => by rw [← hAe]; exact Or.inr h
  have hS : va_S A s.heap s.heap [] := va_S.rf
  clear hD0 hAe
  have hl := lv_entry ([.ref h0, .int 0, .int 4, .int 0]) (n := 4) (Nat.le_of_ble_eq_true rfl)
  rw [lg_entry_eq]
  generalize (lg_sl ([.ref h0, .int 0, .int 4, .int 0]) ++ List.replicate (4 - (lg_sl ([.ref h0, .int 0, .int 4, .int 0])).length) Slot.unset).toArray = ls at hl ⊢
  have hl : lv_has ls 4 [(0, .ref h0), (1, .int 0), (2, .int 4), (3, .int 0)] := hl
  refine lv_aload_n hx hb dX2_set_0 rfl (lv_at hl 0 rfl) ?_
  refine lv_iload_n hx hb dX2_set_1 rfl (lv_at hl 1 rfl) ?_
  refine lv_iload_n hx hb dX2_set_2 rfl (lv_at hl 2 rfl) ?_
  have hPc := hP.sub (ws' := [(h0, .inr (2, [.int 7, .int 400, .ref h1, .int 1]))]) [0] rfl
  have hDc := hD.sub (ws' := [(h0, .inr (2, [.int 7, .int 400, .ref h1, .int 1]))]) [0] (by decide) rfl
  have hFc := va_free (wc := [(h0, .inr (2, [.int 7, .int 400, .ref h1, .int 1]))]) hD hS hA [0] rfl
  refine va_csi (va_runV (As := [.int 0, .int 4]) (rest := []) ⟨hx, hb, hml, hown, hts⟩ (c_X2_has_8 l D c ts s.heap.size h0 h1) (cwV 2 hts gX2_set_X2_has rfl rfl rfl ⟨rfl, hdX2_has⟩ ⟨(show 0 + 1 ≤ 1 by decide), (show 8 + (3 + 11) + 0 ≤ 22 by decide)⟩) ⟨Pre0.blind, va_recv hK hPc (ci := 2) (q0 := 0) rfl rfl, Pre0.at hPc hDc hAm hSt hS hFc⟩ rfl rfl hl.1 rfl (lv_room (Nat.le_of_ble_eq_true rfl)) dX2_set_3 ⟨(show 0 + 0 ≤ 0 by decide), (show 0 + 0 ≤ 0 by decide)⟩) (fun r_2 hw_1 => ?_)
  refine lk_i (y := 1) hw_1 ?_
  refine iif_eqF (a := 1) (tgt := 23) hx hb (by decide) dX2_set_6 (by decide) (by decide) ?_
  refine lv_aload_n hx hb dX2_set_9 rfl (lv_at hl 0 rfl) ?_
  refine va_get (D := D) (ci := 2) (v := .ref h1) (C := RX2) (T := TX2) (N := 4) hx hb hts (fun _ h => List.mem_cons_of_mem _ (List.mem_append_right _ h)) hown hK hP 0 rfl rfl 2 (by decide) (hts (.fieldLink RX2 24 "CrownTable$Rows" "cells" "[I") (mem_i 1 rfl)) (fun _ h9 => h9) rfl dX2_set_10 ?_
  refine lv_iload_n hx hb dX2_set_13 rfl (lv_at hl 1 rfl) ?_
  refine lv_aload_n hx hb dX2_set_14 rfl (lv_at hl 0 rfl) ?_
  refine va_get (D := D) (ci := 2) (v := .int 7) (C := RX2) (T := TX2) (N := 4) hx hb hts (fun _ h => List.mem_cons_of_mem _ (List.mem_append_right _ h)) hown hK hP 0 rfl rfl 0 (by decide) (hts (.fieldLink RX2 15 "CrownTable$Rows" "width" "I") (mem_i 2 rfl)) (fun _ h9 => h9) rfl dX2_set_15 ?_
  refine lv_imul hx hb dX2_set_18 ?_
  refine lk_i (y := 0) (by decide) ?_
  refine lv_iload_n hx hb dX2_set_19 rfl (lv_at hl 2 rfl) ?_
  refine lv_iadd hx hb dX2_set_20 ?_
  refine lk_i (y := 4) (by decide) ?_
  refine lv_iload_n hx hb dX2_set_21 rfl (lv_at hl 3 rfl) ?_
  refine va_iast hx hb hK hP hD hS 1 1 rfl rfl (vin (a := 4) (by decide) (by decide) (by decide)) dX2_set_22 (fun H locs hP hD hS => ?_)
  obtain ⟨f_3, hP, hD⟩ : ∃ f_3 : Nat → Int32, va_P D vwCl [(h0, .inr (2, [.int 7, .int 400, .ref h1, .int 1])), (h1, .inl (c 1, 112, .inl f_3))] H ∧ va_D A [(h0, .inr (2, [.int 7, .int 400, .ref h1, .int 1])), (h1, .inl (c 1, 112, .inl f_3))] := ⟨_, hP, hD⟩
  have hP9 := hP.sub (ws' := [(h0, .inr (2, [.int 7, .int 400, .ref h1, .int 1])), (h1, .inl (c 1, 112, .inl f_3))]) [0, 1] rfl
  have hD9 := hD.sub (ws' := [(h0, .inr (2, [.int 7, .int 400, .ref h1, .int 1])), (h1, .inl (c 1, 112, .inl f_3))]) [0, 1] (by decide) rfl
  refine W.widen (k := 0) (n := 0) (by omega) (by omega) ?_
  exact W.vret hx hb hr (fun t ht hW => ⟨⟨(fun k => [].getD k 0, fun k => [f_3].getD k (fun _ => 0), fun k => [].getD k (fun _ => 0)), rfl, trivial, ⟨by rw [ht]; exact hP9, hD9⟩⟩, hS.F ht⟩) hS.2.2 dX2_set_23

set_option maxHeartbeats 4000000 in
set_option maxRecDepth 100000 in
theorem c_X2_has_9 (l : Launch) (D : va_G) (c : Nat → ClassId) (ts : Nat × Nat) (sz : Nat) (h0 : Nat) (h1 : Nat) : Met l yX2_has wsX2_has ({ frames := 0, cells := 0, slots := 0, locals := 0 }) (va_Pc [.ref h0, .int 0, .int 5] (Pre0 D c ts [(h0, .inr (2, [.int 7, .int 400, .ref h1, .int 1]))] sz)) (vp_Si (fun r : Int32 => r = 1)) 0 0 (fun _ => False) := by
  refine Met.ofW (cc := cX2_has) (maxL := 3) (ret := (some .boolean)) (by decide) rfl ?_
  intro p e s m args below meth cd s₁ B hml hv
  obtain ⟨rfl, hsz, hP, hD0, hAm, hSt⟩ := hv
  have hx := B.exec
  have hb := B.bytes
  have hr := B.returns
  have hts := atoms_spec (ws := wsX2_has) B.pre
  have hown : s.vm.findClass RX2 = some m.cls := findClass_of_methodNamed B.named
  have hlocks := B.notSynchronized
  subst hsz
  have hK := hAm.1
  have hD := hD0.self (sz := s.heap.size)
  generalize hAe : va_A [(h0, .inr (2, [.int 7, .int 400, .ref h1, .int 1]))] s.heap.size = A at hD hSt
  have hA : ∀ q : Nat, s.heap.size ≤ q → A q := fun q h => by rw [← hAe]; exact Or.inr h
  have hS : va_S A s.heap s.heap [] := va_S.rf
  clear hD0 hAe
  have hl := lv_entry ([.ref h0, .int 0, .int 5]) (n := 3) (Nat.le_of_ble_eq_true rfl)
  rw [lg_entry_eq]
  generalize (lg_sl ([.ref h0, .int 0, .int 5]) ++ List.replicate (3 - (lg_sl ([.ref h0, .int 0, .int 5])).length) Slot.unset).toArray = ls at hl ⊢
  have hl : lv_has ls 3 [(0, .ref h0), (1, .int 0), (2, .int 5)] := hl
  refine lv_iload_n hx hb dX2_has_0 rfl (lv_at hl 1 rfl) ?_
  refine iif_ltF (a := 0) (tgt := 28) hx hb (by decide) dX2_has_1 (by decide) (by decide) ?_
  refine lv_iload_n hx hb dX2_has_4 rfl (lv_at hl 1 rfl) ?_
  refine lv_aload_n hx hb dX2_has_5 rfl (lv_at hl 0 rfl) ?_
  refine va_get (D := D) (ci := 2) (v := .int 1) (C := RX2) (T := TX2) (N := 4) hx hb hts (fun _ h => List.mem_cons_of_mem _ (List.mem_append_right _ h)) hown hK hP 0 rfl rfl 3 (by decide) (hts (.fieldLink RX2 28 "CrownTable$Rows" "size" "I") (mem_i 1 rfl)) (fun _ h9 => h9) rfl dX2_has_6 ?_
  refine iicmp_geF (a := 0) (b := 1) (tgt := 28) hx hb (by decide) (by decide) dX2_has_9 (by decide) (by decide) ?_
  refine lv_iload_n hx hb dX2_has_12 rfl (lv_at hl 2 rfl) ?_
  refine iif_ltF (a := 5) (tgt := 28) hx hb (by decide) dX2_has_13 (by decide) (by decide) ?_
  refine lv_iload_n hx hb dX2_has_16 rfl (lv_at hl 2 rfl) ?_
  refine lv_aload_n hx hb dX2_has_17 rfl (lv_at hl 0 rfl) ?_
  refine va_get (D := D) (ci := 2) (v := .int 7) (C := RX2) (T := TX2) (N := 4) hx hb hts (fun _ h => List.mem_cons_of_mem _ (List.mem_append_right _ h)) hown hK hP 0 rfl rfl 0 (by decide) (hts (.fieldLink RX2 15 "CrownTable$Rows" "width" "I") (mem_i 2 rfl)) (fun _ h9 => h9) rfl dX2_has_18 ?_
  refine iicmp_geF (a := 5) (b := 7) (tgt := 28) hx hb (by decide) (by decide) dX2_has_21 (by decide) (by decide) ?_
  refine lv_iconst (v := 1) hx hb dX2_has_24 (by decide) ?_
  refine lv_goto (tgt := 29) hx hb dX2_has_25 (by decide) ?_
  exact W.zret (v := 1) hx hb hr (by decide) (fun t ht hW => ⟨_, rfl, rfl, ht⟩) (fun _ h => by cases h) dX2_has_29

set_option maxHeartbeats 4000000 in
set_option maxRecDepth 100000 in
theorem c_X2_set_5 (l : Launch) (D : va_G) (c : Nat → ClassId) (ts : Nat × Nat) (sz : Nat) (h0 : Nat) (h1 : Nat) (f0 : Nat → Int32) (a3 : Int32) (i_a3 : Int) (hi_a3 : a3.toInt = i_a3) : Met l yX2_set wsX2_set ({ frames := 1, cells := 0, slots := 0, locals := 22 }) (va_Pc [.ref h0, .int 0, .int 5, .int a3] (Pre0 D c ts [(h0, .inr (2, [.int 7, .int 400, .ref h1, .int 1])), (h1, .inl (c 1, 112, .inl f0))] sz)) (va_Qv (fun (u : (Nat → Nat) × (Nat → Nat → Int32) × (Nat → Nat → Int64)) => True) (fun u t => va_P D vwCl [(h0, .inr (2, [.int 7, .int 400, .ref h1, .int 1])), (h1, .inl (c 1, 112, .inl (u.2.1 0)))] t.heap ∧ va_D (va_A [(h0, .inr (2, [.int 7, .int 400, .ref h1, .int 1])), (h1, .inl (c 1, 112, .inl f0))] sz) [(h0, .inr (2, [.int 7, .int 400, .ref h1, .int 1])), (h1, .inl (c 1, 112, .inl (u.2.1 0)))]) (va_A [(h0, .inr (2, [.int 7, .int 400, .ref h1, .int 1])), (h1, .inl (c 1, 112, .inl f0))] sz)) 0 0 (va_A [(h0, .inr (2, [.int 7, .int 400, .ref h1, .int 1])), (h1, .inl (c 1, 112, .inl f0))] sz) := by
  refine Met.ofW (cc := cX2_set) (maxL := 4) (ret := none) (by decide) rfl ?_
  intro p e s m args below meth cd s₁ B hml hv
  obtain ⟨rfl, hsz, hP, hD0, hAm, hSt⟩ := hv
  have hx := B.exec
  have hb := B.bytes
  have hr := B.returns
  have hts := atoms_spec (ws := wsX2_set) B.pre
  have hown : s.vm.findClass RX2 = some m.cls := findClass_of_methodNamed B.named
  have hlocks := B.notSynchronized
  subst hsz
  have hK := hAm.1
  have hD := hD0.self (sz := s.heap.size)
  generalize hAe : va_A [(h0, .inr (2, [.int 7, .int 400, .ref h1, .int 1])), (h1, .inl (c 1, 112, .inl f0))] s.heap.size = A at hD hSt ⊢
  have hA : ∀ q : Nat, s.heap.size ≤ q → A q := fun q h => by rw [← hAe]; exact Or.inr h
  have hS : va_S A s.heap s.heap [] := va_S.rf
  clear hD0 hAe
  have hl := lv_entry ([.ref h0, .int 0, .int 5, .int a3]) (n := 4) (Nat.le_of_ble_eq_true rfl)
  rw [lg_entry_eq]
  generalize (lg_sl ([.ref h0, .int 0, .int 5, .int a3]) ++ List.replicate (4 - (lg_sl ([.ref h0, .int 0, .int 5, .int a3])).length) Slot.unset).toArray = ls at hl ⊢
  have hl : lv_has ls 4 [(0, .ref h0), (1, .int 0), (2, .int 5), (3, .int a3)] := hl
  refine lv_aload_n hx hb dX2_set_0 rfl (lv_at hl 0 rfl) ?_
  refine lv_iload_n hx hb dX2_set_1 rfl (lv_at hl 1 rfl) ?_
  refine lv_iload_n hx hb dX2_set_2 rfl (lv_at hl 2 rfl) ?_
  have hPc := hP.sub (ws' := [(h0, .inr (2, [.int 7, .int 400, .ref h1, .int 1]))]) [0] rfl
  have hDc := hD.sub (ws' := [(h0, .inr (2, [.int 7, .int 400, .ref h1, .int 1]))]) [0] (by decide) rfl
  have hFc := va_free (wc := [(h0, .inr (2, [.int 7, .int 400, .ref h1, .int 1]))]) hD hS hA [0] rfl
  refine va_csi (va_runV (As := [.int 0, .int 5]) (rest := []) ⟨hx, hb, hml, hown, hts⟩ (c_X2_has_9 l D c ts s.heap.size h0 h1) (cwV 2 hts gX2_set_X2_has rfl rfl rfl ⟨rfl, hdX2_has⟩ ⟨(show 0 + 1 ≤ 1 by decide), (show 8 + (3 + 11) + 0 ≤ 22 by decide)⟩) ⟨Pre0.blind, va_recv hK hPc (ci := 2) (q0 := 0) rfl rfl, Pre0.at hPc hDc hAm hSt hS hFc⟩ rfl rfl hl.1 rfl (lv_room (Nat.le_of_ble_eq_true rfl)) dX2_set_3 ⟨(show 0 + 0 ≤ 0 by decide), (show 0 + 0 ≤ 0 by decide)⟩) (fun r_2 hw_1 => ?_)
  refine lk_i (y := 1) hw_1 ?_
  refine iif_eqF (a := 1) (tgt := 23) hx hb (by decide) dX2_set_6 (by decide) (by decide) ?_
  refine lv_aload_n hx hb dX2_set_9 rfl (lv_at hl 0 rfl) ?_
  refine va_get (D := D) (ci := 2) (v := .ref h1) (C := RX2) (T := TX2) (N := 4) hx hb hts (fun _ h => List.mem_cons_of_mem _ (List.mem_append_right _ h)) hown hK hP 0 rfl rfl 2 (by decide) (hts (.fieldLink RX2 24 "CrownTable$Rows" "cells" "[I") (mem_i 1 rfl)) (fun _ h9 => h9) rfl dX2_set_10 ?_
  refine lv_iload_n hx hb dX2_set_13 rfl (lv_at hl 1 rfl) ?_
  refine lv_aload_n hx hb dX2_set_14 rfl (lv_at hl 0 rfl) ?_
  refine va_get (D := D) (ci := 2) (v := .int 7) (C := RX2) (T := TX2) (N := 4) hx hb hts (fun _ h => List.mem_cons_of_mem _ (List.mem_append_right _ h)) hown hK hP 0 rfl rfl 0 (by decide) (hts (.fieldLink RX2 15 "CrownTable$Rows" "width" "I") (mem_i 2 rfl)) (fun _ h9 => h9) rfl dX2_set_15 ?_
  refine lv_imul hx hb dX2_set_18 ?_
  refine lk_i (y := 0) (by decide) ?_
  refine lv_iload_n hx hb dX2_set_19 rfl (lv_at hl 2 rfl) ?_
  refine lv_iadd hx hb dX2_set_20 ?_
  refine lk_i (y := 5) (by decide) ?_
  refine lv_iload_n hx hb dX2_set_21 rfl (lv_at hl 3 rfl) ?_
  refine va_iast hx hb hK hP hD hS 1 1 rfl rfl (vin (a := 5) (by decide) (by decide) (by decide)) dX2_set_22 (fun H locs hP hD hS => ?_)
  obtain ⟨f_3, hP, hD⟩ : ∃ f_3 : Nat → Int32, va_P D vwCl [(h0, .inr (2, [.int 7, .int 400, .ref h1, .int 1])), (h1, .inl (c 1, 112, .inl f_3))] H ∧ va_D A [(h0, .inr (2, [.int 7, .int 400, .ref h1, .int 1])), (h1, .inl (c 1, 112, .inl f_3))] := ⟨_, hP, hD⟩
  have hP9 := hP.sub (ws' := [(h0, .inr (2, [.int 7, .int 400, .ref h1, .int 1])), (h1, .inl (c 1, 112, .inl f_3))]) [0, 1] rfl
  have hD9 := hD.sub (ws' := [(h0, .inr (2, [.int 7, .int 400, .ref h1, .int 1])), (h1, .inl (c 1, 112, .inl f_3))]) [0, 1] (by decide) rfl
  refine W.widen (k := 0) (n := 0) (by omega) (by omega) ?_
  exact W.vret hx hb hr (fun t ht hW => ⟨⟨(fun k => [].getD k 0, fun k => [f_3].getD k (fun _ => 0), fun k => [].getD k (fun _ => 0)), rfl, trivial, ⟨by rw [ht]; exact hP9, hD9⟩⟩, hS.F ht⟩) hS.2.2 dX2_set_23

set_option maxHeartbeats 4000000 in
set_option maxRecDepth 100000 in
theorem c_X6_addDebt (l : Launch) (D : va_G) (c : Nat → ClassId) (ts : Nat × Nat) (sz : Nat) (q : Nat → Nat) (h0 : Nat) (a1 : Int32) (i_a1 : Int) (hi_a1 : a1.toInt = i_a1) (a2 : Int32) (i_a2 : Int) (hi_a2 : a2.toInt = i_a2) (a3 : Int32) (i_a3 : Int) (hi_a3 : a3.toInt = i_a3) (a4 : Int32) (i_a4 : Int) (hi_a4 : a4.toInt = i_a4) : Met l yX6_addDebt wsX6_addDebt ({ frames := 2, cells := 0, slots := 0, locals := 45 }) (va_Pc [.ref h0, .int a1, .int a2, .int a3, .int a4] (Pre0 D c ts [(h0, .inr (6, o6 q 0 0 0 0)), (q 19, .inr (2, [.int 7, .int 400, .ref (q 20), .int 0])), (q 20, .inl (c 1, 112, .inl (fun _ => 0)))] sz)) (va_Qi (fun (r : Int32) (u : Unit) => r = 0) (fun _ _ => True) (va_A [(h0, .inr (6, o6 q 0 0 0 0)), (q 19, .inr (2, [.int 7, .int 400, .ref (q 20), .int 0])), (q 20, .inl (c 1, 112, .inl (fun _ => 0)))] sz)) 0 0 (va_A [(h0, .inr (6, o6 q 0 0 0 0)), (q 19, .inr (2, [.int 7, .int 400, .ref (q 20), .int 0])), (q 20, .inl (c 1, 112, .inl (fun _ => 0)))] sz) := by
  refine Met.ofW (cc := cX6_addDebt) (maxL := 6) (ret := (some .int)) (by decide) rfl ?_
  intro p e s m args below meth cd s₁ B hml hv
  obtain ⟨rfl, hsz, hP, hD0, hAm, hSt⟩ := hv
  have hx := B.exec
  have hb := B.bytes
  have hr := B.returns
  have hts := atoms_spec (ws := wsX6_addDebt) B.pre
  have hown : s.vm.findClass RX6 = some m.cls := findClass_of_methodNamed B.named
  have hlocks := B.notSynchronized
  subst hsz
  have hK := hAm.1
  have hD := hD0.self (sz := s.heap.size)
  generalize hAe : va_A [(h0, .inr (6, o6 q 0 0 0 0)), (q 19, .inr (2, [.int 7, .int 400, .ref (q 20), .int 0])), (q 20, .inl (c 1, 112, .inl (fun _ => 0)))] s.heap.size = A at hD hSt ⊢
  have hA : ∀ q : Nat, s.heap.size ≤ q → A q := fun q h => by rw [← hAe]; exact Or.inr h
  have hS : va_S A s.heap s.heap [] := va_S.rf
  clear hD0 hAe
  have hl := lv_entry ([.ref h0, .int a1, .int a2, .int a3, .int a4]) (n := 6) (Nat.le_of_ble_eq_true rfl)
  rw [lg_entry_eq]
  generalize (lg_sl ([.ref h0, .int a1, .int a2, .int a3, .int a4]) ++ List.replicate (6 - (lg_sl ([.ref h0, .int a1, .int a2, .int a3, .int a4])).length) Slot.unset).toArray = ls at hl ⊢
  have hl : lv_has ls 6 [(0, .ref h0), (1, .int a1), (2, .int a2), (3, .int a3), (4, .int a4)] := hl
  refine lv_aload_n hx hb dX6_addDebt_0 rfl (lv_at hl 0 rfl) ?_
  refine va_get (D := D) (ci := 6) (v := .ref (q 19)) (C := RX6) (T := TX6) (N := 18) hx hb hts (fun _ h => List.mem_cons_of_mem _ (List.mem_append_left _ (List.mem_append_right _ h))) hown hK hP 0 rfl rfl 11 (by decide) (hts (.fieldLink RX6 65 "CrownTable" "debts" "LCrownTable$Rows;") (mem_i 1 rfl)) (fun _ h9 => h9) rfl dX6_addDebt_1 ?_
  have hPc := hP.sub (ws' := [(q 19, .inr (2, [.int 7, .int 400, .ref (q 20), .int 0])), (q 20, .inl (c 1, 112, .inl (fun _ => 0)))]) [1, 2] rfl
  have hDc := hD.sub (ws' := [(q 19, .inr (2, [.int 7, .int 400, .ref (q 20), .int 0])), (q 20, .inl (c 1, 112, .inl (fun _ => 0)))]) [1, 2] (by decide) rfl
  have hFc := va_free (wc := [(q 19, .inr (2, [.int 7, .int 400, .ref (q 20), .int 0])), (q 20, .inl (c 1, 112, .inl (fun _ => 0)))]) hD hS hA [1, 2] rfl
  refine va_calli (va_runVN (As := []) (rest := []) ⟨hx, hb, hml, hown, hts⟩ (c_X2_add l D c ts s.heap.size (q 19) (q 20)) ⟨va_cnB 0 hts gX6_addDebt_X2_add_n123 rfl rfl rfl (show va_Nw (.methodLinkNest RX6 123 yX2_add RX6) _ from hAm.2.1.1 (RX6, 123, yX2_add, RX6) (mem_i 11 rfl)) (hts (.initialized RX2) (mem_i 4 rfl)) hdX2_add ⟨(show 1 + 1 ≤ 2 by decide), (show 8 + (1 + 11) + 21 ≤ 45 by decide)⟩, (hts (.instanceMethod yX2_add) (mem_i 3 rfl)), (hts (.selects RX2 yX2_add yX2_add) (mem_i 5 rfl))⟩ ⟨Pre0.blind, va_recv hK hPc (ci := 2) (q0 := 0) rfl rfl, Pre0.at hPc hDc hAm hSt hS hFc⟩ rfl rfl hl.1 rfl (lv_room (Nat.le_of_ble_eq_true rfl)) dX6_addDebt_4 ⟨(show 0 + 0 ≤ 0 by decide), (show 0 + 0 ≤ 0 by decide)⟩) hS (fun q _ h => hFc q h) hFc (fun r_2 u_3 t1 H locs ht hvm hw_1 hB hz1 hk1 hS => ?_)
  obtain ⟨hP1, hD1⟩ := hB
  rw [ht] at hP1
  obtain ⟨hP, hD⟩ := va_join (wr := [(h0, .inr (6, o6 q 0 0 0 0))]) (w1 := [(q 19, .inr (2, [.int 7, .int 400, .ref (q 20), .int 1])), (q 20, .inl (c 1, 112, .inl (fun _ => 0)))]) hP hD [1, 2] [0] rfl rfl (by decide) (by decide) hk1 hFc hP1 hD1
  have hP : va_P D vwCl [(h0, .inr (6, o6 q 0 0 0 0)), (q 19, .inr (2, [.int 7, .int 400, .ref (q 20), .int 1])), (q 20, .inl (c 1, 112, .inl (fun _ => 0)))] H := hP
  have hD : va_D A [(h0, .inr (6, o6 q 0 0 0 0)), (q 19, .inr (2, [.int 7, .int 400, .ref (q 20), .int 1])), (q 20, .inl (c 1, 112, .inl (fun _ => 0)))] := hD
  refine W.widen (k := 0) (n := 0) (by omega) (by omega) ?_
  refine lk_i (y := 0) hw_1 ?_
  refine lv_istore (lv' := [(5, .int 0), (0, .ref h0), (1, .int a1), (2, .int a2), (3, .int a3), (4, .int a4)]) hx hb dX6_addDebt_7 hl (by decide) rfl (fun ls hl => ?_)
  refine lv_aload_n hx hb dX6_addDebt_9 rfl (lv_at hl 1 rfl) ?_
  refine va_get (D := D) (ci := 6) (v := .ref (q 19)) (C := RX6) (T := TX6) (N := 18) hx hb hts (fun _ h => List.mem_cons_of_mem _ (List.mem_append_left _ (List.mem_append_right _ h))) hown hK hP 0 rfl rfl 11 (by decide) (hts (.fieldLink RX6 65 "CrownTable" "debts" "LCrownTable$Rows;") (mem_i 1 rfl)) (fun _ h9 => h9) rfl dX6_addDebt_10 ?_
  refine lv_iload hx hb dX6_addDebt_13 (lv_at hl 0 rfl) ?_
  refine lv_iconst (v := 0) hx hb dX6_addDebt_15 (by decide) ?_
  refine lv_iload_n hx hb dX6_addDebt_16 rfl (lv_at hl 2 rfl) ?_
  have hPc := hP.sub (ws' := [(q 19, .inr (2, [.int 7, .int 400, .ref (q 20), .int 1])), (q 20, .inl (c 1, 112, .inl (fun _ => 0)))]) [1, 2] rfl
  have hDc := hD.sub (ws' := [(q 19, .inr (2, [.int 7, .int 400, .ref (q 20), .int 1])), (q 20, .inl (c 1, 112, .inl (fun _ => 0)))]) [1, 2] (by decide) rfl
  have hFc := va_free (wc := [(q 19, .inr (2, [.int 7, .int 400, .ref (q 20), .int 1])), (q 20, .inl (c 1, 112, .inl (fun _ => 0)))]) hD hS hA [1, 2] rfl
  refine va_callv (va_runVN (As := [.int 0, .int 0, .int a1]) (rest := []) ⟨hx, hb, hml, hown, hts⟩ (c_X2_set l D c ts H.size (q 19) (q 20) a1 i_a1 hi_a1) ⟨va_cnB 3 hts gX6_addDebt_X2_set_n127 rfl rfl rfl (show va_Nw (.methodLinkNest RX6 127 yX2_set RX6) _ from hAm.2.1.1 (RX6, 127, yX2_set, RX6) (mem_i 12 rfl)) (hts (.initialized RX2) (mem_i 4 rfl)) hdX2_set ⟨(show 1 + 1 ≤ 2 by decide), (show 8 + (4 + 11) + 22 ≤ 45 by decide)⟩, (hts (.instanceMethod yX2_set) (mem_i 34 rfl)), (hts (.selects RX2 yX2_set yX2_set) (mem_i 35 rfl))⟩ ⟨Pre0.blind, va_recv hK hPc (ci := 2) (q0 := 0) rfl rfl, Pre0.at hPc hDc hAm hSt hS hFc⟩ rfl rfl hl.1 rfl (lv_room (Nat.le_of_ble_eq_true rfl)) dX6_addDebt_17 ⟨(show 0 + 0 ≤ 0 by decide), (show 0 + 0 ≤ 0 by decide)⟩) hS (fun q _ h => hFc q h) hFc (fun u_6 t1 H locs ht hvm hw_4 hB hz1 hk1 hS => ?_)
  obtain ⟨hP1, hD1⟩ := hB
  rw [ht] at hP1
  obtain ⟨hP, hD⟩ := va_join (wr := [(h0, .inr (6, o6 q 0 0 0 0))]) (w1 := [(q 19, .inr (2, [.int 7, .int 400, .ref (q 20), .int 1])), (q 20, .inl (c 1, 112, .inl (u_6.2.1 0)))]) hP hD [1, 2] [0] rfl rfl (by decide) (by decide) hk1 hFc hP1 hD1
  have hP : va_P D vwCl [(h0, .inr (6, o6 q 0 0 0 0)), (q 19, .inr (2, [.int 7, .int 400, .ref (q 20), .int 1])), (q 20, .inl (c 1, 112, .inl (u_6.2.1 0)))] H := hP
  have hD : va_D A [(h0, .inr (6, o6 q 0 0 0 0)), (q 19, .inr (2, [.int 7, .int 400, .ref (q 20), .int 1])), (q 20, .inl (c 1, 112, .inl (u_6.2.1 0)))] := hD
  refine W.widen (k := 0) (n := 0) (by omega) (by omega) ?_
  refine lv_aload_n hx hb dX6_addDebt_20 rfl (lv_at hl 1 rfl) ?_
  refine va_get (D := D) (ci := 6) (v := .ref (q 19)) (C := RX6) (T := TX6) (N := 18) hx hb hts (fun _ h => List.mem_cons_of_mem _ (List.mem_append_left _ (List.mem_append_right _ h))) hown hK hP 0 rfl rfl 11 (by decide) (hts (.fieldLink RX6 65 "CrownTable" "debts" "LCrownTable$Rows;") (mem_i 1 rfl)) (fun _ h9 => h9) rfl dX6_addDebt_21 ?_
  refine lv_iload hx hb dX6_addDebt_24 (lv_at hl 0 rfl) ?_
  refine lv_iconst (v := 1) hx hb dX6_addDebt_26 (by decide) ?_
  refine lv_iload_n hx hb dX6_addDebt_27 rfl (lv_at hl 3 rfl) ?_
  have hPc := hP.sub (ws' := [(q 19, .inr (2, [.int 7, .int 400, .ref (q 20), .int 1])), (q 20, .inl (c 1, 112, .inl (u_6.2.1 0)))]) [1, 2] rfl
  have hDc := hD.sub (ws' := [(q 19, .inr (2, [.int 7, .int 400, .ref (q 20), .int 1])), (q 20, .inl (c 1, 112, .inl (u_6.2.1 0)))]) [1, 2] (by decide) rfl
  have hFc := va_free (wc := [(q 19, .inr (2, [.int 7, .int 400, .ref (q 20), .int 1])), (q 20, .inl (c 1, 112, .inl (u_6.2.1 0)))]) hD hS hA [1, 2] rfl
  refine va_callv (va_runVN (As := [.int 0, .int 1, .int a2]) (rest := []) ⟨hx, hb, hml, hown, hts⟩ (c_X2_set_1 l D c ts H.size (q 19) (q 20) (u_6.2.1 0) a2 i_a2 hi_a2) ⟨va_cnB 3 hts gX6_addDebt_X2_set_n127 rfl rfl rfl (show va_Nw (.methodLinkNest RX6 127 yX2_set RX6) _ from hAm.2.1.1 (RX6, 127, yX2_set, RX6) (mem_i 12 rfl)) (hts (.initialized RX2) (mem_i 4 rfl)) hdX2_set ⟨(show 1 + 1 ≤ 2 by decide), (show 8 + (4 + 11) + 22 ≤ 45 by decide)⟩, (hts (.instanceMethod yX2_set) (mem_i 34 rfl)), (hts (.selects RX2 yX2_set yX2_set) (mem_i 35 rfl))⟩ ⟨Pre0.blind, va_recv hK hPc (ci := 2) (q0 := 0) rfl rfl, Pre0.at hPc hDc hAm hSt hS hFc⟩ rfl rfl hl.1 rfl (lv_room (Nat.le_of_ble_eq_true rfl)) dX6_addDebt_28 ⟨(show 0 + 0 ≤ 0 by decide), (show 0 + 0 ≤ 0 by decide)⟩) hS (fun q _ h => hFc q h) hFc (fun u_9 t1 H locs ht hvm hw_7 hB hz1 hk1 hS => ?_)
  obtain ⟨hP1, hD1⟩ := hB
  rw [ht] at hP1
  obtain ⟨hP, hD⟩ := va_join (wr := [(h0, .inr (6, o6 q 0 0 0 0))]) (w1 := [(q 19, .inr (2, [.int 7, .int 400, .ref (q 20), .int 1])), (q 20, .inl (c 1, 112, .inl (u_9.2.1 0)))]) hP hD [1, 2] [0] rfl rfl (by decide) (by decide) hk1 hFc hP1 hD1
  have hP : va_P D vwCl [(h0, .inr (6, o6 q 0 0 0 0)), (q 19, .inr (2, [.int 7, .int 400, .ref (q 20), .int 1])), (q 20, .inl (c 1, 112, .inl (u_9.2.1 0)))] H := hP
  have hD : va_D A [(h0, .inr (6, o6 q 0 0 0 0)), (q 19, .inr (2, [.int 7, .int 400, .ref (q 20), .int 1])), (q 20, .inl (c 1, 112, .inl (u_9.2.1 0)))] := hD
  refine W.widen (k := 0) (n := 0) (by omega) (by omega) ?_
  refine lv_aload_n hx hb dX6_addDebt_31 rfl (lv_at hl 1 rfl) ?_
  refine va_get (D := D) (ci := 6) (v := .ref (q 19)) (C := RX6) (T := TX6) (N := 18) hx hb hts (fun _ h => List.mem_cons_of_mem _ (List.mem_append_left _ (List.mem_append_right _ h))) hown hK hP 0 rfl rfl 11 (by decide) (hts (.fieldLink RX6 65 "CrownTable" "debts" "LCrownTable$Rows;") (mem_i 1 rfl)) (fun _ h9 => h9) rfl dX6_addDebt_32 ?_
  refine lv_iload hx hb dX6_addDebt_35 (lv_at hl 0 rfl) ?_
  refine lv_iconst (v := 2) hx hb dX6_addDebt_37 (by decide) ?_
  refine lv_iload_n hx hb dX6_addDebt_38 rfl (lv_at hl 4 rfl) ?_
  have hPc := hP.sub (ws' := [(q 19, .inr (2, [.int 7, .int 400, .ref (q 20), .int 1])), (q 20, .inl (c 1, 112, .inl (u_9.2.1 0)))]) [1, 2] rfl
  have hDc := hD.sub (ws' := [(q 19, .inr (2, [.int 7, .int 400, .ref (q 20), .int 1])), (q 20, .inl (c 1, 112, .inl (u_9.2.1 0)))]) [1, 2] (by decide) rfl
  have hFc := va_free (wc := [(q 19, .inr (2, [.int 7, .int 400, .ref (q 20), .int 1])), (q 20, .inl (c 1, 112, .inl (u_9.2.1 0)))]) hD hS hA [1, 2] rfl
  refine va_callv (va_runVN (As := [.int 0, .int 2, .int a3]) (rest := []) ⟨hx, hb, hml, hown, hts⟩ (c_X2_set_2 l D c ts H.size (q 19) (q 20) (u_9.2.1 0) a3 i_a3 hi_a3) ⟨va_cnB 3 hts gX6_addDebt_X2_set_n127 rfl rfl rfl (show va_Nw (.methodLinkNest RX6 127 yX2_set RX6) _ from hAm.2.1.1 (RX6, 127, yX2_set, RX6) (mem_i 12 rfl)) (hts (.initialized RX2) (mem_i 4 rfl)) hdX2_set ⟨(show 1 + 1 ≤ 2 by decide), (show 8 + (4 + 11) + 22 ≤ 45 by decide)⟩, (hts (.instanceMethod yX2_set) (mem_i 34 rfl)), (hts (.selects RX2 yX2_set yX2_set) (mem_i 35 rfl))⟩ ⟨Pre0.blind, va_recv hK hPc (ci := 2) (q0 := 0) rfl rfl, Pre0.at hPc hDc hAm hSt hS hFc⟩ rfl rfl hl.1 rfl (lv_room (Nat.le_of_ble_eq_true rfl)) dX6_addDebt_39 ⟨(show 0 + 0 ≤ 0 by decide), (show 0 + 0 ≤ 0 by decide)⟩) hS (fun q _ h => hFc q h) hFc (fun u_12 t1 H locs ht hvm hw_10 hB hz1 hk1 hS => ?_)
  obtain ⟨hP1, hD1⟩ := hB
  rw [ht] at hP1
  obtain ⟨hP, hD⟩ := va_join (wr := [(h0, .inr (6, o6 q 0 0 0 0))]) (w1 := [(q 19, .inr (2, [.int 7, .int 400, .ref (q 20), .int 1])), (q 20, .inl (c 1, 112, .inl (u_12.2.1 0)))]) hP hD [1, 2] [0] rfl rfl (by decide) (by decide) hk1 hFc hP1 hD1
  have hP : va_P D vwCl [(h0, .inr (6, o6 q 0 0 0 0)), (q 19, .inr (2, [.int 7, .int 400, .ref (q 20), .int 1])), (q 20, .inl (c 1, 112, .inl (u_12.2.1 0)))] H := hP
  have hD : va_D A [(h0, .inr (6, o6 q 0 0 0 0)), (q 19, .inr (2, [.int 7, .int 400, .ref (q 20), .int 1])), (q 20, .inl (c 1, 112, .inl (u_12.2.1 0)))] := hD
  refine W.widen (k := 0) (n := 0) (by omega) (by omega) ?_
  refine lv_aload_n hx hb dX6_addDebt_42 rfl (lv_at hl 1 rfl) ?_
  refine va_get (D := D) (ci := 6) (v := .ref (q 19)) (C := RX6) (T := TX6) (N := 18) hx hb hts (fun _ h => List.mem_cons_of_mem _ (List.mem_append_left _ (List.mem_append_right _ h))) hown hK hP 0 rfl rfl 11 (by decide) (hts (.fieldLink RX6 65 "CrownTable" "debts" "LCrownTable$Rows;") (mem_i 1 rfl)) (fun _ h9 => h9) rfl dX6_addDebt_43 ?_
  refine lv_iload hx hb dX6_addDebt_46 (lv_at hl 0 rfl) ?_
  refine lv_iconst (v := 3) hx hb dX6_addDebt_48 (by decide) ?_
  refine lv_iload_n hx hb dX6_addDebt_49 rfl (lv_at hl 4 rfl) ?_
  have hPc := hP.sub (ws' := [(q 19, .inr (2, [.int 7, .int 400, .ref (q 20), .int 1])), (q 20, .inl (c 1, 112, .inl (u_12.2.1 0)))]) [1, 2] rfl
  have hDc := hD.sub (ws' := [(q 19, .inr (2, [.int 7, .int 400, .ref (q 20), .int 1])), (q 20, .inl (c 1, 112, .inl (u_12.2.1 0)))]) [1, 2] (by decide) rfl
  have hFc := va_free (wc := [(q 19, .inr (2, [.int 7, .int 400, .ref (q 20), .int 1])), (q 20, .inl (c 1, 112, .inl (u_12.2.1 0)))]) hD hS hA [1, 2] rfl
  refine va_callv (va_runVN (As := [.int 0, .int 3, .int a3]) (rest := []) ⟨hx, hb, hml, hown, hts⟩ (c_X2_set_3 l D c ts H.size (q 19) (q 20) (u_12.2.1 0) a3 i_a3 hi_a3) ⟨va_cnB 3 hts gX6_addDebt_X2_set_n127 rfl rfl rfl (show va_Nw (.methodLinkNest RX6 127 yX2_set RX6) _ from hAm.2.1.1 (RX6, 127, yX2_set, RX6) (mem_i 12 rfl)) (hts (.initialized RX2) (mem_i 4 rfl)) hdX2_set ⟨(show 1 + 1 ≤ 2 by decide), (show 8 + (4 + 11) + 22 ≤ 45 by decide)⟩, (hts (.instanceMethod yX2_set) (mem_i 34 rfl)), (hts (.selects RX2 yX2_set yX2_set) (mem_i 35 rfl))⟩ ⟨Pre0.blind, va_recv hK hPc (ci := 2) (q0 := 0) rfl rfl, Pre0.at hPc hDc hAm hSt hS hFc⟩ rfl rfl hl.1 rfl (lv_room (Nat.le_of_ble_eq_true rfl)) dX6_addDebt_50 ⟨(show 0 + 0 ≤ 0 by decide), (show 0 + 0 ≤ 0 by decide)⟩) hS (fun q _ h => hFc q h) hFc (fun u_15 t1 H locs ht hvm hw_13 hB hz1 hk1 hS => ?_)
  obtain ⟨hP1, hD1⟩ := hB
  rw [ht] at hP1
  obtain ⟨hP, hD⟩ := va_join (wr := [(h0, .inr (6, o6 q 0 0 0 0))]) (w1 := [(q 19, .inr (2, [.int 7, .int 400, .ref (q 20), .int 1])), (q 20, .inl (c 1, 112, .inl (u_15.2.1 0)))]) hP hD [1, 2] [0] rfl rfl (by decide) (by decide) hk1 hFc hP1 hD1
  have hP : va_P D vwCl [(h0, .inr (6, o6 q 0 0 0 0)), (q 19, .inr (2, [.int 7, .int 400, .ref (q 20), .int 1])), (q 20, .inl (c 1, 112, .inl (u_15.2.1 0)))] H := hP
  have hD : va_D A [(h0, .inr (6, o6 q 0 0 0 0)), (q 19, .inr (2, [.int 7, .int 400, .ref (q 20), .int 1])), (q 20, .inl (c 1, 112, .inl (u_15.2.1 0)))] := hD
  refine W.widen (k := 0) (n := 0) (by omega) (by omega) ?_
  refine lv_aload_n hx hb dX6_addDebt_53 rfl (lv_at hl 1 rfl) ?_
  refine va_get (D := D) (ci := 6) (v := .ref (q 19)) (C := RX6) (T := TX6) (N := 18) hx hb hts (fun _ h => List.mem_cons_of_mem _ (List.mem_append_left _ (List.mem_append_right _ h))) hown hK hP 0 rfl rfl 11 (by decide) (hts (.fieldLink RX6 65 "CrownTable" "debts" "LCrownTable$Rows;") (mem_i 1 rfl)) (fun _ h9 => h9) rfl dX6_addDebt_54 ?_
  refine lv_iload hx hb dX6_addDebt_57 (lv_at hl 0 rfl) ?_
  refine lv_iconst (v := 4) hx hb dX6_addDebt_59 (by decide) ?_
  refine lv_aload_n hx hb dX6_addDebt_60 rfl (lv_at hl 1 rfl) ?_
  refine va_get (D := D) (ci := 6) (v := .int 0) (C := RX6) (T := TX6) (N := 18) hx hb hts (fun _ h => List.mem_cons_of_mem _ (List.mem_append_left _ (List.mem_append_right _ h))) hown hK hP 0 rfl rfl 15 (by decide) (hts (.fieldLink RX6 120 "CrownTable" "now" "I") (mem_i 2 rfl)) (fun _ h9 => h9) rfl dX6_addDebt_61 ?_
  have hPc := hP.sub (ws' := [(q 19, .inr (2, [.int 7, .int 400, .ref (q 20), .int 1])), (q 20, .inl (c 1, 112, .inl (u_15.2.1 0)))]) [1, 2] rfl
  have hDc := hD.sub (ws' := [(q 19, .inr (2, [.int 7, .int 400, .ref (q 20), .int 1])), (q 20, .inl (c 1, 112, .inl (u_15.2.1 0)))]) [1, 2] (by decide) rfl
  have hFc := va_free (wc := [(q 19, .inr (2, [.int 7, .int 400, .ref (q 20), .int 1])), (q 20, .inl (c 1, 112, .inl (u_15.2.1 0)))]) hD hS hA [1, 2] rfl
  refine va_callv (va_runVN (As := [.int 0, .int 4, .int 0]) (rest := []) ⟨hx, hb, hml, hown, hts⟩ (c_X2_set_4 l D c ts H.size (q 19) (q 20) (u_15.2.1 0)) ⟨va_cnB 3 hts gX6_addDebt_X2_set_n127 rfl rfl rfl (show va_Nw (.methodLinkNest RX6 127 yX2_set RX6) _ from hAm.2.1.1 (RX6, 127, yX2_set, RX6) (mem_i 12 rfl)) (hts (.initialized RX2) (mem_i 4 rfl)) hdX2_set ⟨(show 1 + 1 ≤ 2 by decide), (show 8 + (4 + 11) + 22 ≤ 45 by decide)⟩, (hts (.instanceMethod yX2_set) (mem_i 34 rfl)), (hts (.selects RX2 yX2_set yX2_set) (mem_i 35 rfl))⟩ ⟨Pre0.blind, va_recv hK hPc (ci := 2) (q0 := 0) rfl rfl, Pre0.at hPc hDc hAm hSt hS hFc⟩ rfl rfl hl.1 rfl (lv_room (Nat.le_of_ble_eq_true rfl)) dX6_addDebt_64 ⟨(show 0 + 0 ≤ 0 by decide), (show 0 + 0 ≤ 0 by decide)⟩) hS (fun q _ h => hFc q h) hFc (fun u_18 t1 H locs ht hvm hw_16 hB hz1 hk1 hS => ?_)
  obtain ⟨hP1, hD1⟩ := hB
  rw [ht] at hP1
  obtain ⟨hP, hD⟩ := va_join (wr := [(h0, .inr (6, o6 q 0 0 0 0))]) (w1 := [(q 19, .inr (2, [.int 7, .int 400, .ref (q 20), .int 1])), (q 20, .inl (c 1, 112, .inl (u_18.2.1 0)))]) hP hD [1, 2] [0] rfl rfl (by decide) (by decide) hk1 hFc hP1 hD1
  have hP : va_P D vwCl [(h0, .inr (6, o6 q 0 0 0 0)), (q 19, .inr (2, [.int 7, .int 400, .ref (q 20), .int 1])), (q 20, .inl (c 1, 112, .inl (u_18.2.1 0)))] H := hP
  have hD : va_D A [(h0, .inr (6, o6 q 0 0 0 0)), (q 19, .inr (2, [.int 7, .int 400, .ref (q 20), .int 1])), (q 20, .inl (c 1, 112, .inl (u_18.2.1 0)))] := hD
  refine W.widen (k := 0) (n := 0) (by omega) (by omega) ?_
  refine lv_aload_n hx hb dX6_addDebt_67 rfl (lv_at hl 1 rfl) ?_
  refine va_get (D := D) (ci := 6) (v := .ref (q 19)) (C := RX6) (T := TX6) (N := 18) hx hb hts (fun _ h => List.mem_cons_of_mem _ (List.mem_append_left _ (List.mem_append_right _ h))) hown hK hP 0 rfl rfl 11 (by decide) (hts (.fieldLink RX6 65 "CrownTable" "debts" "LCrownTable$Rows;") (mem_i 1 rfl)) (fun _ h9 => h9) rfl dX6_addDebt_68 ?_
  refine lv_iload hx hb dX6_addDebt_71 (lv_at hl 0 rfl) ?_
  refine lv_iconst (v := 5) hx hb dX6_addDebt_73 (by decide) ?_
  refine lv_iload hx hb dX6_addDebt_74 (lv_at hl 5 rfl) ?_
  have hPc := hP.sub (ws' := [(q 19, .inr (2, [.int 7, .int 400, .ref (q 20), .int 1])), (q 20, .inl (c 1, 112, .inl (u_18.2.1 0)))]) [1, 2] rfl
  have hDc := hD.sub (ws' := [(q 19, .inr (2, [.int 7, .int 400, .ref (q 20), .int 1])), (q 20, .inl (c 1, 112, .inl (u_18.2.1 0)))]) [1, 2] (by decide) rfl
  have hFc := va_free (wc := [(q 19, .inr (2, [.int 7, .int 400, .ref (q 20), .int 1])), (q 20, .inl (c 1, 112, .inl (u_18.2.1 0)))]) hD hS hA [1, 2] rfl
  refine va_callv (va_runVN (As := [.int 0, .int 5, .int a4]) (rest := []) ⟨hx, hb, hml, hown, hts⟩ (c_X2_set_5 l D c ts H.size (q 19) (q 20) (u_18.2.1 0) a4 i_a4 hi_a4) ⟨va_cnB 3 hts gX6_addDebt_X2_set_n127 rfl rfl rfl (show va_Nw (.methodLinkNest RX6 127 yX2_set RX6) _ from hAm.2.1.1 (RX6, 127, yX2_set, RX6) (mem_i 12 rfl)) (hts (.initialized RX2) (mem_i 4 rfl)) hdX2_set ⟨(show 1 + 1 ≤ 2 by decide), (show 8 + (4 + 11) + 22 ≤ 45 by decide)⟩, (hts (.instanceMethod yX2_set) (mem_i 34 rfl)), (hts (.selects RX2 yX2_set yX2_set) (mem_i 35 rfl))⟩ ⟨Pre0.blind, va_recv hK hPc (ci := 2) (q0 := 0) rfl rfl, Pre0.at hPc hDc hAm hSt hS hFc⟩ rfl rfl hl.1 rfl (lv_room (Nat.le_of_ble_eq_true rfl)) dX6_addDebt_76 ⟨(show 0 + 0 ≤ 0 by decide), (show 0 + 0 ≤ 0 by decide)⟩) hS (fun q _ h => hFc q h) hFc (fun u_21 t1 H locs ht hvm hw_19 hB hz1 hk1 hS => ?_)
  obtain ⟨hP1, hD1⟩ := hB
  rw [ht] at hP1
  obtain ⟨hP, hD⟩ := va_join (wr := [(h0, .inr (6, o6 q 0 0 0 0))]) (w1 := [(q 19, .inr (2, [.int 7, .int 400, .ref (q 20), .int 1])), (q 20, .inl (c 1, 112, .inl (u_21.2.1 0)))]) hP hD [1, 2] [0] rfl rfl (by decide) (by decide) hk1 hFc hP1 hD1
  have hP : va_P D vwCl [(h0, .inr (6, o6 q 0 0 0 0)), (q 19, .inr (2, [.int 7, .int 400, .ref (q 20), .int 1])), (q 20, .inl (c 1, 112, .inl (u_21.2.1 0)))] H := hP
  have hD : va_D A [(h0, .inr (6, o6 q 0 0 0 0)), (q 19, .inr (2, [.int 7, .int 400, .ref (q 20), .int 1])), (q 20, .inl (c 1, 112, .inl (u_21.2.1 0)))] := hD
  refine W.widen (k := 0) (n := 0) (by omega) (by omega) ?_
  refine lv_iload hx hb dX6_addDebt_79 (lv_at hl 0 rfl) ?_
  refine W.widen (k := 0) (n := 0) (by omega) (by omega) ?_
  exact W.iret (v := 0) hx hb hr (fun t ht hW => ⟨⟨_, (), rfl, rfl, trivial⟩, hS.F ht⟩) hS.2.2 dX6_addDebt_81

set_option maxHeartbeats 4000000 in
set_option maxRecDepth 100000 in
theorem c_X6_debt (l : Launch) (D : va_G) (c : Nat → ClassId) (ts : Nat × Nat) (sz : Nat) (q : Nat → Nat) (h0 : Nat) (a1 : Int32) (i_a1 : Int) (hi_a1 : a1.toInt = i_a1) (a2 : Int32) (i_a2 : Int) (hi_a2 : a2.toInt = i_a2) (a3 : Int32) (i_a3 : Int) (hi_a3 : a3.toInt = i_a3) (a4 : Int32) (i_a4 : Int) (hi_a4 : a4.toInt = i_a4) : Met l yX6_debt wsX6_debt ({ frames := 3, cells := 0, slots := 0, locals := 70 }) (va_Pc [.ref h0, .int a1, .int a2, .int a3, .int a4] (Pre0 D c ts [(h0, .inr (6, o6 q 0 0 0 0)), (q 19, .inr (2, [.int 7, .int 400, .ref (q 20), .int 0])), (q 20, .inl (c 1, 112, .inl (fun _ => 0)))] sz)) (va_Qi (fun (r : Int32) (u : Unit) => ((0 ≤ i_a1 ∧ i_a1 ≤ 15 ∧ 1 ≤ i_a2 ∧ i_a2 ≤ 3 ∧ 1 ≤ i_a3 ∧ i_a3 ≤ 1000000 ∧ (i_a2 = 3 ∧ 0 ≤ i_a4 ∧ i_a4 ≤ 15 ∧ ¬ i_a4 = i_a1 ∨ ¬ i_a2 = 3 ∧ i_a4 = -1)) ∧ r = 0) ∨ ((¬ (0 ≤ i_a1 ∧ i_a1 ≤ 15 ∧ 1 ≤ i_a2 ∧ i_a2 ≤ 3 ∧ 1 ≤ i_a3 ∧ i_a3 ≤ 1000000 ∧ (i_a2 = 3 ∧ 0 ≤ i_a4 ∧ i_a4 ≤ 15 ∧ ¬ i_a4 = i_a1 ∨ ¬ i_a2 = 3 ∧ i_a4 = -1))) ∧ r = (-1))) (fun _ _ => True) (va_A [(h0, .inr (6, o6 q 0 0 0 0)), (q 19, .inr (2, [.int 7, .int 400, .ref (q 20), .int 0])), (q 20, .inl (c 1, 112, .inl (fun _ => 0)))] sz)) 0 0 (va_A [(h0, .inr (6, o6 q 0 0 0 0)), (q 19, .inr (2, [.int 7, .int 400, .ref (q 20), .int 0])), (q 20, .inl (c 1, 112, .inl (fun _ => 0)))] sz) := by
  refine Met.ofW (cc := cX6_debt) (maxL := 6) (ret := (some .int)) (by decide) rfl ?_
  intro p e s m args below meth cd s₁ B hml hv
  obtain ⟨rfl, hsz, hP, hD0, hAm, hSt⟩ := hv
  have hx := B.exec
  have hb := B.bytes
  have hr := B.returns
  have hts := atoms_spec (ws := wsX6_debt) B.pre
  have hown : s.vm.findClass RX6 = some m.cls := findClass_of_methodNamed B.named
  have hlocks := B.notSynchronized
  subst hsz
  have hK := hAm.1
  have hD := hD0.self (sz := s.heap.size)
  generalize hAe : va_A [(h0, .inr (6, o6 q 0 0 0 0)), (q 19, .inr (2, [.int 7, .int 400, .ref (q 20), .int 0])), (q 20, .inl (c 1, 112, .inl (fun _ => 0)))] s.heap.size = A at hD hSt ⊢
  have hA : ∀ q : Nat, s.heap.size ≤ q → A q := fun q h => by rw [← hAe]; exact Or.inr h
  have hS : va_S A s.heap s.heap [] := va_S.rf
  clear hD0 hAe
  have hl := lv_entry ([.ref h0, .int a1, .int a2, .int a3, .int a4]) (n := 6) (Nat.le_of_ble_eq_true rfl)
  rw [lg_entry_eq]
  generalize (lg_sl ([.ref h0, .int a1, .int a2, .int a3, .int a4]) ++ List.replicate (6 - (lg_sl ([.ref h0, .int a1, .int a2, .int a3, .int a4])).length) Slot.unset).toArray = ls at hl ⊢
  have hl : lv_has ls 6 [(0, .ref h0), (1, .int a1), (2, .int a2), (3, .int a3), (4, .int a4)] := hl
  refine lv_iload_n hx hb dX6_debt_0 rfl (lv_at hl 1 rfl) ?_
  have hPc := hP.sub (ws' := []) [] rfl
  have hDc := hD.sub (ws' := []) [] (by decide) rfl
  have hFc := va_free (wc := []) hD hS hA [] rfl
  refine va_csi (va_runS (As := [.int a1]) (rest := []) ⟨hx, hb, hml, hown, hts⟩ (c_X6_isPerson l D c ts s.heap.size a1 i_a1 hi_a1) (cwS 1 hts gX6_debt_X6_isPerson rfl rfl rfl ⟨rfl, hdX6_isPerson⟩ ⟨(show 0 + 1 ≤ 3 by decide), (show 8 + (1 + 11) + 0 ≤ 70 by decide)⟩) ⟨Pre0.blind, Pre0.at hPc hDc hAm hSt hS hFc⟩ rfl rfl hl.1 rfl (lv_room (Nat.le_of_ble_eq_true rfl)) dX6_debt_1 ⟨(show 0 + 0 ≤ 0 by decide), (show 0 + 0 ≤ 0 by decide)⟩) (fun r_2 hw_1 => ?_)
  rcases hw_1 with ⟨hw_1, rfl⟩ | ⟨hw_1, rfl⟩
  · skip
    refine iif_eqF (a := 1) (tgt := 24) hx hb (by decide) dX6_debt_4 (by decide) (by decide) ?_
    refine lv_iload_n hx hb dX6_debt_7 rfl (lv_at hl 2 rfl) ?_
    refine lv_iconst (v := 1) hx hb dX6_debt_8 (by decide) ?_
    refine iicmp_lt (a := i_a2) (b := 1) (tgt := 24) hx hb hi_a2 (by decide) dX6_debt_9 (by decide) (fun k_3 => ?_) (fun k_3 => ?_)
    · skip
      refine lv_iconst (v := (-1)) hx hb dX6_debt_24 (by decide) ?_
      refine W.widen (k := 0) (n := 0) (by omega) (by omega) ?_
      exact W.iret (v := (-1)) hx hb hr (fun t ht hW => ⟨⟨_, (), rfl, Or.inr (⟨by omega, rfl⟩), trivial⟩, hS.F ht⟩) hS.2.2 dX6_debt_25
    · skip
      refine lv_iload_n hx hb dX6_debt_12 rfl (lv_at hl 2 rfl) ?_
      refine lv_iconst (v := 3) hx hb dX6_debt_13 (by decide) ?_
      refine iicmp_gt (a := i_a2) (b := 3) (tgt := 24) hx hb hi_a2 (by decide) dX6_debt_14 (by decide) (fun k_4 => ?_) (fun k_4 => ?_)
      · skip
        refine lv_iconst (v := (-1)) hx hb dX6_debt_24 (by decide) ?_
        refine W.widen (k := 0) (n := 0) (by omega) (by omega) ?_
        exact W.iret (v := (-1)) hx hb hr (fun t ht hW => ⟨⟨_, (), rfl, Or.inr (⟨by omega, rfl⟩), trivial⟩, hS.F ht⟩) hS.2.2 dX6_debt_25
      · skip
        refine lv_iload_n hx hb dX6_debt_17 rfl (lv_at hl 3 rfl) ?_
        have hPc := hP.sub (ws' := []) [] rfl
        have hDc := hD.sub (ws' := []) [] (by decide) rfl
        have hFc := va_free (wc := []) hD hS hA [] rfl
        refine va_csi (va_runS (As := [.int a3]) (rest := []) ⟨hx, hb, hml, hown, hts⟩ (c_X6_isSum l D c ts s.heap.size a3 i_a3 hi_a3) (cwS 1 hts gX6_debt_X6_isSum rfl rfl rfl ⟨rfl, hdX6_isSum⟩ ⟨(show 0 + 1 ≤ 3 by decide), (show 8 + (1 + 11) + 0 ≤ 70 by decide)⟩) ⟨Pre0.blind, Pre0.at hPc hDc hAm hSt hS hFc⟩ rfl rfl hl.1 rfl (lv_room (Nat.le_of_ble_eq_true rfl)) dX6_debt_18 ⟨(show 0 + 0 ≤ 0 by decide), (show 0 + 0 ≤ 0 by decide)⟩) (fun r_6 hw_5 => ?_)
        rcases hw_5 with ⟨hw_5, rfl⟩ | ⟨hw_5, rfl⟩
        · skip
          refine iif_neT (a := 1) (tgt := 26) hx hb (by decide) dX6_debt_21 (by decide) (by decide) ?_
          refine lv_iload_n hx hb dX6_debt_26 rfl (lv_at hl 2 rfl) ?_
          refine lv_iconst (v := 3) hx hb dX6_debt_27 (by decide) ?_
          refine iicmp_ne (a := i_a2) (b := 3) (tgt := 53) hx hb hi_a2 (by decide) dX6_debt_28 (by decide) (fun k_7 => ?_) (fun k_7 => ?_)
          · skip
            refine lv_iload hx hb dX6_debt_53 (lv_at hl 4 rfl) ?_
            refine lv_iconst (v := (-1)) hx hb dX6_debt_55 (by decide) ?_
            refine iicmp_ne (a := i_a4) (b := (-1)) (tgt := 63) hx hb hi_a4 (by decide) dX6_debt_56 (by decide) (fun k_8 => ?_) (fun k_8 => ?_)
            · skip
              refine lv_iconst (v := 0) hx hb dX6_debt_63 (by decide) ?_
              refine lv_istore (lv' := [(5, .int 0), (0, .ref h0), (1, .int a1), (2, .int a2), (3, .int a3), (4, .int a4)]) hx hb dX6_debt_64 hl (by decide) rfl (fun ls hl => ?_)
              refine lv_iload hx hb dX6_debt_66 (lv_at hl 0 rfl) ?_
              refine iif_neF (a := 0) (tgt := 73) hx hb (by decide) dX6_debt_68 (by decide) (by decide) ?_
              refine lv_iconst (v := (-1)) hx hb dX6_debt_71 (by decide) ?_
              refine W.widen (k := 0) (n := 0) (by omega) (by omega) ?_
              exact W.iret (v := (-1)) hx hb hr (fun t ht hW => ⟨⟨_, (), rfl, Or.inr (⟨by omega, rfl⟩), trivial⟩, hS.F ht⟩) hS.2.2 dX6_debt_72
            · skip
              refine lv_iconst (v := 1) hx hb dX6_debt_59 (by decide) ?_
              refine lv_goto (tgt := 64) hx hb dX6_debt_60 (by decide) ?_
              refine lv_istore (lv' := [(5, .int 1), (0, .ref h0), (1, .int a1), (2, .int a2), (3, .int a3), (4, .int a4)]) hx hb dX6_debt_64 hl (by decide) rfl (fun ls hl => ?_)
              refine lv_iload hx hb dX6_debt_66 (lv_at hl 0 rfl) ?_
              refine iif_neT (a := 1) (tgt := 73) hx hb (by decide) dX6_debt_68 (by decide) (by decide) ?_
              refine lv_aload_n hx hb dX6_debt_73 rfl (lv_at hl 1 rfl) ?_
              refine va_get (D := D) (ci := 6) (v := .ref (q 19)) (C := RX6) (T := TX6) (N := 18) hx hb hts (fun _ h => List.mem_cons_of_mem _ (List.mem_append_left _ (List.mem_append_right _ h))) hown hK hP 0 rfl rfl 11 (by decide) (hts (.fieldLink RX6 65 "CrownTable" "debts" "LCrownTable$Rows;") (mem_i 1 rfl)) (fun _ h9 => h9) rfl dX6_debt_74 ?_
              refine lv_iconst (v := 1) hx hb dX6_debt_77 (by decide) ?_
              have hPc := hP.sub (ws' := [(q 19, .inr (2, [.int 7, .int 400, .ref (q 20), .int 0]))]) [1] rfl
              have hDc := hD.sub (ws' := [(q 19, .inr (2, [.int 7, .int 400, .ref (q 20), .int 0]))]) [1] (by decide) rfl
              have hFc := va_free (wc := [(q 19, .inr (2, [.int 7, .int 400, .ref (q 20), .int 0]))]) hD hS hA [1] rfl
              refine va_csi (va_runVN (As := [.int 1]) (rest := []) ⟨hx, hb, hml, hown, hts⟩ (c_X2_hasRoom l D c ts s.heap.size (q 19) (q 20)) ⟨va_cnB 1 hts gX6_debt_X2_hasRoom_n172 rfl rfl rfl (show va_Nw (.methodLinkNest RX6 172 yX2_hasRoom RX6) _ from hAm.2.1.1 (RX6, 172, yX2_hasRoom, RX6) (mem_i 19 rfl)) (hts (.initialized RX2) (mem_i 11 rfl)) hdX2_hasRoom ⟨(show 0 + 1 ≤ 3 by decide), (show 8 + (2 + 11) + 0 ≤ 70 by decide)⟩, (hts (.instanceMethod yX2_hasRoom) (mem_i 10 rfl)), (hts (.selects RX2 yX2_hasRoom yX2_hasRoom) (mem_i 12 rfl))⟩ ⟨Pre0.blind, va_recv hK hPc (ci := 2) (q0 := 0) rfl rfl, Pre0.at hPc hDc hAm hSt hS hFc⟩ rfl rfl hl.1 rfl (lv_room (Nat.le_of_ble_eq_true rfl)) dX6_debt_78 ⟨(show 0 + 0 ≤ 0 by decide), (show 0 + 0 ≤ 0 by decide)⟩) (fun r_10 hw_9 => ?_)
              refine lk_i (y := 1) hw_9 ?_
              refine iif_eqF (a := 1) (tgt := 96) hx hb (by decide) dX6_debt_81 (by decide) (by decide) ?_
              refine lv_aload_n hx hb dX6_debt_84 rfl (lv_at hl 1 rfl) ?_
              refine lv_iload_n hx hb dX6_debt_85 rfl (lv_at hl 2 rfl) ?_
              refine lv_iload_n hx hb dX6_debt_86 rfl (lv_at hl 3 rfl) ?_
              refine lv_iload_n hx hb dX6_debt_87 rfl (lv_at hl 4 rfl) ?_
              refine lv_iload hx hb dX6_debt_88 (lv_at hl 5 rfl) ?_
              have hPc := hP.sub (ws' := [(h0, .inr (6, o6 q 0 0 0 0)), (q 19, .inr (2, [.int 7, .int 400, .ref (q 20), .int 0])), (q 20, .inl (c 1, 112, .inl (fun _ => 0)))]) [0, 1, 2] rfl
              have hDc := hD.sub (ws' := [(h0, .inr (6, o6 q 0 0 0 0)), (q 19, .inr (2, [.int 7, .int 400, .ref (q 20), .int 0])), (q 20, .inl (c 1, 112, .inl (fun _ => 0)))]) [0, 1, 2] (by decide) rfl
              have hFc := va_free (wc := [(h0, .inr (6, o6 q 0 0 0 0)), (q 19, .inr (2, [.int 7, .int 400, .ref (q 20), .int 0])), (q 20, .inl (c 1, 112, .inl (fun _ => 0)))]) hD hS hA [0, 1, 2] rfl
              refine va_calli (va_runV (As := [.int a1, .int a2, .int a3, .int a4]) (rest := []) ⟨hx, hb, hml, hown, hts⟩ (c_X6_addDebt l D c ts s.heap.size q h0 a1 i_a1 hi_a1 a2 i_a2 hi_a2 a3 i_a3 hi_a3 a4 i_a4 hi_a4) (cwV 4 hts gX6_debt_X6_addDebt rfl rfl rfl ⟨rfl, hdX6_addDebt⟩ ⟨(show 2 + 1 ≤ 3 by decide), (show 8 + (6 + 11) + 45 ≤ 70 by decide)⟩) ⟨Pre0.blind, va_recv hK hPc (ci := 6) (q0 := 0) rfl rfl, Pre0.at hPc hDc hAm hSt hS hFc⟩ rfl rfl hl.1 rfl (lv_room (Nat.le_of_ble_eq_true rfl)) dX6_debt_90 ⟨(show 0 + 0 ≤ 0 by decide), (show 0 + 0 ≤ 0 by decide)⟩) hS (fun q _ h => hFc q h) hFc (fun r_12 u_13 t1 H locs ht hvm hw_11 hB hz1 hk1 hS => ?_)
              obtain ⟨hP, hD⟩ := va_join (wr := []) (w1 := []) hP hD [0, 1, 2] [] rfl rfl (by decide) (by decide) hk1 hFc (fun k q h => by simp at h) ⟨fun i j p q h => by simp at h, fun k q h => by simp at h⟩
              have hP : va_P D vwCl [] H := hP
              have hD : va_D A [] := hD
              refine W.widen (k := 0) (n := 0) (by omega) (by omega) ?_
              refine lk_i (y := 0) hw_11 ?_
              refine lv_goto (tgt := 98) hx hb dX6_debt_93 (by decide) ?_
              refine W.widen (k := 0) (n := 0) (by omega) (by omega) ?_
              exact W.iret (v := 0) hx hb hr (fun t ht hW => ⟨⟨_, (), rfl, Or.inl ⟨by omega, rfl⟩, trivial⟩, hS.F ht⟩) hS.2.2 dX6_debt_98
          · skip
            refine lv_iload hx hb dX6_debt_31 (lv_at hl 4 rfl) ?_
            have hPc := hP.sub (ws' := []) [] rfl
            have hDc := hD.sub (ws' := []) [] (by decide) rfl
            have hFc := va_free (wc := []) hD hS hA [] rfl
            refine va_csi (va_runS (As := [.int a4]) (rest := []) ⟨hx, hb, hml, hown, hts⟩ (c_X6_isPerson l D c ts s.heap.size a4 i_a4 hi_a4) (cwS 1 hts gX6_debt_X6_isPerson rfl rfl rfl ⟨rfl, hdX6_isPerson⟩ ⟨(show 0 + 1 ≤ 3 by decide), (show 8 + (1 + 11) + 0 ≤ 70 by decide)⟩) ⟨Pre0.blind, Pre0.at hPc hDc hAm hSt hS hFc⟩ rfl rfl hl.1 rfl (lv_room (Nat.le_of_ble_eq_true rfl)) dX6_debt_33 ⟨(show 0 + 0 ≤ 0 by decide), (show 0 + 0 ≤ 0 by decide)⟩) (fun r_15 hw_14 => ?_)
            rcases hw_14 with ⟨hw_14, rfl⟩ | ⟨hw_14, rfl⟩
            · skip
              refine iif_eqF (a := 1) (tgt := 49) hx hb (by decide) dX6_debt_36 (by decide) (by decide) ?_
              refine lv_iload hx hb dX6_debt_39 (lv_at hl 4 rfl) ?_
              refine lv_iload_n hx hb dX6_debt_41 rfl (lv_at hl 1 rfl) ?_
              refine iicmp_eq (a := i_a4) (b := i_a1) (tgt := 49) hx hb hi_a4 hi_a1 dX6_debt_42 (by decide) (fun k_16 => ?_) (fun k_16 => ?_)
              · skip
                refine lv_iconst (v := 0) hx hb dX6_debt_49 (by decide) ?_
                refine lv_goto (tgt := 64) hx hb dX6_debt_50 (by decide) ?_
                refine lv_istore (lv' := [(5, .int 0), (0, .ref h0), (1, .int a1), (2, .int a2), (3, .int a3), (4, .int a4)]) hx hb dX6_debt_64 hl (by decide) rfl (fun ls hl => ?_)
                refine lv_iload hx hb dX6_debt_66 (lv_at hl 0 rfl) ?_
                refine iif_neF (a := 0) (tgt := 73) hx hb (by decide) dX6_debt_68 (by decide) (by decide) ?_
                refine lv_iconst (v := (-1)) hx hb dX6_debt_71 (by decide) ?_
                refine W.widen (k := 0) (n := 0) (by omega) (by omega) ?_
                exact W.iret (v := (-1)) hx hb hr (fun t ht hW => ⟨⟨_, (), rfl, Or.inr (⟨by omega, rfl⟩), trivial⟩, hS.F ht⟩) hS.2.2 dX6_debt_72
              · skip
                refine lv_iconst (v := 1) hx hb dX6_debt_45 (by decide) ?_
                refine lv_goto (tgt := 64) hx hb dX6_debt_46 (by decide) ?_
                refine lv_istore (lv' := [(5, .int 1), (0, .ref h0), (1, .int a1), (2, .int a2), (3, .int a3), (4, .int a4)]) hx hb dX6_debt_64 hl (by decide) rfl (fun ls hl => ?_)
                refine lv_iload hx hb dX6_debt_66 (lv_at hl 0 rfl) ?_
                refine iif_neT (a := 1) (tgt := 73) hx hb (by decide) dX6_debt_68 (by decide) (by decide) ?_
                refine lv_aload_n hx hb dX6_debt_73 rfl (lv_at hl 1 rfl) ?_
                refine va_get (D := D) (ci := 6) (v := .ref (q 19)) (C := RX6) (T := TX6) (N := 18) hx hb hts (fun _ h => List.mem_cons_of_mem _ (List.mem_append_left _ (List.mem_append_right _ h))) hown hK hP 0 rfl rfl 11 (by decide) (hts (.fieldLink RX6 65 "CrownTable" "debts" "LCrownTable$Rows;") (mem_i 1 rfl)) (fun _ h9 => h9) rfl dX6_debt_74 ?_
                refine lv_iconst (v := 1) hx hb dX6_debt_77 (by decide) ?_
                have hPc := hP.sub (ws' := [(q 19, .inr (2, [.int 7, .int 400, .ref (q 20), .int 0]))]) [1] rfl
                have hDc := hD.sub (ws' := [(q 19, .inr (2, [.int 7, .int 400, .ref (q 20), .int 0]))]) [1] (by decide) rfl
                have hFc := va_free (wc := [(q 19, .inr (2, [.int 7, .int 400, .ref (q 20), .int 0]))]) hD hS hA [1] rfl
                refine va_csi (va_runVN (As := [.int 1]) (rest := []) ⟨hx, hb, hml, hown, hts⟩ (c_X2_hasRoom l D c ts s.heap.size (q 19) (q 20)) ⟨va_cnB 1 hts gX6_debt_X2_hasRoom_n172 rfl rfl rfl (show va_Nw (.methodLinkNest RX6 172 yX2_hasRoom RX6) _ from hAm.2.1.1 (RX6, 172, yX2_hasRoom, RX6) (mem_i 19 rfl)) (hts (.initialized RX2) (mem_i 11 rfl)) hdX2_hasRoom ⟨(show 0 + 1 ≤ 3 by decide), (show 8 + (2 + 11) + 0 ≤ 70 by decide)⟩, (hts (.instanceMethod yX2_hasRoom) (mem_i 10 rfl)), (hts (.selects RX2 yX2_hasRoom yX2_hasRoom) (mem_i 12 rfl))⟩ ⟨Pre0.blind, va_recv hK hPc (ci := 2) (q0 := 0) rfl rfl, Pre0.at hPc hDc hAm hSt hS hFc⟩ rfl rfl hl.1 rfl (lv_room (Nat.le_of_ble_eq_true rfl)) dX6_debt_78 ⟨(show 0 + 0 ≤ 0 by decide), (show 0 + 0 ≤ 0 by decide)⟩) (fun r_18 hw_17 => ?_)
                refine lk_i (y := 1) hw_17 ?_
                refine iif_eqF (a := 1) (tgt := 96) hx hb (by decide) dX6_debt_81 (by decide) (by decide) ?_
                refine lv_aload_n hx hb dX6_debt_84 rfl (lv_at hl 1 rfl) ?_
                refine lv_iload_n hx hb dX6_debt_85 rfl (lv_at hl 2 rfl) ?_
                refine lv_iload_n hx hb dX6_debt_86 rfl (lv_at hl 3 rfl) ?_
                refine lv_iload_n hx hb dX6_debt_87 rfl (lv_at hl 4 rfl) ?_
                refine lv_iload hx hb dX6_debt_88 (lv_at hl 5 rfl) ?_
                have hPc := hP.sub (ws' := [(h0, .inr (6, o6 q 0 0 0 0)), (q 19, .inr (2, [.int 7, .int 400, .ref (q 20), .int 0])), (q 20, .inl (c 1, 112, .inl (fun _ => 0)))]) [0, 1, 2] rfl
                have hDc := hD.sub (ws' := [(h0, .inr (6, o6 q 0 0 0 0)), (q 19, .inr (2, [.int 7, .int 400, .ref (q 20), .int 0])), (q 20, .inl (c 1, 112, .inl (fun _ => 0)))]) [0, 1, 2] (by decide) rfl
                have hFc := va_free (wc := [(h0, .inr (6, o6 q 0 0 0 0)), (q 19, .inr (2, [.int 7, .int 400, .ref (q 20), .int 0])), (q 20, .inl (c 1, 112, .inl (fun _ => 0)))]) hD hS hA [0, 1, 2] rfl
                refine va_calli (va_runV (As := [.int a1, .int a2, .int a3, .int a4]) (rest := []) ⟨hx, hb, hml, hown, hts⟩ (c_X6_addDebt l D c ts s.heap.size q h0 a1 i_a1 hi_a1 a2 i_a2 hi_a2 a3 i_a3 hi_a3 a4 i_a4 hi_a4) (cwV 4 hts gX6_debt_X6_addDebt rfl rfl rfl ⟨rfl, hdX6_addDebt⟩ ⟨(show 2 + 1 ≤ 3 by decide), (show 8 + (6 + 11) + 45 ≤ 70 by decide)⟩) ⟨Pre0.blind, va_recv hK hPc (ci := 6) (q0 := 0) rfl rfl, Pre0.at hPc hDc hAm hSt hS hFc⟩ rfl rfl hl.1 rfl (lv_room (Nat.le_of_ble_eq_true rfl)) dX6_debt_90 ⟨(show 0 + 0 ≤ 0 by decide), (show 0 + 0 ≤ 0 by decide)⟩) hS (fun q _ h => hFc q h) hFc (fun r_20 u_21 t1 H locs ht hvm hw_19 hB hz1 hk1 hS => ?_)
                obtain ⟨hP, hD⟩ := va_join (wr := []) (w1 := []) hP hD [0, 1, 2] [] rfl rfl (by decide) (by decide) hk1 hFc (fun k q h => by simp at h) ⟨fun i j p q h => by simp at h, fun k q h => by simp at h⟩
                have hP : va_P D vwCl [] H := hP
                have hD : va_D A [] := hD
                refine W.widen (k := 0) (n := 0) (by omega) (by omega) ?_
                refine lk_i (y := 0) hw_19 ?_
                refine lv_goto (tgt := 98) hx hb dX6_debt_93 (by decide) ?_
                refine W.widen (k := 0) (n := 0) (by omega) (by omega) ?_
                exact W.iret (v := 0) hx hb hr (fun t ht hW => ⟨⟨_, (), rfl, Or.inl ⟨by omega, rfl⟩, trivial⟩, hS.F ht⟩) hS.2.2 dX6_debt_98
            · skip
              refine iif_eqT (a := 0) (tgt := 49) hx hb (by decide) dX6_debt_36 (by decide) (by decide) ?_
              refine lv_iconst (v := 0) hx hb dX6_debt_49 (by decide) ?_
              refine lv_goto (tgt := 64) hx hb dX6_debt_50 (by decide) ?_
              refine lv_istore (lv' := [(5, .int 0), (0, .ref h0), (1, .int a1), (2, .int a2), (3, .int a3), (4, .int a4)]) hx hb dX6_debt_64 hl (by decide) rfl (fun ls hl => ?_)
              refine lv_iload hx hb dX6_debt_66 (lv_at hl 0 rfl) ?_
              refine iif_neF (a := 0) (tgt := 73) hx hb (by decide) dX6_debt_68 (by decide) (by decide) ?_
              refine lv_iconst (v := (-1)) hx hb dX6_debt_71 (by decide) ?_
              refine W.widen (k := 0) (n := 0) (by omega) (by omega) ?_
              exact W.iret (v := (-1)) hx hb hr (fun t ht hW => ⟨⟨_, (), rfl, Or.inr (⟨by omega, rfl⟩), trivial⟩, hS.F ht⟩) hS.2.2 dX6_debt_72
        · skip
          refine iif_neF (a := 0) (tgt := 26) hx hb (by decide) dX6_debt_21 (by decide) (by decide) ?_
          refine lv_iconst (v := (-1)) hx hb dX6_debt_24 (by decide) ?_
          refine W.widen (k := 0) (n := 0) (by omega) (by omega) ?_
          exact W.iret (v := (-1)) hx hb hr (fun t ht hW => ⟨⟨_, (), rfl, Or.inr (⟨by omega, rfl⟩), trivial⟩, hS.F ht⟩) hS.2.2 dX6_debt_25
  · skip
    refine iif_eqT (a := 0) (tgt := 24) hx hb (by decide) dX6_debt_4 (by decide) (by decide) ?_
    refine lv_iconst (v := (-1)) hx hb dX6_debt_24 (by decide) ?_
    refine W.widen (k := 0) (n := 0) (by omega) (by omega) ?_
    exact W.iret (v := (-1)) hx hb hr (fun t ht hW => ⟨⟨_, (), rfl, Or.inr (⟨by omega, rfl⟩), trivial⟩, hS.F ht⟩) hS.2.2 dX6_debt_25

set_option maxHeartbeats 4000000 in
set_option maxRecDepth 100000 in
theorem c_X7_in_9 (l : Launch) (D : va_G) (c : Nat → ClassId) (ts : Nat × Nat) (sz : Nat)  (a0 : Int32) (i_a0 : Int) (hi_a0 : a0.toInt = i_a0) : Met l yX7_in wsX7_in ({ frames := 0, cells := 0, slots := 0, locals := 0 }) (va_Pc [.int a0, .int 1, .int 3] (Pre0 D c ts [] sz)) (vp_Si (fun r : Int32 => ((1 ≤ i_a0 ∧ i_a0 ≤ 3) ∧ r = 1) ∨ ((¬ (1 ≤ i_a0 ∧ i_a0 ≤ 3)) ∧ r = 0))) 0 0 (fun _ => False) := by
  refine Met.ofW (cc := cX7_in) (maxL := 3) (ret := (some .boolean)) (by decide) rfl ?_
  intro p e s m args below meth cd s₁ B hml hv
  obtain ⟨rfl, hsz, hP, hD0, hAm, hSt⟩ := hv
  have hx := B.exec
  have hb := B.bytes
  have hr := B.returns
  have hts := atoms_spec (ws := wsX7_in) B.pre
  have hown : s.vm.findClass RX7 = some m.cls := findClass_of_methodNamed B.named
  have hlocks := B.notSynchronized
  subst hsz
  have hK := hAm.1
  have hD := hD0.self (sz := s.heap.size)
  generalize hAe : va_A [] s.heap.size = A at hD hSt
  have hA : ∀ q : Nat, s.heap.size ≤ q → A q := fun q h => by rw [← hAe]; exact Or.inr h
  have hS : va_S A s.heap s.heap [] := va_S.rf
  clear hD0 hAe
  have hl := lv_entry ([.int a0, .int 1, .int 3]) (n := 3) (Nat.le_of_ble_eq_true rfl)
  rw [lg_entry_eq]
  generalize (lg_sl ([.int a0, .int 1, .int 3]) ++ List.replicate (3 - (lg_sl ([.int a0, .int 1, .int 3])).length) Slot.unset).toArray = ls at hl ⊢
  have hl : lv_has ls 3 [(0, .int a0), (1, .int 1), (2, .int 3)] := hl
  refine lv_iload_n hx hb dX7_in_0 rfl (lv_at hl 0 rfl) ?_
  refine lv_iload_n hx hb dX7_in_1 rfl (lv_at hl 1 rfl) ?_
  refine iicmp_lt (a := i_a0) (b := 1) (tgt := 14) hx hb hi_a0 (by decide) dX7_in_2 (by decide) (fun k_1 => ?_) (fun k_1 => ?_)
  · skip
    refine lv_iconst (v := 0) hx hb dX7_in_14 (by decide) ?_
    exact W.zret (v := 0) hx hb hr (by decide) (fun t ht hW => ⟨_, rfl, Or.inr (⟨by omega, rfl⟩), ht⟩) (fun _ h => by cases h) dX7_in_15
  · skip
    refine lv_iload_n hx hb dX7_in_5 rfl (lv_at hl 0 rfl) ?_
    refine lv_iload_n hx hb dX7_in_6 rfl (lv_at hl 2 rfl) ?_
    refine iicmp_gt (a := i_a0) (b := 3) (tgt := 14) hx hb hi_a0 (by decide) dX7_in_7 (by decide) (fun k_2 => ?_) (fun k_2 => ?_)
    · skip
      refine lv_iconst (v := 0) hx hb dX7_in_14 (by decide) ?_
      exact W.zret (v := 0) hx hb hr (by decide) (fun t ht hW => ⟨_, rfl, Or.inr (⟨by omega, rfl⟩), ht⟩) (fun _ h => by cases h) dX7_in_15
    · skip
      refine lv_iconst (v := 1) hx hb dX7_in_10 (by decide) ?_
      refine lv_goto (tgt := 15) hx hb dX7_in_11 (by decide) ?_
      exact W.zret (v := 1) hx hb hr (by decide) (fun t ht hW => ⟨_, rfl, Or.inl ⟨by omega, rfl⟩, ht⟩) (fun _ h => by cases h) dX7_in_15

set_option maxHeartbeats 4000000 in
set_option maxRecDepth 100000 in
theorem c_X7_owes (l : Launch) (D : va_G) (c : Nat → ClassId) (ts : Nat × Nat) (sz : Nat) (q : Nat → Nat) (h0 : Nat) (a1 : Int32) (i_a1 : Int) (hi_a1 : a1.toInt = i_a1) (a2 : Int32) (i_a2 : Int) (hi_a2 : a2.toInt = i_a2) (a3 : Int32) (i_a3 : Int) (hi_a3 : a3.toInt = i_a3) (a4 : Int32) (i_a4 : Int) (hi_a4 : a4.toInt = i_a4) : Met l yX7_owes wsX7_owes ({ frames := 0, cells := 0, slots := 0, locals := 0 }) (va_Pc [.ref h0, .int a1, .int a2, .int a3, .int a4] (Pre0 D c ts [(h0, .inr (7, o7 q v0 w0)), (q 28, .inl (c 1, 400, .inl (fun _ => 0))), (q 29, .inl (c 1, 400, .inl (fun _ => 0))), (q 30, .inl (c 1, 400, .inl (fun _ => 0))), (q 31, .inl (c 1, 400, .inl (fun _ => 0))), (q 32, .inl (c 1, 400, .inl (fun _ => 0))), (q 33, .inl (c 1, 400, .inl (fun _ => 0))), (q 34, .inl (c 1, 400, .inl (fun _ => 0)))] sz)) (va_Qi (fun (r : Int32) (u : Unit) => r = 0) (fun _ _ => True) (va_A [(h0, .inr (7, o7 q v0 w0)), (q 28, .inl (c 1, 400, .inl (fun _ => 0))), (q 29, .inl (c 1, 400, .inl (fun _ => 0))), (q 30, .inl (c 1, 400, .inl (fun _ => 0))), (q 31, .inl (c 1, 400, .inl (fun _ => 0))), (q 32, .inl (c 1, 400, .inl (fun _ => 0))), (q 33, .inl (c 1, 400, .inl (fun _ => 0))), (q 34, .inl (c 1, 400, .inl (fun _ => 0)))] sz)) 0 0 (va_A [(h0, .inr (7, o7 q v0 w0)), (q 28, .inl (c 1, 400, .inl (fun _ => 0))), (q 29, .inl (c 1, 400, .inl (fun _ => 0))), (q 30, .inl (c 1, 400, .inl (fun _ => 0))), (q 31, .inl (c 1, 400, .inl (fun _ => 0))), (q 32, .inl (c 1, 400, .inl (fun _ => 0))), (q 33, .inl (c 1, 400, .inl (fun _ => 0))), (q 34, .inl (c 1, 400, .inl (fun _ => 0)))] sz) := by
  refine Met.ofW (cc := cX7_owes) (maxL := 6) (ret := (some .int)) (by decide) rfl ?_
  intro p e s m args below meth cd s₁ B hml hv
  obtain ⟨rfl, hsz, hP, hD0, hAm, hSt⟩ := hv
  have hx := B.exec
  have hb := B.bytes
  have hr := B.returns
  have hts := atoms_spec (ws := wsX7_owes) B.pre
  have hown : s.vm.findClass RX7 = some m.cls := findClass_of_methodNamed B.named
  have hlocks := B.notSynchronized
  subst hsz
  have hK := hAm.1
  have hD := hD0.self (sz := s.heap.size)
  generalize hAe : va_A [(h0, .inr (7, o7 q v0 w0)), (q 28, .inl (c 1, 400, .inl (fun _ => 0))), (q 29, .inl (c 1, 400, .inl (fun _ => 0))), (q 30, .inl (c 1, 400, .inl (fun _ => 0))), (q 31, .inl (c 1, 400, .inl (fun _ => 0))), (q 32, .inl (c 1, 400, .inl (fun _ => 0))), (q 33, .inl (c 1, 400, .inl (fun _ => 0))), (q 34, .inl (c 1, 400, .inl (fun _ => 0)))] s.heap.size = A at hD hSt ⊢
  have hA : ∀ q : Nat, s.heap.size ≤ q → A q := fun q h => by rw [← hAe]; exact Or.inr h
  have hS : va_S A s.heap s.heap [] := va_S.rf
  clear hD0 hAe
  have hl := lv_entry ([.ref h0, .int a1, .int a2, .int a3, .int a4]) (n := 6) (Nat.le_of_ble_eq_true rfl)
  rw [lg_entry_eq]
  generalize (lg_sl ([.ref h0, .int a1, .int a2, .int a3, .int a4]) ++ List.replicate (6 - (lg_sl ([.ref h0, .int a1, .int a2, .int a3, .int a4])).length) Slot.unset).toArray = ls at hl ⊢
  have hl : lv_has ls 6 [(0, .ref h0), (1, .int a1), (2, .int a2), (3, .int a3), (4, .int a4)] := hl
  refine lv_aload_n hx hb dX7_owes_0 rfl (lv_at hl 0 rfl) ?_
  refine va_get (D := D) (ci := 7) (v := .int 0) (C := RX7) (T := TX7) (N := 56) hx hb hts (fun _ h => List.mem_cons_of_mem _ (List.mem_append_right _ h)) hown hK hP 0 rfl rfl 27 (by decide) (hts (.fieldLink RX7 277 "CrownTableModel" "debts" "I") (mem_i 1 rfl)) (fun _ h9 => h9) rfl dX7_owes_1 ?_
  refine lv_istore (lv' := [(5, .int 0), (0, .ref h0), (1, .int a1), (2, .int a2), (3, .int a3), (4, .int a4)]) hx hb dX7_owes_4 hl (by decide) rfl (fun ls hl => ?_)
  refine lv_aload_n hx hb dX7_owes_6 rfl (lv_at hl 1 rfl) ?_
  refine va_get (D := D) (ci := 7) (v := .ref (q 28)) (C := RX7) (T := TX7) (N := 56) hx hb hts (fun _ h => List.mem_cons_of_mem _ (List.mem_append_right _ h)) hown hK hP 0 rfl rfl 28 (by decide) (hts (.fieldLink RX7 50 "CrownTableModel" "debtor" "[I") (mem_i 2 rfl)) (fun _ h9 => h9) rfl dX7_owes_7 ?_
  refine lv_iload hx hb dX7_owes_10 (lv_at hl 0 rfl) ?_
  refine lv_iload_n hx hb dX7_owes_12 rfl (lv_at hl 2 rfl) ?_
  refine va_iast hx hb hK hP hD hS 1 1 rfl rfl (vin (a := 0) (by decide) (by decide) (by decide)) dX7_owes_13 (fun H locs hP hD hS => ?_)
  obtain ⟨f_1, hP, hD⟩ : ∃ f_1 : Nat → Int32, va_P D vwCl [(h0, .inr (7, o7 q v0 w0)), (q 28, .inl (c 1, 400, .inl f_1)), (q 29, .inl (c 1, 400, .inl (fun _ => 0))), (q 30, .inl (c 1, 400, .inl (fun _ => 0))), (q 31, .inl (c 1, 400, .inl (fun _ => 0))), (q 32, .inl (c 1, 400, .inl (fun _ => 0))), (q 33, .inl (c 1, 400, .inl (fun _ => 0))), (q 34, .inl (c 1, 400, .inl (fun _ => 0)))] H ∧ va_D A [(h0, .inr (7, o7 q v0 w0)), (q 28, .inl (c 1, 400, .inl f_1)), (q 29, .inl (c 1, 400, .inl (fun _ => 0))), (q 30, .inl (c 1, 400, .inl (fun _ => 0))), (q 31, .inl (c 1, 400, .inl (fun _ => 0))), (q 32, .inl (c 1, 400, .inl (fun _ => 0))), (q 33, .inl (c 1, 400, .inl (fun _ => 0))), (q 34, .inl (c 1, 400, .inl (fun _ => 0)))] := ⟨_, hP, hD⟩
  refine lv_aload_n hx hb dX7_owes_14 rfl (lv_at hl 1 rfl) ?_
  refine va_get (D := D) (ci := 7) (v := .ref (q 29)) (C := RX7) (T := TX7) (N := 56) hx hb hts (fun _ h => List.mem_cons_of_mem _ (List.mem_append_right _ h)) hown hK hP 0 rfl rfl 29 (by decide) (hts (.fieldLink RX7 53 "CrownTableModel" "kind" "[I") (mem_i 3 rfl)) (fun _ h9 => h9) rfl dX7_owes_15 ?_
  refine lv_iload hx hb dX7_owes_18 (lv_at hl 0 rfl) ?_
  refine lv_iload_n hx hb dX7_owes_20 rfl (lv_at hl 3 rfl) ?_
  refine va_iast hx hb hK hP hD hS 2 1 rfl rfl (vin (a := 0) (by decide) (by decide) (by decide)) dX7_owes_21 (fun H locs hP hD hS => ?_)
  obtain ⟨f_2, hP, hD⟩ : ∃ f_2 : Nat → Int32, va_P D vwCl [(h0, .inr (7, o7 q v0 w0)), (q 28, .inl (c 1, 400, .inl f_1)), (q 29, .inl (c 1, 400, .inl f_2)), (q 30, .inl (c 1, 400, .inl (fun _ => 0))), (q 31, .inl (c 1, 400, .inl (fun _ => 0))), (q 32, .inl (c 1, 400, .inl (fun _ => 0))), (q 33, .inl (c 1, 400, .inl (fun _ => 0))), (q 34, .inl (c 1, 400, .inl (fun _ => 0)))] H ∧ va_D A [(h0, .inr (7, o7 q v0 w0)), (q 28, .inl (c 1, 400, .inl f_1)), (q 29, .inl (c 1, 400, .inl f_2)), (q 30, .inl (c 1, 400, .inl (fun _ => 0))), (q 31, .inl (c 1, 400, .inl (fun _ => 0))), (q 32, .inl (c 1, 400, .inl (fun _ => 0))), (q 33, .inl (c 1, 400, .inl (fun _ => 0))), (q 34, .inl (c 1, 400, .inl (fun _ => 0)))] := ⟨_, hP, hD⟩
  refine lv_aload_n hx hb dX7_owes_22 rfl (lv_at hl 1 rfl) ?_
  refine va_get (D := D) (ci := 7) (v := .ref (q 30)) (C := RX7) (T := TX7) (N := 56) hx hb hts (fun _ h => List.mem_cons_of_mem _ (List.mem_append_right _ h)) hown hK hP 0 rfl rfl 30 (by decide) (hts (.fieldLink RX7 56 "CrownTableModel" "whole" "[I") (mem_i 4 rfl)) (fun _ h9 => h9) rfl dX7_owes_23 ?_
  refine lv_iload hx hb dX7_owes_26 (lv_at hl 0 rfl) ?_
  refine lv_iload_n hx hb dX7_owes_28 rfl (lv_at hl 4 rfl) ?_
  refine va_iast hx hb hK hP hD hS 3 1 rfl rfl (vin (a := 0) (by decide) (by decide) (by decide)) dX7_owes_29 (fun H locs hP hD hS => ?_)
  obtain ⟨f_3, hP, hD⟩ : ∃ f_3 : Nat → Int32, va_P D vwCl [(h0, .inr (7, o7 q v0 w0)), (q 28, .inl (c 1, 400, .inl f_1)), (q 29, .inl (c 1, 400, .inl f_2)), (q 30, .inl (c 1, 400, .inl f_3)), (q 31, .inl (c 1, 400, .inl (fun _ => 0))), (q 32, .inl (c 1, 400, .inl (fun _ => 0))), (q 33, .inl (c 1, 400, .inl (fun _ => 0))), (q 34, .inl (c 1, 400, .inl (fun _ => 0)))] H ∧ va_D A [(h0, .inr (7, o7 q v0 w0)), (q 28, .inl (c 1, 400, .inl f_1)), (q 29, .inl (c 1, 400, .inl f_2)), (q 30, .inl (c 1, 400, .inl f_3)), (q 31, .inl (c 1, 400, .inl (fun _ => 0))), (q 32, .inl (c 1, 400, .inl (fun _ => 0))), (q 33, .inl (c 1, 400, .inl (fun _ => 0))), (q 34, .inl (c 1, 400, .inl (fun _ => 0)))] := ⟨_, hP, hD⟩
  refine lv_aload_n hx hb dX7_owes_30 rfl (lv_at hl 1 rfl) ?_
  refine va_get (D := D) (ci := 7) (v := .ref (q 31)) (C := RX7) (T := TX7) (N := 56) hx hb hts (fun _ h => List.mem_cons_of_mem _ (List.mem_append_right _ h)) hown hK hP 0 rfl rfl 31 (by decide) (hts (.fieldLink RX7 59 "CrownTableModel" "left" "[I") (mem_i 5 rfl)) (fun _ h9 => h9) rfl dX7_owes_31 ?_
  refine lv_iload hx hb dX7_owes_34 (lv_at hl 0 rfl) ?_
  refine lv_iload_n hx hb dX7_owes_36 rfl (lv_at hl 4 rfl) ?_
  refine va_iast hx hb hK hP hD hS 4 1 rfl rfl (vin (a := 0) (by decide) (by decide) (by decide)) dX7_owes_37 (fun H locs hP hD hS => ?_)
  obtain ⟨f_4, hP, hD⟩ : ∃ f_4 : Nat → Int32, va_P D vwCl [(h0, .inr (7, o7 q v0 w0)), (q 28, .inl (c 1, 400, .inl f_1)), (q 29, .inl (c 1, 400, .inl f_2)), (q 30, .inl (c 1, 400, .inl f_3)), (q 31, .inl (c 1, 400, .inl f_4)), (q 32, .inl (c 1, 400, .inl (fun _ => 0))), (q 33, .inl (c 1, 400, .inl (fun _ => 0))), (q 34, .inl (c 1, 400, .inl (fun _ => 0)))] H ∧ va_D A [(h0, .inr (7, o7 q v0 w0)), (q 28, .inl (c 1, 400, .inl f_1)), (q 29, .inl (c 1, 400, .inl f_2)), (q 30, .inl (c 1, 400, .inl f_3)), (q 31, .inl (c 1, 400, .inl f_4)), (q 32, .inl (c 1, 400, .inl (fun _ => 0))), (q 33, .inl (c 1, 400, .inl (fun _ => 0))), (q 34, .inl (c 1, 400, .inl (fun _ => 0)))] := ⟨_, hP, hD⟩
  refine lv_aload_n hx hb dX7_owes_38 rfl (lv_at hl 1 rfl) ?_
  refine va_get (D := D) (ci := 7) (v := .ref (q 32)) (C := RX7) (T := TX7) (N := 56) hx hb hts (fun _ h => List.mem_cons_of_mem _ (List.mem_append_right _ h)) hown hK hP 0 rfl rfl 32 (by decide) (hts (.fieldLink RX7 62 "CrownTableModel" "made" "[I") (mem_i 6 rfl)) (fun _ h9 => h9) rfl dX7_owes_39 ?_
  refine lv_iload hx hb dX7_owes_42 (lv_at hl 0 rfl) ?_
  refine lv_aload_n hx hb dX7_owes_44 rfl (lv_at hl 1 rfl) ?_
  refine va_get (D := D) (ci := 7) (v := .int 0) (C := RX7) (T := TX7) (N := 56) hx hb hts (fun _ h => List.mem_cons_of_mem _ (List.mem_append_right _ h)) hown hK hP 0 rfl rfl 24 (by decide) (hts (.fieldLink RX7 267 "CrownTableModel" "term" "I") (mem_i 7 rfl)) (fun _ h9 => h9) rfl dX7_owes_45 ?_
  refine va_iast hx hb hK hP hD hS 5 1 rfl rfl (vin (a := 0) (by decide) (by decide) (by decide)) dX7_owes_48 (fun H locs hP hD hS => ?_)
  obtain ⟨f_5, hP, hD⟩ : ∃ f_5 : Nat → Int32, va_P D vwCl [(h0, .inr (7, o7 q v0 w0)), (q 28, .inl (c 1, 400, .inl f_1)), (q 29, .inl (c 1, 400, .inl f_2)), (q 30, .inl (c 1, 400, .inl f_3)), (q 31, .inl (c 1, 400, .inl f_4)), (q 32, .inl (c 1, 400, .inl f_5)), (q 33, .inl (c 1, 400, .inl (fun _ => 0))), (q 34, .inl (c 1, 400, .inl (fun _ => 0)))] H ∧ va_D A [(h0, .inr (7, o7 q v0 w0)), (q 28, .inl (c 1, 400, .inl f_1)), (q 29, .inl (c 1, 400, .inl f_2)), (q 30, .inl (c 1, 400, .inl f_3)), (q 31, .inl (c 1, 400, .inl f_4)), (q 32, .inl (c 1, 400, .inl f_5)), (q 33, .inl (c 1, 400, .inl (fun _ => 0))), (q 34, .inl (c 1, 400, .inl (fun _ => 0)))] := ⟨_, hP, hD⟩
  refine lv_aload_n hx hb dX7_owes_49 rfl (lv_at hl 1 rfl) ?_
  refine va_get (D := D) (ci := 7) (v := .ref (q 33)) (C := RX7) (T := TX7) (N := 56) hx hb hts (fun _ h => List.mem_cons_of_mem _ (List.mem_append_right _ h)) hown hK hP 0 rfl rfl 33 (by decide) (hts (.fieldLink RX7 65 "CrownTableModel" "pledge" "[I") (mem_i 8 rfl)) (fun _ h9 => h9) rfl dX7_owes_50 ?_
  refine lv_iload hx hb dX7_owes_53 (lv_at hl 0 rfl) ?_
  refine lv_iload hx hb dX7_owes_55 (lv_at hl 5 rfl) ?_
  refine va_iast hx hb hK hP hD hS 6 1 rfl rfl (vin (a := 0) (by decide) (by decide) (by decide)) dX7_owes_57 (fun H locs hP hD hS => ?_)
  obtain ⟨f_6, hP, hD⟩ : ∃ f_6 : Nat → Int32, va_P D vwCl [(h0, .inr (7, o7 q v0 w0)), (q 28, .inl (c 1, 400, .inl f_1)), (q 29, .inl (c 1, 400, .inl f_2)), (q 30, .inl (c 1, 400, .inl f_3)), (q 31, .inl (c 1, 400, .inl f_4)), (q 32, .inl (c 1, 400, .inl f_5)), (q 33, .inl (c 1, 400, .inl f_6)), (q 34, .inl (c 1, 400, .inl (fun _ => 0)))] H ∧ va_D A [(h0, .inr (7, o7 q v0 w0)), (q 28, .inl (c 1, 400, .inl f_1)), (q 29, .inl (c 1, 400, .inl f_2)), (q 30, .inl (c 1, 400, .inl f_3)), (q 31, .inl (c 1, 400, .inl f_4)), (q 32, .inl (c 1, 400, .inl f_5)), (q 33, .inl (c 1, 400, .inl f_6)), (q 34, .inl (c 1, 400, .inl (fun _ => 0)))] := ⟨_, hP, hD⟩
  refine lv_aload_n hx hb dX7_owes_58 rfl (lv_at hl 1 rfl) ?_
  refine va_get (D := D) (ci := 7) (v := .ref (q 34)) (C := RX7) (T := TX7) (N := 56) hx hb hts (fun _ h => List.mem_cons_of_mem _ (List.mem_append_right _ h)) hown hK hP 0 rfl rfl 34 (by decide) (hts (.fieldLink RX7 68 "CrownTableModel" "pardoned" "[I") (mem_i 9 rfl)) (fun _ h9 => h9) rfl dX7_owes_59 ?_
  refine lv_iload hx hb dX7_owes_62 (lv_at hl 0 rfl) ?_
  refine lv_iconst (v := 0) hx hb dX7_owes_64 (by decide) ?_
  refine va_iast hx hb hK hP hD hS 7 1 rfl rfl (vin (a := 0) (by decide) (by decide) (by decide)) dX7_owes_65 (fun H locs hP hD hS => ?_)
  obtain ⟨f_7, hP, hD⟩ : ∃ f_7 : Nat → Int32, va_P D vwCl [(h0, .inr (7, o7 q v0 w0)), (q 28, .inl (c 1, 400, .inl f_1)), (q 29, .inl (c 1, 400, .inl f_2)), (q 30, .inl (c 1, 400, .inl f_3)), (q 31, .inl (c 1, 400, .inl f_4)), (q 32, .inl (c 1, 400, .inl f_5)), (q 33, .inl (c 1, 400, .inl f_6)), (q 34, .inl (c 1, 400, .inl f_7))] H ∧ va_D A [(h0, .inr (7, o7 q v0 w0)), (q 28, .inl (c 1, 400, .inl f_1)), (q 29, .inl (c 1, 400, .inl f_2)), (q 30, .inl (c 1, 400, .inl f_3)), (q 31, .inl (c 1, 400, .inl f_4)), (q 32, .inl (c 1, 400, .inl f_5)), (q 33, .inl (c 1, 400, .inl f_6)), (q 34, .inl (c 1, 400, .inl f_7))] := ⟨_, hP, hD⟩
  refine lv_aload_n hx hb dX7_owes_66 rfl (lv_at hl 1 rfl) ?_
  refine lv_dup hx hb dX7_owes_67 rfl ?_
  refine va_get (D := D) (ci := 7) (v := .int 0) (C := RX7) (T := TX7) (N := 56) hx hb hts (fun _ h => List.mem_cons_of_mem _ (List.mem_append_right _ h)) hown hK hP 0 rfl rfl 27 (by decide) (hts (.fieldLink RX7 277 "CrownTableModel" "debts" "I") (mem_i 1 rfl)) (fun _ h9 => h9) rfl dX7_owes_68 ?_
  refine lv_iconst (v := 1) hx hb dX7_owes_71 (by decide) ?_
  refine lv_iadd hx hb dX7_owes_72 ?_
  refine lk_i (y := 1) (by decide) ?_
  refine va_put (D := D) (ci := 7) (v := .int 1) (ty := .int) (C := RX7) (T := TX7) (N := 56) hx hb hts (fun _ h => List.mem_cons_of_mem _ (List.mem_append_right _ h)) tyX7 tyX7_ok nmX7 hown hK hP hD hS 0 rfl rfl 27 (by decide) (hts (.fieldLink RX7 277 "CrownTableModel" "debts" "I") (mem_i 1 rfl)) (fun _ h9 => h9) rfl (by decide +kernel) rfl rfl (Nat.le_of_ble_eq_true rfl) dX7_owes_73 (fun H locs hP hD hS => ?_)
  have hP : va_P D vwCl [(h0, .inr (7, o7 q (upd v0 27 1) w0)), (q 28, .inl (c 1, 400, .inl f_1)), (q 29, .inl (c 1, 400, .inl f_2)), (q 30, .inl (c 1, 400, .inl f_3)), (q 31, .inl (c 1, 400, .inl f_4)), (q 32, .inl (c 1, 400, .inl f_5)), (q 33, .inl (c 1, 400, .inl f_6)), (q 34, .inl (c 1, 400, .inl f_7))] H := hP
  have hD : va_D A [(h0, .inr (7, o7 q (upd v0 27 1) w0)), (q 28, .inl (c 1, 400, .inl f_1)), (q 29, .inl (c 1, 400, .inl f_2)), (q 30, .inl (c 1, 400, .inl f_3)), (q 31, .inl (c 1, 400, .inl f_4)), (q 32, .inl (c 1, 400, .inl f_5)), (q 33, .inl (c 1, 400, .inl f_6)), (q 34, .inl (c 1, 400, .inl f_7))] := hD
  refine lv_iload hx hb dX7_owes_76 (lv_at hl 0 rfl) ?_
  refine W.widen (k := 0) (n := 0) (by omega) (by omega) ?_
  exact W.iret (v := 0) hx hb hr (fun t ht hW => ⟨⟨_, (), rfl, rfl, trivial⟩, hS.F ht⟩) hS.2.2 dX7_owes_78

set_option maxHeartbeats 4000000 in
set_option maxRecDepth 100000 in
theorem c_X7_debt (l : Launch) (D : va_G) (c : Nat → ClassId) (ts : Nat × Nat) (sz : Nat) (q : Nat → Nat) (h0 : Nat) (a1 : Int32) (i_a1 : Int) (hi_a1 : a1.toInt = i_a1) (a2 : Int32) (i_a2 : Int) (hi_a2 : a2.toInt = i_a2) (a3 : Int32) (i_a3 : Int) (hi_a3 : a3.toInt = i_a3) (a4 : Int32) (i_a4 : Int) (hi_a4 : a4.toInt = i_a4) : Met l yX7_debt wsX7_debt ({ frames := 2, cells := 0, slots := 0, locals := 42 }) (va_Pc [.ref h0, .int a1, .int a2, .int a3, .int a4] (Pre0 D c ts [(h0, .inr (7, o7 q v0 w0)), (q 28, .inl (c 1, 400, .inl (fun _ => 0))), (q 29, .inl (c 1, 400, .inl (fun _ => 0))), (q 30, .inl (c 1, 400, .inl (fun _ => 0))), (q 31, .inl (c 1, 400, .inl (fun _ => 0))), (q 32, .inl (c 1, 400, .inl (fun _ => 0))), (q 33, .inl (c 1, 400, .inl (fun _ => 0))), (q 34, .inl (c 1, 400, .inl (fun _ => 0)))] sz)) (va_Qi (fun (r : Int32) (u : Unit) => ((0 ≤ i_a1 ∧ i_a1 ≤ 15 ∧ 1 ≤ i_a2 ∧ i_a2 ≤ 3 ∧ 1 ≤ i_a3 ∧ i_a3 ≤ 1000000 ∧ (i_a2 = 3 ∧ 0 ≤ i_a4 ∧ i_a4 ≤ 15 ∧ ¬ i_a4 = i_a1 ∨ ¬ i_a2 = 3 ∧ i_a4 = -1)) ∧ r = 0) ∨ ((¬ (0 ≤ i_a1 ∧ i_a1 ≤ 15 ∧ 1 ≤ i_a2 ∧ i_a2 ≤ 3 ∧ 1 ≤ i_a3 ∧ i_a3 ≤ 1000000 ∧ (i_a2 = 3 ∧ 0 ≤ i_a4 ∧ i_a4 ≤ 15 ∧ ¬ i_a4 = i_a1 ∨ ¬ i_a2 = 3 ∧ i_a4 = -1))) ∧ r = (-1))) (fun _ _ => True) (va_A [(h0, .inr (7, o7 q v0 w0)), (q 28, .inl (c 1, 400, .inl (fun _ => 0))), (q 29, .inl (c 1, 400, .inl (fun _ => 0))), (q 30, .inl (c 1, 400, .inl (fun _ => 0))), (q 31, .inl (c 1, 400, .inl (fun _ => 0))), (q 32, .inl (c 1, 400, .inl (fun _ => 0))), (q 33, .inl (c 1, 400, .inl (fun _ => 0))), (q 34, .inl (c 1, 400, .inl (fun _ => 0)))] sz)) 0 0 (va_A [(h0, .inr (7, o7 q v0 w0)), (q 28, .inl (c 1, 400, .inl (fun _ => 0))), (q 29, .inl (c 1, 400, .inl (fun _ => 0))), (q 30, .inl (c 1, 400, .inl (fun _ => 0))), (q 31, .inl (c 1, 400, .inl (fun _ => 0))), (q 32, .inl (c 1, 400, .inl (fun _ => 0))), (q 33, .inl (c 1, 400, .inl (fun _ => 0))), (q 34, .inl (c 1, 400, .inl (fun _ => 0)))] sz) := by
  refine Met.ofW (cc := cX7_debt) (maxL := 5) (ret := (some .int)) (by decide) rfl ?_
  intro p e s m args below meth cd s₁ B hml hv
  obtain ⟨rfl, hsz, hP, hD0, hAm, hSt⟩ := hv
  have hx := B.exec
  have hb := B.bytes
  have hr := B.returns
  have hts := atoms_spec (ws := wsX7_debt) B.pre
  have hown : s.vm.findClass RX7 = some m.cls := findClass_of_methodNamed B.named
  have hlocks := B.notSynchronized
  subst hsz
  have hK := hAm.1
  have hD := hD0.self (sz := s.heap.size)
  generalize hAe : va_A [(h0, .inr (7, o7 q v0 w0)), (q 28, .inl (c 1, 400, .inl (fun _ => 0))), (q 29, .inl (c 1, 400, .inl (fun _ => 0))), (q 30, .inl (c 1, 400, .inl (fun _ => 0))), (q 31, .inl (c 1, 400, .inl (fun _ => 0))), (q 32, .inl (c 1, 400, .inl (fun _ => 0))), (q 33, .inl (c 1, 400, .inl (fun _ => 0))), (q 34, .inl (c 1, 400, .inl (fun _ => 0)))] s.heap.size = A at hD hSt ⊢
  have hA : ∀ q : Nat, s.heap.size ≤ q → A q := fun q h => by rw [← hAe]; exact Or.inr h
  have hS : va_S A s.heap s.heap [] := va_S.rf
  clear hD0 hAe
  have hl := lv_entry ([.ref h0, .int a1, .int a2, .int a3, .int a4]) (n := 5) (Nat.le_of_ble_eq_true rfl)
  rw [lg_entry_eq]
  generalize (lg_sl ([.ref h0, .int a1, .int a2, .int a3, .int a4]) ++ List.replicate (5 - (lg_sl ([.ref h0, .int a1, .int a2, .int a3, .int a4])).length) Slot.unset).toArray = ls at hl ⊢
  have hl : lv_has ls 5 [(0, .ref h0), (1, .int a1), (2, .int a2), (3, .int a3), (4, .int a4)] := hl
  refine lv_iload_n hx hb dX7_debt_0 rfl (lv_at hl 1 rfl) ?_
  have hPc := hP.sub (ws' := []) [] rfl
  have hDc := hD.sub (ws' := []) [] (by decide) rfl
  have hFc := va_free (wc := []) hD hS hA [] rfl
  refine va_csi (va_runS (As := [.int a1]) (rest := []) ⟨hx, hb, hml, hown, hts⟩ (c_X7_isPerson l D c ts s.heap.size a1 i_a1 hi_a1) (cwS 1 hts gX7_debt_X7_isPerson rfl rfl rfl ⟨rfl, hdX7_isPerson⟩ ⟨(show 1 + 1 ≤ 2 by decide), (show 8 + (1 + 11) + 22 ≤ 42 by decide)⟩) ⟨Pre0.blind, Pre0.at hPc hDc hAm hSt hS hFc⟩ rfl rfl hl.1 rfl (lv_room (Nat.le_of_ble_eq_true rfl)) dX7_debt_1 ⟨(show 0 + 0 ≤ 0 by decide), (show 0 + 0 ≤ 0 by decide)⟩) (fun r_2 hw_1 => ?_)
  rcases hw_1 with ⟨hw_1, rfl⟩ | ⟨hw_1, rfl⟩
  · skip
    refine iif_eqF (a := 1) (tgt := 27) hx hb (by decide) dX7_debt_4 (by decide) (by decide) ?_
    refine lv_iload_n hx hb dX7_debt_7 rfl (lv_at hl 2 rfl) ?_
    refine lv_iconst (v := 1) hx hb dX7_debt_8 (by decide) ?_
    refine lv_iconst (v := 3) hx hb dX7_debt_9 (by decide) ?_
    have hPc := hP.sub (ws' := []) [] rfl
    have hDc := hD.sub (ws' := []) [] (by decide) rfl
    have hFc := va_free (wc := []) hD hS hA [] rfl
    refine va_csi (va_runS (As := [.int a2, .int 1, .int 3]) (rest := []) ⟨hx, hb, hml, hown, hts⟩ (c_X7_in_9 l D c ts s.heap.size a2 i_a2 hi_a2) (cwS 3 hts gX7_debt_X7_in rfl rfl rfl ⟨rfl, hdX7_in⟩ ⟨(show 0 + 1 ≤ 2 by decide), (show 8 + (3 + 11) + 0 ≤ 42 by decide)⟩) ⟨Pre0.blind, Pre0.at hPc hDc hAm hSt hS hFc⟩ rfl rfl hl.1 rfl (lv_room (Nat.le_of_ble_eq_true rfl)) dX7_debt_10 ⟨(show 0 + 0 ≤ 0 by decide), (show 0 + 0 ≤ 0 by decide)⟩) (fun r_4 hw_3 => ?_)
    rcases hw_3 with ⟨hw_3, rfl⟩ | ⟨hw_3, rfl⟩
    · skip
      refine iif_eqF (a := 1) (tgt := 27) hx hb (by decide) dX7_debt_13 (by decide) (by decide) ?_
      refine lv_iload_n hx hb dX7_debt_16 rfl (lv_at hl 3 rfl) ?_
      refine lv_iconst (v := 1) hx hb dX7_debt_17 (by decide) ?_
      refine lv_ldcw (v := 1000000) hx hb hown (hts (.constant RX7 284 (1000000)) (mem_i 1 rfl)) dX7_debt_18 ?_
      have hPc := hP.sub (ws' := []) [] rfl
      have hDc := hD.sub (ws' := []) [] (by decide) rfl
      have hFc := va_free (wc := []) hD hS hA [] rfl
      refine va_csi (va_runS (As := [.int a3, .int 1, .int 1000000]) (rest := []) ⟨hx, hb, hml, hown, hts⟩ (c_X7_in_7 l D c ts s.heap.size a3 i_a3 hi_a3) (cwS 3 hts gX7_debt_X7_in rfl rfl rfl ⟨rfl, hdX7_in⟩ ⟨(show 0 + 1 ≤ 2 by decide), (show 8 + (3 + 11) + 0 ≤ 42 by decide)⟩) ⟨Pre0.blind, Pre0.at hPc hDc hAm hSt hS hFc⟩ rfl rfl hl.1 rfl (lv_room (Nat.le_of_ble_eq_true rfl)) dX7_debt_21 ⟨(show 0 + 0 ≤ 0 by decide), (show 0 + 0 ≤ 0 by decide)⟩) (fun r_6 hw_5 => ?_)
      rcases hw_5 with ⟨hw_5, rfl⟩ | ⟨hw_5, rfl⟩
      · skip
        refine iif_neT (a := 1) (tgt := 29) hx hb (by decide) dX7_debt_24 (by decide) (by decide) ?_
        refine lv_iload_n hx hb dX7_debt_29 rfl (lv_at hl 2 rfl) ?_
        refine lv_iconst (v := 3) hx hb dX7_debt_30 (by decide) ?_
        refine iicmp_ne (a := i_a2) (b := 3) (tgt := 51) hx hb hi_a2 (by decide) dX7_debt_31 (by decide) (fun k_7 => ?_) (fun k_7 => ?_)
        · skip
          refine lv_iload hx hb dX7_debt_51 (lv_at hl 4 rfl) ?_
          refine lv_iconst (v := (-1)) hx hb dX7_debt_53 (by decide) ?_
          refine iicmp_eq (a := i_a4) (b := (-1)) (tgt := 59) hx hb hi_a4 (by decide) dX7_debt_54 (by decide) (fun k_8 => ?_) (fun k_8 => ?_)
          · skip
            refine lv_aload_n hx hb dX7_debt_59 rfl (lv_at hl 0 rfl) ?_
            refine va_get (D := D) (ci := 7) (v := .int 0) (C := RX7) (T := TX7) (N := 56) hx hb hts (fun _ h => List.mem_cons_of_mem _ (List.mem_append_right _ h)) hown hK hP 0 rfl rfl 27 (by decide) (hts (.fieldLink RX7 277 "CrownTableModel" "debts" "I") (mem_i 2 rfl)) (fun _ h9 => h9) rfl dX7_debt_60 ?_
            refine lv_sipush (v := 400) hx hb dX7_debt_63 (by decide) ?_
            refine iicmp_neT (a := 0) (b := 400) (tgt := 74) hx hb (by decide) (by decide) dX7_debt_66 (by decide) (by decide) ?_
            refine lv_aload_n hx hb dX7_debt_74 rfl (lv_at hl 0 rfl) ?_
            refine lv_iload_n hx hb dX7_debt_75 rfl (lv_at hl 1 rfl) ?_
            refine lv_iload_n hx hb dX7_debt_76 rfl (lv_at hl 2 rfl) ?_
            refine lv_iload_n hx hb dX7_debt_77 rfl (lv_at hl 3 rfl) ?_
            refine lv_iload hx hb dX7_debt_78 (lv_at hl 4 rfl) ?_
            have hPc := hP.sub (ws' := [(h0, .inr (7, o7 q v0 w0)), (q 28, .inl (c 1, 400, .inl (fun _ => 0))), (q 29, .inl (c 1, 400, .inl (fun _ => 0))), (q 30, .inl (c 1, 400, .inl (fun _ => 0))), (q 31, .inl (c 1, 400, .inl (fun _ => 0))), (q 32, .inl (c 1, 400, .inl (fun _ => 0))), (q 33, .inl (c 1, 400, .inl (fun _ => 0))), (q 34, .inl (c 1, 400, .inl (fun _ => 0)))]) [0, 1, 2, 3, 4, 5, 6, 7] rfl
            have hDc := hD.sub (ws' := [(h0, .inr (7, o7 q v0 w0)), (q 28, .inl (c 1, 400, .inl (fun _ => 0))), (q 29, .inl (c 1, 400, .inl (fun _ => 0))), (q 30, .inl (c 1, 400, .inl (fun _ => 0))), (q 31, .inl (c 1, 400, .inl (fun _ => 0))), (q 32, .inl (c 1, 400, .inl (fun _ => 0))), (q 33, .inl (c 1, 400, .inl (fun _ => 0))), (q 34, .inl (c 1, 400, .inl (fun _ => 0)))]) [0, 1, 2, 3, 4, 5, 6, 7] (by decide) rfl
            have hFc := va_free (wc := [(h0, .inr (7, o7 q v0 w0)), (q 28, .inl (c 1, 400, .inl (fun _ => 0))), (q 29, .inl (c 1, 400, .inl (fun _ => 0))), (q 30, .inl (c 1, 400, .inl (fun _ => 0))), (q 31, .inl (c 1, 400, .inl (fun _ => 0))), (q 32, .inl (c 1, 400, .inl (fun _ => 0))), (q 33, .inl (c 1, 400, .inl (fun _ => 0))), (q 34, .inl (c 1, 400, .inl (fun _ => 0)))]) hD hS hA [0, 1, 2, 3, 4, 5, 6, 7] rfl
            refine va_calli (va_runV (As := [.int a1, .int a2, .int a3, .int a4]) (rest := []) ⟨hx, hb, hml, hown, hts⟩ (c_X7_owes l D c ts s.heap.size q h0 a1 i_a1 hi_a1 a2 i_a2 hi_a2 a3 i_a3 hi_a3 a4 i_a4 hi_a4) (cwV 4 hts gX7_debt_X7_owes rfl rfl rfl ⟨rfl, hdX7_owes⟩ ⟨(show 0 + 1 ≤ 2 by decide), (show 8 + (6 + 11) + 0 ≤ 42 by decide)⟩) ⟨Pre0.blind, va_recv hK hPc (ci := 7) (q0 := 0) rfl rfl, Pre0.at hPc hDc hAm hSt hS hFc⟩ rfl rfl hl.1 rfl (lv_room (Nat.le_of_ble_eq_true rfl)) dX7_debt_80 ⟨(show 0 + 0 ≤ 0 by decide), (show 0 + 0 ≤ 0 by decide)⟩) hS (fun q _ h => hFc q h) hFc (fun r_10 u_11 t1 H locs ht hvm hw_9 hB hz1 hk1 hS => ?_)
            obtain ⟨hP, hD⟩ := va_join (wr := []) (w1 := []) hP hD [0, 1, 2, 3, 4, 5, 6, 7] [] rfl rfl (by decide) (by decide) hk1 hFc (fun k q h => by simp at h) ⟨fun i j p q h => by simp at h, fun k q h => by simp at h⟩
            have hP : va_P D vwCl [] H := hP
            have hD : va_D A [] := hD
            refine W.widen (k := 0) (n := 0) (by omega) (by omega) ?_
            refine lk_i (y := 0) hw_9 ?_
            refine W.widen (k := 0) (n := 0) (by omega) (by omega) ?_
            exact W.iret (v := 0) hx hb hr (fun t ht hW => ⟨⟨_, (), rfl, Or.inl ⟨by omega, rfl⟩, trivial⟩, hS.F ht⟩) hS.2.2 dX7_debt_83
          · skip
            refine lv_iconst (v := (-1)) hx hb dX7_debt_57 (by decide) ?_
            refine W.widen (k := 0) (n := 0) (by omega) (by omega) ?_
            exact W.iret (v := (-1)) hx hb hr (fun t ht hW => ⟨⟨_, (), rfl, Or.inr (⟨by omega, rfl⟩), trivial⟩, hS.F ht⟩) hS.2.2 dX7_debt_58
        · skip
          refine lv_iload hx hb dX7_debt_34 (lv_at hl 4 rfl) ?_
          have hPc := hP.sub (ws' := []) [] rfl
          have hDc := hD.sub (ws' := []) [] (by decide) rfl
          have hFc := va_free (wc := []) hD hS hA [] rfl
          refine va_csi (va_runS (As := [.int a4]) (rest := []) ⟨hx, hb, hml, hown, hts⟩ (c_X7_isPerson l D c ts s.heap.size a4 i_a4 hi_a4) (cwS 1 hts gX7_debt_X7_isPerson rfl rfl rfl ⟨rfl, hdX7_isPerson⟩ ⟨(show 1 + 1 ≤ 2 by decide), (show 8 + (1 + 11) + 22 ≤ 42 by decide)⟩) ⟨Pre0.blind, Pre0.at hPc hDc hAm hSt hS hFc⟩ rfl rfl hl.1 rfl (lv_room (Nat.le_of_ble_eq_true rfl)) dX7_debt_36 ⟨(show 0 + 0 ≤ 0 by decide), (show 0 + 0 ≤ 0 by decide)⟩) (fun r_13 hw_12 => ?_)
          rcases hw_12 with ⟨hw_12, rfl⟩ | ⟨hw_12, rfl⟩
          · skip
            refine iif_eqF (a := 1) (tgt := 57) hx hb (by decide) dX7_debt_39 (by decide) (by decide) ?_
            refine lv_iload hx hb dX7_debt_42 (lv_at hl 4 rfl) ?_
            refine lv_iload_n hx hb dX7_debt_44 rfl (lv_at hl 1 rfl) ?_
            refine iicmp_ne (a := i_a4) (b := i_a1) (tgt := 59) hx hb hi_a4 hi_a1 dX7_debt_45 (by decide) (fun k_14 => ?_) (fun k_14 => ?_)
            · skip
              refine lv_aload_n hx hb dX7_debt_59 rfl (lv_at hl 0 rfl) ?_
              refine va_get (D := D) (ci := 7) (v := .int 0) (C := RX7) (T := TX7) (N := 56) hx hb hts (fun _ h => List.mem_cons_of_mem _ (List.mem_append_right _ h)) hown hK hP 0 rfl rfl 27 (by decide) (hts (.fieldLink RX7 277 "CrownTableModel" "debts" "I") (mem_i 2 rfl)) (fun _ h9 => h9) rfl dX7_debt_60 ?_
              refine lv_sipush (v := 400) hx hb dX7_debt_63 (by decide) ?_
              refine iicmp_neT (a := 0) (b := 400) (tgt := 74) hx hb (by decide) (by decide) dX7_debt_66 (by decide) (by decide) ?_
              refine lv_aload_n hx hb dX7_debt_74 rfl (lv_at hl 0 rfl) ?_
              refine lv_iload_n hx hb dX7_debt_75 rfl (lv_at hl 1 rfl) ?_
              refine lv_iload_n hx hb dX7_debt_76 rfl (lv_at hl 2 rfl) ?_
              refine lv_iload_n hx hb dX7_debt_77 rfl (lv_at hl 3 rfl) ?_
              refine lv_iload hx hb dX7_debt_78 (lv_at hl 4 rfl) ?_
              have hPc := hP.sub (ws' := [(h0, .inr (7, o7 q v0 w0)), (q 28, .inl (c 1, 400, .inl (fun _ => 0))), (q 29, .inl (c 1, 400, .inl (fun _ => 0))), (q 30, .inl (c 1, 400, .inl (fun _ => 0))), (q 31, .inl (c 1, 400, .inl (fun _ => 0))), (q 32, .inl (c 1, 400, .inl (fun _ => 0))), (q 33, .inl (c 1, 400, .inl (fun _ => 0))), (q 34, .inl (c 1, 400, .inl (fun _ => 0)))]) [0, 1, 2, 3, 4, 5, 6, 7] rfl
              have hDc := hD.sub (ws' := [(h0, .inr (7, o7 q v0 w0)), (q 28, .inl (c 1, 400, .inl (fun _ => 0))), (q 29, .inl (c 1, 400, .inl (fun _ => 0))), (q 30, .inl (c 1, 400, .inl (fun _ => 0))), (q 31, .inl (c 1, 400, .inl (fun _ => 0))), (q 32, .inl (c 1, 400, .inl (fun _ => 0))), (q 33, .inl (c 1, 400, .inl (fun _ => 0))), (q 34, .inl (c 1, 400, .inl (fun _ => 0)))]) [0, 1, 2, 3, 4, 5, 6, 7] (by decide) rfl
              have hFc := va_free (wc := [(h0, .inr (7, o7 q v0 w0)), (q 28, .inl (c 1, 400, .inl (fun _ => 0))), (q 29, .inl (c 1, 400, .inl (fun _ => 0))), (q 30, .inl (c 1, 400, .inl (fun _ => 0))), (q 31, .inl (c 1, 400, .inl (fun _ => 0))), (q 32, .inl (c 1, 400, .inl (fun _ => 0))), (q 33, .inl (c 1, 400, .inl (fun _ => 0))), (q 34, .inl (c 1, 400, .inl (fun _ => 0)))]) hD hS hA [0, 1, 2, 3, 4, 5, 6, 7] rfl
              refine va_calli (va_runV (As := [.int a1, .int a2, .int a3, .int a4]) (rest := []) ⟨hx, hb, hml, hown, hts⟩ (c_X7_owes l D c ts s.heap.size q h0 a1 i_a1 hi_a1 a2 i_a2 hi_a2 a3 i_a3 hi_a3 a4 i_a4 hi_a4) (cwV 4 hts gX7_debt_X7_owes rfl rfl rfl ⟨rfl, hdX7_owes⟩ ⟨(show 0 + 1 ≤ 2 by decide), (show 8 + (6 + 11) + 0 ≤ 42 by decide)⟩) ⟨Pre0.blind, va_recv hK hPc (ci := 7) (q0 := 0) rfl rfl, Pre0.at hPc hDc hAm hSt hS hFc⟩ rfl rfl hl.1 rfl (lv_room (Nat.le_of_ble_eq_true rfl)) dX7_debt_80 ⟨(show 0 + 0 ≤ 0 by decide), (show 0 + 0 ≤ 0 by decide)⟩) hS (fun q _ h => hFc q h) hFc (fun r_16 u_17 t1 H locs ht hvm hw_15 hB hz1 hk1 hS => ?_)
              obtain ⟨hP, hD⟩ := va_join (wr := []) (w1 := []) hP hD [0, 1, 2, 3, 4, 5, 6, 7] [] rfl rfl (by decide) (by decide) hk1 hFc (fun k q h => by simp at h) ⟨fun i j p q h => by simp at h, fun k q h => by simp at h⟩
              have hP : va_P D vwCl [] H := hP
              have hD : va_D A [] := hD
              refine W.widen (k := 0) (n := 0) (by omega) (by omega) ?_
              refine lk_i (y := 0) hw_15 ?_
              refine W.widen (k := 0) (n := 0) (by omega) (by omega) ?_
              exact W.iret (v := 0) hx hb hr (fun t ht hW => ⟨⟨_, (), rfl, Or.inl ⟨by omega, rfl⟩, trivial⟩, hS.F ht⟩) hS.2.2 dX7_debt_83
            · skip
              refine lv_goto (tgt := 57) hx hb dX7_debt_48 (by decide) ?_
              refine lv_iconst (v := (-1)) hx hb dX7_debt_57 (by decide) ?_
              refine W.widen (k := 0) (n := 0) (by omega) (by omega) ?_
              exact W.iret (v := (-1)) hx hb hr (fun t ht hW => ⟨⟨_, (), rfl, Or.inr (⟨by omega, rfl⟩), trivial⟩, hS.F ht⟩) hS.2.2 dX7_debt_58
          · skip
            refine iif_eqT (a := 0) (tgt := 57) hx hb (by decide) dX7_debt_39 (by decide) (by decide) ?_
            refine lv_iconst (v := (-1)) hx hb dX7_debt_57 (by decide) ?_
            refine W.widen (k := 0) (n := 0) (by omega) (by omega) ?_
            exact W.iret (v := (-1)) hx hb hr (fun t ht hW => ⟨⟨_, (), rfl, Or.inr (⟨by omega, rfl⟩), trivial⟩, hS.F ht⟩) hS.2.2 dX7_debt_58
      · skip
        refine iif_neF (a := 0) (tgt := 29) hx hb (by decide) dX7_debt_24 (by decide) (by decide) ?_
        refine lv_iconst (v := (-1)) hx hb dX7_debt_27 (by decide) ?_
        refine W.widen (k := 0) (n := 0) (by omega) (by omega) ?_
        exact W.iret (v := (-1)) hx hb hr (fun t ht hW => ⟨⟨_, (), rfl, Or.inr (⟨by omega, rfl⟩), trivial⟩, hS.F ht⟩) hS.2.2 dX7_debt_28
    · skip
      refine iif_eqT (a := 0) (tgt := 27) hx hb (by decide) dX7_debt_13 (by decide) (by decide) ?_
      refine lv_iconst (v := (-1)) hx hb dX7_debt_27 (by decide) ?_
      refine W.widen (k := 0) (n := 0) (by omega) (by omega) ?_
      exact W.iret (v := (-1)) hx hb hr (fun t ht hW => ⟨⟨_, (), rfl, Or.inr (⟨by omega, rfl⟩), trivial⟩, hS.F ht⟩) hS.2.2 dX7_debt_28
  · skip
    refine iif_eqT (a := 0) (tgt := 27) hx hb (by decide) dX7_debt_4 (by decide) (by decide) ?_
    refine lv_iconst (v := (-1)) hx hb dX7_debt_27 (by decide) ?_
    refine W.widen (k := 0) (n := 0) (by omega) (by omega) ?_
    exact W.iret (v := (-1)) hx hb hr (fun t ht hW => ⟨⟨_, (), rfl, Or.inr (⟨by omega, rfl⟩), trivial⟩, hS.F ht⟩) hS.2.2 dX7_debt_28
