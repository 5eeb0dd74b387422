set_option maxHeartbeats 4000000 in
set_option maxRecDepth 100000 in
theorem c_X3_hasRoom (l : Launch) (D : va_G) (c : Nat → ClassId) (ts : Nat × Nat) (sz : Nat) (h0 : Nat) (h1 : Nat) : Met l yX3_hasRoom wsX3_hasRoom ({ frames := 0, cells := 0, slots := 0, locals := 0 }) (va_Pc [.ref h0, .int 20] (Pre0 D c ts [(h0, .inr (3, [.ref h1, .int 0]))] sz)) (vp_Si (fun r : Int32 => r = 1)) 0 0 (fun _ => False) := by
  refine Met.ofW (cc := cX3_hasRoom) (maxL := 2) (ret := (some .boolean)) (by decide) rfl ?_
  intro p e s m args below meth cd s₁ B hml hv
  obtain ⟨rfl, hsz, hP, hD0, hAm, hSt⟩ := hv
  have hx := B.exec
  have hb := B.bytes
  have hr := B.returns
  have hts := atoms_spec (ws := wsX3_hasRoom) B.pre
  have hown : s.vm.findClass RX3 = some m.cls := findClass_of_methodNamed B.named
  have hlocks := B.notSynchronized
  subst hsz
  have hK := hAm.1
  have hD := hD0.self (sz := s.heap.size)
  generalize hAe : va_A [(h0, .inr (3, [.ref h1, .int 0]))] s.heap.size = A at hD hSt
  have hA : ∀ q : Nat, s.heap.size ≤ q → A q := fun q h => by rw [← hAe]; exact Or.inr h
  have hS : va_S A s.heap s.heap [] := va_S.rf
  clear hD0 hAe
  have hl := lv_entry ([.ref h0, .int 20]) (n := 2) (Nat.le_of_ble_eq_true rfl)
  rw [lg_entry_eq]
  generalize (lg_sl ([.ref h0, .int 20]) ++ List.replicate (2 - (lg_sl ([.ref h0, .int 20])).length) Slot.unset).toArray = ls at hl ⊢
  have hl : lv_has ls 2 [(0, .ref h0), (1, .int 20)] := hl
  refine lv_aload_n hx hb dX3_hasRoom_0 rfl (lv_at hl 0 rfl) ?_
  refine va_get (D := D) (ci := 3) (v := .int 0) (C := RX3) (T := TX3) (N := 2) hx hb hts (fun _ h => List.mem_cons_of_mem _ (List.mem_append_right _ h)) hown hK hP 0 rfl rfl 1 (by decide) (hts (.fieldLink RX3 15 "CrownTable$Tape" "length" "I") (mem_i 1 rfl)) (fun _ h9 => h9) rfl dX3_hasRoom_1 ?_
  refine lv_iload_n hx hb dX3_hasRoom_4 rfl (lv_at hl 1 rfl) ?_
  refine lv_iadd hx hb dX3_hasRoom_5 ?_
  refine lk_i (y := 20) (by decide) ?_
  refine lv_sipush (v := 800) hx hb dX3_hasRoom_6 (by decide) ?_
  refine iicmp_gtF (a := 20) (b := 800) (tgt := 16) hx hb (by decide) (by decide) dX3_hasRoom_9 (by decide) (by decide) ?_
  refine lv_iconst (v := 1) hx hb dX3_hasRoom_12 (by decide) ?_
  refine lv_goto (tgt := 17) hx hb dX3_hasRoom_13 (by decide) ?_
  exact W.zret (v := 1) hx hb hr (by decide) (fun t ht hW => ⟨_, rfl, rfl, ht⟩) (fun _ h => by cases h) dX3_hasRoom_17

set_option maxHeartbeats 4000000 in
set_option maxRecDepth 100000 in
theorem c_X3_hasRoom_1 (l : Launch) (D : va_G) (c : Nat → ClassId) (ts : Nat × Nat) (sz : Nat) (h0 : Nat) (h1 : Nat) : Met l yX3_hasRoom wsX3_hasRoom ({ frames := 0, cells := 0, slots := 0, locals := 0 }) (va_Pc [.ref h0, .int 1] (Pre0 D c ts [(h0, .inr (3, [.ref h1, .int 0]))] sz)) (vp_Si (fun r : Int32 => r = 1)) 0 0 (fun _ => False) := by
  refine Met.ofW (cc := cX3_hasRoom) (maxL := 2) (ret := (some .boolean)) (by decide) rfl ?_
  intro p e s m args below meth cd s₁ B hml hv
  obtain ⟨rfl, hsz, hP, hD0, hAm, hSt⟩ := hv
  have hx := B.exec
  have hb := B.bytes
  have hr := B.returns
  have hts := atoms_spec (ws := wsX3_hasRoom) B.pre
  have hown : s.vm.findClass RX3 = some m.cls := findClass_of_methodNamed B.named
  have hlocks := B.notSynchronized
  subst hsz
  have hK := hAm.1
  have hD := hD0.self (sz := s.heap.size)
  generalize hAe : va_A [(h0, .inr (3, [.ref h1, .int 0]))] s.heap.size = A at hD hSt
  have hA : ∀ q : Nat, s.heap.size ≤ q → A q := fun q h => by rw [← hAe]; exact Or.inr h
  have hS : va_S A s.heap s.heap [] := va_S.rf
  clear hD0 hAe
  have hl := lv_entry ([.ref h0, .int 1]) (n := 2) (Nat.le_of_ble_eq_true rfl)
  rw [lg_entry_eq]
  generalize (lg_sl ([.ref h0, .int 1]) ++ List.replicate (2 - (lg_sl ([.ref h0, .int 1])).length) Slot.unset).toArray = ls at hl ⊢
  have hl : lv_has ls 2 [(0, .ref h0), (1, .int 1)] := hl
  refine lv_aload_n hx hb dX3_hasRoom_0 rfl (lv_at hl 0 rfl) ?_
  refine va_get (D := D) (ci := 3) (v := .int 0) (C := RX3) (T := TX3) (N := 2) hx hb hts (fun _ h => List.mem_cons_of_mem _ (List.mem_append_right _ h)) hown hK hP 0 rfl rfl 1 (by decide) (hts (.fieldLink RX3 15 "CrownTable$Tape" "length" "I") (mem_i 1 rfl)) (fun _ h9 => h9) rfl dX3_hasRoom_1 ?_
  refine lv_iload_n hx hb dX3_hasRoom_4 rfl (lv_at hl 1 rfl) ?_
  refine lv_iadd hx hb dX3_hasRoom_5 ?_
  refine lk_i (y := 1) (by decide) ?_
  refine lv_sipush (v := 800) hx hb dX3_hasRoom_6 (by decide) ?_
  refine iicmp_gtF (a := 1) (b := 800) (tgt := 16) hx hb (by decide) (by decide) dX3_hasRoom_9 (by decide) (by decide) ?_
  refine lv_iconst (v := 1) hx hb dX3_hasRoom_12 (by decide) ?_
  refine lv_goto (tgt := 17) hx hb dX3_hasRoom_13 (by decide) ?_
  exact W.zret (v := 1) hx hb hr (by decide) (fun t ht hW => ⟨_, rfl, rfl, ht⟩) (fun _ h => by cases h) dX3_hasRoom_17

set_option maxHeartbeats 4000000 in
set_option maxRecDepth 100000 in
theorem c_X3_hasRoom_2 (l : Launch) (D : va_G) (c : Nat → ClassId) (ts : Nat × Nat) (sz : Nat) (h0 : Nat) (h1 : Nat) : Met l yX3_hasRoom wsX3_hasRoom ({ frames := 0, cells := 0, slots := 0, locals := 0 }) (va_Pc [.ref h0, .int 1] (Pre0 D c ts [(h0, .inr (3, [.ref h1, .int 1]))] sz)) (vp_Si (fun r : Int32 => r = 1)) 0 0 (fun _ => False) := by
  refine Met.ofW (cc := cX3_hasRoom) (maxL := 2) (ret := (some .boolean)) (by decide) rfl ?_
  intro p e s m args below meth cd s₁ B hml hv
  obtain ⟨rfl, hsz, hP, hD0, hAm, hSt⟩ := hv
  have hx := B.exec
  have hb := B.bytes
  have hr := B.returns
  have hts := atoms_spec (ws := wsX3_hasRoom) B.pre
  have hown : s.vm.findClass RX3 = some m.cls := findClass_of_methodNamed B.named
  have hlocks := B.notSynchronized
  subst hsz
  have hK := hAm.1
  have hD := hD0.self (sz := s.heap.size)
  generalize hAe : va_A [(h0, .inr (3, [.ref h1, .int 1]))] s.heap.size = A at hD hSt
  have hA : ∀ q : Nat, s.heap.size ≤ q → A q := fun q h => by rw [← hAe]; exact Or.inr h
  have hS : va_S A s.heap s.heap [] := va_S.rf
  clear hD0 hAe
  have hl := lv_entry ([.ref h0, .int 1]) (n := 2) (Nat.le_of_ble_eq_true rfl)
  rw [lg_entry_eq]
  generalize (lg_sl ([.ref h0, .int 1]) ++ List.replicate (2 - (lg_sl ([.ref h0, .int 1])).length) Slot.unset).toArray = ls at hl ⊢
  have hl : lv_has ls 2 [(0, .ref h0), (1, .int 1)] := hl
  refine lv_aload_n hx hb dX3_hasRoom_0 rfl (lv_at hl 0 rfl) ?_
  refine va_get (D := D) (ci := 3) (v := .int 1) (C := RX3) (T := TX3) (N := 2) hx hb hts (fun _ h => List.mem_cons_of_mem _ (List.mem_append_right _ h)) hown hK hP 0 rfl rfl 1 (by decide) (hts (.fieldLink RX3 15 "CrownTable$Tape" "length" "I") (mem_i 1 rfl)) (fun _ h9 => h9) rfl dX3_hasRoom_1 ?_
  refine lv_iload_n hx hb dX3_hasRoom_4 rfl (lv_at hl 1 rfl) ?_
  refine lv_iadd hx hb dX3_hasRoom_5 ?_
  refine lk_i (y := 2) (by decide) ?_
  refine lv_sipush (v := 800) hx hb dX3_hasRoom_6 (by decide) ?_
  refine iicmp_gtF (a := 2) (b := 800) (tgt := 16) hx hb (by decide) (by decide) dX3_hasRoom_9 (by decide) (by decide) ?_
  refine lv_iconst (v := 1) hx hb dX3_hasRoom_12 (by decide) ?_
  refine lv_goto (tgt := 17) hx hb dX3_hasRoom_13 (by decide) ?_
  exact W.zret (v := 1) hx hb hr (by decide) (fun t ht hW => ⟨_, rfl, rfl, ht⟩) (fun _ h => by cases h) dX3_hasRoom_17

set_option maxHeartbeats 4000000 in
set_option maxRecDepth 100000 in
theorem c_X3_hasRoom_3 (l : Launch) (D : va_G) (c : Nat → ClassId) (ts : Nat × Nat) (sz : Nat) (h0 : Nat) (h1 : Nat) : Met l yX3_hasRoom wsX3_hasRoom ({ frames := 0, cells := 0, slots := 0, locals := 0 }) (va_Pc [.ref h0, .int 1] (Pre0 D c ts [(h0, .inr (3, [.ref h1, .int 2]))] sz)) (vp_Si (fun r : Int32 => r = 1)) 0 0 (fun _ => False) := by
  refine Met.ofW (cc := cX3_hasRoom) (maxL := 2) (ret := (some .boolean)) (by decide) rfl ?_
  intro p e s m args below meth cd s₁ B hml hv
  obtain ⟨rfl, hsz, hP, hD0, hAm, hSt⟩ := hv
  have hx := B.exec
  have hb := B.bytes
  have hr := B.returns
  have hts := atoms_spec (ws := wsX3_hasRoom) B.pre
  have hown : s.vm.findClass RX3 = some m.cls := findClass_of_methodNamed B.named
  have hlocks := B.notSynchronized
  subst hsz
  have hK := hAm.1
  have hD := hD0.self (sz := s.heap.size)
  generalize hAe : va_A [(h0, .inr (3, [.ref h1, .int 2]))] s.heap.size = A at hD hSt
  have hA : ∀ q : Nat, s.heap.size ≤ q → A q := fun q h => by rw [← hAe]; exact Or.inr h
  have hS : va_S A s.heap s.heap [] := va_S.rf
  clear hD0 hAe
  have hl := lv_entry ([.ref h0, .int 1]) (n := 2) (Nat.le_of_ble_eq_true rfl)
  rw [lg_entry_eq]
  generalize (lg_sl ([.ref h0, .int 1]) ++ List.replicate (2 - (lg_sl ([.ref h0, .int 1])).length) Slot.unset).toArray = ls at hl ⊢
  have hl : lv_has ls 2 [(0, .ref h0), (1, .int 1)] := hl
  refine lv_aload_n hx hb dX3_hasRoom_0 rfl (lv_at hl 0 rfl) ?_
  refine va_get (D := D) (ci := 3) (v := .int 2) (C := RX3) (T := TX3) (N := 2) hx hb hts (fun _ h => List.mem_cons_of_mem _ (List.mem_append_right _ h)) hown hK hP 0 rfl rfl 1 (by decide) (hts (.fieldLink RX3 15 "CrownTable$Tape" "length" "I") (mem_i 1 rfl)) (fun _ h9 => h9) rfl dX3_hasRoom_1 ?_
  refine lv_iload_n hx hb dX3_hasRoom_4 rfl (lv_at hl 1 rfl) ?_
  refine lv_iadd hx hb dX3_hasRoom_5 ?_
  refine lk_i (y := 3) (by decide) ?_
  refine lv_sipush (v := 800) hx hb dX3_hasRoom_6 (by decide) ?_
  refine iicmp_gtF (a := 3) (b := 800) (tgt := 16) hx hb (by decide) (by decide) dX3_hasRoom_9 (by decide) (by decide) ?_
  refine lv_iconst (v := 1) hx hb dX3_hasRoom_12 (by decide) ?_
  refine lv_goto (tgt := 17) hx hb dX3_hasRoom_13 (by decide) ?_
  exact W.zret (v := 1) hx hb hr (by decide) (fun t ht hW => ⟨_, rfl, rfl, ht⟩) (fun _ h => by cases h) dX3_hasRoom_17

set_option maxHeartbeats 4000000 in
set_option maxRecDepth 100000 in
theorem c_X3_hasRoom_4 (l : Launch) (D : va_G) (c : Nat → ClassId) (ts : Nat × Nat) (sz : Nat) (h0 : Nat) (h1 : Nat) : Met l yX3_hasRoom wsX3_hasRoom ({ frames := 0, cells := 0, slots := 0, locals := 0 }) (va_Pc [.ref h0, .int 1] (Pre0 D c ts [(h0, .inr (3, [.ref h1, .int 3]))] sz)) (vp_Si (fun r : Int32 => r = 1)) 0 0 (fun _ => False) := by
  refine Met.ofW (cc := cX3_hasRoom) (maxL := 2) (ret := (some .boolean)) (by decide) rfl ?_
  intro p e s m args below meth cd s₁ B hml hv
  obtain ⟨rfl, hsz, hP, hD0, hAm, hSt⟩ := hv
  have hx := B.exec
  have hb := B.bytes
  have hr := B.returns
  have hts := atoms_spec (ws := wsX3_hasRoom) B.pre
  have hown : s.vm.findClass RX3 = some m.cls := findClass_of_methodNamed B.named
  have hlocks := B.notSynchronized
  subst hsz
  have hK := hAm.1
  have hD := hD0.self (sz := s.heap.size)
  generalize hAe : va_A [(h0, .inr (3, [.ref h1, .int 3]))] s.heap.size = A at hD hSt
  have hA : ∀ q : Nat, s.heap.size ≤ q → A q := fun q h => by rw [← hAe]; exact Or.inr h
  have hS : va_S A s.heap s.heap [] := va_S.rf
  clear hD0 hAe
  have hl := lv_entry ([.ref h0, .int 1]) (n := 2) (Nat.le_of_ble_eq_true rfl)
  rw [lg_entry_eq]
  generalize (lg_sl ([.ref h0, .int 1]) ++ List.replicate (2 - (lg_sl ([.ref h0, .int 1])).length) Slot.unset).toArray = ls at hl ⊢
  have hl : lv_has ls 2 [(0, .ref h0), (1, .int 1)] := hl
  refine lv_aload_n hx hb dX3_hasRoom_0 rfl (lv_at hl 0 rfl) ?_
  refine va_get (D := D) (ci := 3) (v := .int 3) (C := RX3) (T := TX3) (N := 2) hx hb hts (fun _ h => List.mem_cons_of_mem _ (List.mem_append_right _ h)) hown hK hP 0 rfl rfl 1 (by decide) (hts (.fieldLink RX3 15 "CrownTable$Tape" "length" "I") (mem_i 1 rfl)) (fun _ h9 => h9) rfl dX3_hasRoom_1 ?_
  refine lv_iload_n hx hb dX3_hasRoom_4 rfl (lv_at hl 1 rfl) ?_
  refine lv_iadd hx hb dX3_hasRoom_5 ?_
  refine lk_i (y := 4) (by decide) ?_
  refine lv_sipush (v := 800) hx hb dX3_hasRoom_6 (by decide) ?_
  refine iicmp_gtF (a := 4) (b := 800) (tgt := 16) hx hb (by decide) (by decide) dX3_hasRoom_9 (by decide) (by decide) ?_
  refine lv_iconst (v := 1) hx hb dX3_hasRoom_12 (by decide) ?_
  refine lv_goto (tgt := 17) hx hb dX3_hasRoom_13 (by decide) ?_
  exact W.zret (v := 1) hx hb hr (by decide) (fun t ht hW => ⟨_, rfl, rfl, ht⟩) (fun _ h => by cases h) dX3_hasRoom_17

set_option maxHeartbeats 4000000 in
set_option maxRecDepth 100000 in
theorem c_X3_addFour (l : Launch) (D : va_G) (c : Nat → ClassId) (ts : Nat × Nat) (sz : Nat) (h0 : Nat) (h1 : Nat) (a1 : Int32) (i_a1 : Int) (hi_a1 : a1.toInt = i_a1) : Met l yX3_addFour wsX3_addFour ({ frames := 1, cells := 0, slots := 0, locals := 21 }) (va_Pc [.ref h0, .int a1] (Pre0 D c ts [(h0, .inr (3, [.ref h1, .int 0])), (h1, .inl (c 0, 800, .inl (fun _ => 0)))] sz)) (va_Qv (fun (u : (Nat → Nat) × (Nat → Nat → Int32) × (Nat → Nat → Int64)) => True) (fun u t => va_P D vwCl [(h0, .inr (3, [.ref h1, .int 4])), (h1, .inl (c 0, 800, .inl (u.2.1 0)))] t.heap ∧ va_D (va_A [(h0, .inr (3, [.ref h1, .int 0])), (h1, .inl (c 0, 800, .inl (fun _ => 0)))] sz) [(h0, .inr (3, [.ref h1, .int 4])), (h1, .inl (c 0, 800, .inl (u.2.1 0)))]) (va_A [(h0, .inr (3, [.ref h1, .int 0])), (h1, .inl (c 0, 800, .inl (fun _ => 0)))] sz)) 0 0 (va_A [(h0, .inr (3, [.ref h1, .int 0])), (h1, .inl (c 0, 800, .inl (fun _ => 0)))] sz) := by
  refine Met.ofW (cc := cX3_addFour) (maxL := 3) (ret := none) (by decide) rfl ?_
  intro p e s m args below meth cd s₁ B hml hv
  obtain ⟨rfl, hsz, hP, hD0, hAm, hSt⟩ := hv
  have hx := B.exec
  have hb := B.bytes
  have hr := B.returns
  have hts := atoms_spec (ws := wsX3_addFour) B.pre
  have hown : s.vm.findClass RX3 = some m.cls := findClass_of_methodNamed B.named
  have hlocks := B.notSynchronized
  subst hsz
  have hK := hAm.1
  have hD := hD0.self (sz := s.heap.size)
  generalize hAe : va_A [(h0, .inr (3, [.ref h1, .int 0])), (h1, .inl (c 0, 800, .inl (fun _ => 0)))] s.heap.size = A at hD hSt ⊢
  have hA : ∀ q : Nat, s.heap.size ≤ q → A q := fun q h => by rw [← hAe]; exact Or.inr h
  have hS : va_S A s.heap s.heap [] := va_S.rf
  clear hD0 hAe
  have hl := lv_entry ([.ref h0, .int a1]) (n := 3) (Nat.le_of_ble_eq_true rfl)
  rw [lg_entry_eq]
  generalize (lg_sl ([.ref h0, .int a1]) ++ List.replicate (3 - (lg_sl ([.ref h0, .int a1])).length) Slot.unset).toArray = ls at hl ⊢
  have hl : lv_has ls 3 [(0, .ref h0), (1, .int a1)] := hl
  refine lv_bipush (v := 24) hx hb dX3_addFour_0 (by decide) ?_
  refine lv_istore_n (lv' := [(2, .int 24), (0, .ref h0), (1, .int a1)]) hx hb dX3_addFour_2 rfl hl (by decide) rfl (fun ls hl => ?_)
  refine lv_iload_n hx hb dX3_addFour_3 rfl (lv_at hl 0 rfl) ?_
  refine iif_ltF (a := 24) (tgt := 44) hx hb (by decide) dX3_addFour_4 (by decide) (by decide) ?_
  refine lv_aload_n hx hb dX3_addFour_7 rfl (lv_at hl 1 rfl) ?_
  refine lv_iconst (v := 1) hx hb dX3_addFour_8 (by decide) ?_
  have hPc := hP.sub (ws' := [(h0, .inr (3, [.ref h1, .int 0]))]) [0] rfl
  have hDc := hD.sub (ws' := [(h0, .inr (3, [.ref h1, .int 0]))]) [0] (by decide) rfl
  have hFc := va_free (wc := [(h0, .inr (3, [.ref h1, .int 0]))]) hD hS hA [0] rfl
  refine va_csi (va_runV (As := [.int 1]) (rest := []) ⟨hx, hb, hml, hown, hts⟩ (c_X3_hasRoom_1 l D c ts s.heap.size h0 h1) (cwV 1 hts gX3_addFour_X3_hasRoom rfl rfl rfl ⟨rfl, hdX3_hasRoom⟩ ⟨(show 0 + 1 ≤ 1 by decide), (show 8 + (2 + 11) + 0 ≤ 21 by decide)⟩) ⟨Pre0.blind, va_recv hK hPc (ci := 3) (q0 := 0) rfl rfl, Pre0.at hPc hDc hAm hSt hS hFc⟩ rfl rfl hl.1 rfl (lv_room (Nat.le_of_ble_eq_true rfl)) dX3_addFour_9 ⟨(show 0 + 0 ≤ 0 by decide), (show 0 + 0 ≤ 0 by decide)⟩) (fun r_2 hw_1 => ?_)
  refine lk_i (y := 1) hw_1 ?_
  refine iif_eqF (a := 1) (tgt := 38) hx hb (by decide) dX3_addFour_12 (by decide) (by decide) ?_
  refine lv_aload_n hx hb dX3_addFour_15 rfl (lv_at hl 1 rfl) ?_
  refine va_get (D := D) (ci := 3) (v := .ref h1) (C := RX3) (T := TX3) (N := 2) hx hb hts (fun _ h => List.mem_cons_of_mem _ (List.mem_append_right _ h)) hown hK hP 0 rfl rfl 0 (by decide) (hts (.fieldLink RX3 9 "CrownTable$Tape" "bytes" "[B") (mem_i 1 rfl)) (fun _ h9 => h9) rfl dX3_addFour_16 ?_
  refine lv_aload_n hx hb dX3_addFour_19 rfl (lv_at hl 1 rfl) ?_
  refine va_get (D := D) (ci := 3) (v := .int 0) (C := RX3) (T := TX3) (N := 2) hx hb hts (fun _ h => List.mem_cons_of_mem _ (List.mem_append_right _ h)) hown hK hP 0 rfl rfl 1 (by decide) (hts (.fieldLink RX3 15 "CrownTable$Tape" "length" "I") (mem_i 2 rfl)) (fun _ h9 => h9) rfl dX3_addFour_20 ?_
  refine lv_iload_n hx hb dX3_addFour_23 rfl (lv_at hl 2 rfl) ?_
  refine lv_iload_n hx hb dX3_addFour_24 rfl (lv_at hl 0 rfl) ?_
  refine lv_iushr hx hb dX3_addFour_25 rfl ?_
  refine lv_topi (fun x_3 ex_3 => ?_)
  refine lv_i2b hx hb dX3_addFour_26 rfl ?_
  refine lv_topi (fun x_4 ex_4 => ?_)
  refine va_bast hx hb hK hP hD hS 1 0 rfl rfl (vin (a := 0) (by decide) (by decide) (by decide)) dX3_addFour_27 (fun H locs hP hD hS => ?_)
  obtain ⟨f_5, hP, hD⟩ : ∃ f_5 : Nat → Int32, va_P D vwCl [(h0, .inr (3, [.ref h1, .int 0])), (h1, .inl (c 0, 800, .inl f_5))] H ∧ va_D A [(h0, .inr (3, [.ref h1, .int 0])), (h1, .inl (c 0, 800, .inl f_5))] := ⟨_, hP, hD⟩
  refine lv_aload_n hx hb dX3_addFour_28 rfl (lv_at hl 1 rfl) ?_
  refine lv_dup hx hb dX3_addFour_29 rfl ?_
  refine va_get (D := D) (ci := 3) (v := .int 0) (C := RX3) (T := TX3) (N := 2) hx hb hts (fun _ h => List.mem_cons_of_mem _ (List.mem_append_right _ h)) hown hK hP 0 rfl rfl 1 (by decide) (hts (.fieldLink RX3 15 "CrownTable$Tape" "length" "I") (mem_i 2 rfl)) (fun _ h9 => h9) rfl dX3_addFour_30 ?_
  refine lv_iconst (v := 1) hx hb dX3_addFour_33 (by decide) ?_
  refine lv_iadd hx hb dX3_addFour_34 ?_
  refine lk_i (y := 1) (by decide) ?_
  refine va_put (D := D) (ci := 3) (v := .int 1) (ty := .int) (C := RX3) (T := TX3) (N := 2) hx hb hts (fun _ h => List.mem_cons_of_mem _ (List.mem_append_right _ h)) tyX3 tyX3_ok nmX3 hown hK hP hD hS 0 rfl rfl 1 (by decide) (hts (.fieldLink RX3 15 "CrownTable$Tape" "length" "I") (mem_i 2 rfl)) (fun _ h9 => h9) rfl (by decide +kernel) rfl rfl (Nat.le_of_ble_eq_true rfl) dX3_addFour_35 (fun H locs hP hD hS => ?_)
  have hP : va_P D vwCl [(h0, .inr (3, [.ref h1, .int 1])), (h1, .inl (c 0, 800, .inl f_5))] H := hP
  have hD : va_D A [(h0, .inr (3, [.ref h1, .int 1])), (h1, .inl (c 0, 800, .inl f_5))] := hD
  refine lv_iinc (v := 16) (lv' := [(2, .int 16), (0, .ref h0), (1, .int a1)]) hx hb dX3_addFour_38 hl (k := 0) rfl (by decide) (by decide) rfl (fun ls hl => ?_)
  refine lv_goto (tgt := 3) hx hb dX3_addFour_41 (by decide) ?_
  refine lv_iload_n hx hb dX3_addFour_3 rfl (lv_at hl 0 rfl) ?_
  refine iif_ltF (a := 16) (tgt := 44) hx hb (by decide) dX3_addFour_4 (by decide) (by decide) ?_
  refine lv_aload_n hx hb dX3_addFour_7 rfl (lv_at hl 1 rfl) ?_
  refine lv_iconst (v := 1) hx hb dX3_addFour_8 (by decide) ?_
  have hPc := hP.sub (ws' := [(h0, .inr (3, [.ref h1, .int 1]))]) [0] rfl
  have hDc := hD.sub (ws' := [(h0, .inr (3, [.ref h1, .int 1]))]) [0] (by decide) rfl
  have hFc := va_free (wc := [(h0, .inr (3, [.ref h1, .int 1]))]) hD hS hA [0] rfl
  refine va_csi (va_runV (As := [.int 1]) (rest := []) ⟨hx, hb, hml, hown, hts⟩ (c_X3_hasRoom_2 l D c ts H.size h0 h1) (cwV 1 hts gX3_addFour_X3_hasRoom rfl rfl rfl ⟨rfl, hdX3_hasRoom⟩ ⟨(show 0 + 1 ≤ 1 by decide), (show 8 + (2 + 11) + 0 ≤ 21 by decide)⟩) ⟨Pre0.blind, va_recv hK hPc (ci := 3) (q0 := 0) rfl rfl, Pre0.at hPc hDc hAm hSt hS hFc⟩ rfl rfl hl.1 rfl (lv_room (Nat.le_of_ble_eq_true rfl)) dX3_addFour_9 ⟨(show 0 + 0 ≤ 0 by decide), (show 0 + 0 ≤ 0 by decide)⟩) (fun r_7 hw_6 => ?_)
  refine lk_i (y := 1) hw_6 ?_
  refine iif_eqF (a := 1) (tgt := 38) hx hb (by decide) dX3_addFour_12 (by decide) (by decide) ?_
  refine lv_aload_n hx hb dX3_addFour_15 rfl (lv_at hl 1 rfl) ?_
  refine va_get (D := D) (ci := 3) (v := .ref h1) (C := RX3) (T := TX3) (N := 2) hx hb hts (fun _ h => List.mem_cons_of_mem _ (List.mem_append_right _ h)) hown hK hP 0 rfl rfl 0 (by decide) (hts (.fieldLink RX3 9 "CrownTable$Tape" "bytes" "[B") (mem_i 1 rfl)) (fun _ h9 => h9) rfl dX3_addFour_16 ?_
  refine lv_aload_n hx hb dX3_addFour_19 rfl (lv_at hl 1 rfl) ?_
  refine va_get (D := D) (ci := 3) (v := .int 1) (C := RX3) (T := TX3) (N := 2) hx hb hts (fun _ h => List.mem_cons_of_mem _ (List.mem_append_right _ h)) hown hK hP 0 rfl rfl 1 (by decide) (hts (.fieldLink RX3 15 "CrownTable$Tape" "length" "I") (mem_i 2 rfl)) (fun _ h9 => h9) rfl dX3_addFour_20 ?_
  refine lv_iload_n hx hb dX3_addFour_23 rfl (lv_at hl 2 rfl) ?_
  refine lv_iload_n hx hb dX3_addFour_24 rfl (lv_at hl 0 rfl) ?_
  refine lv_iushr hx hb dX3_addFour_25 rfl ?_
  refine lv_topi (fun x_8 ex_8 => ?_)
  refine lv_i2b hx hb dX3_addFour_26 rfl ?_
  refine lv_topi (fun x_9 ex_9 => ?_)
  refine va_bast hx hb hK hP hD hS 1 0 rfl rfl (vin (a := 1) (by decide) (by decide) (by decide)) dX3_addFour_27 (fun H locs hP hD hS => ?_)
  obtain ⟨f_10, hP, hD⟩ : ∃ f_10 : Nat → Int32, va_P D vwCl [(h0, .inr (3, [.ref h1, .int 1])), (h1, .inl (c 0, 800, .inl f_10))] H ∧ va_D A [(h0, .inr (3, [.ref h1, .int 1])), (h1, .inl (c 0, 800, .inl f_10))] := ⟨_, hP, hD⟩
  refine lv_aload_n hx hb dX3_addFour_28 rfl (lv_at hl 1 rfl) ?_
  refine lv_dup hx hb dX3_addFour_29 rfl ?_
  refine va_get (D := D) (ci := 3) (v := .int 1) (C := RX3) (T := TX3) (N := 2) hx hb hts (fun _ h => List.mem_cons_of_mem _ (List.mem_append_right _ h)) hown hK hP 0 rfl rfl 1 (by decide) (hts (.fieldLink RX3 15 "CrownTable$Tape" "length" "I") (mem_i 2 rfl)) (fun _ h9 => h9) rfl dX3_addFour_30 ?_
  refine lv_iconst (v := 1) hx hb dX3_addFour_33 (by decide) ?_
  refine lv_iadd hx hb dX3_addFour_34 ?_
  refine lk_i (y := 2) (by decide) ?_
  refine va_put (D := D) (ci := 3) (v := .int 2) (ty := .int) (C := RX3) (T := TX3) (N := 2) hx hb hts (fun _ h => List.mem_cons_of_mem _ (List.mem_append_right _ h)) tyX3 tyX3_ok nmX3 hown hK hP hD hS 0 rfl rfl 1 (by decide) (hts (.fieldLink RX3 15 "CrownTable$Tape" "length" "I") (mem_i 2 rfl)) (fun _ h9 => h9) rfl (by decide +kernel) rfl rfl (Nat.le_of_ble_eq_true rfl) dX3_addFour_35 (fun H locs hP hD hS => ?_)
  have hP : va_P D vwCl [(h0, .inr (3, [.ref h1, .int 2])), (h1, .inl (c 0, 800, .inl f_10))] H := hP
  have hD : va_D A [(h0, .inr (3, [.ref h1, .int 2])), (h1, .inl (c 0, 800, .inl f_10))] := hD
  refine lv_iinc (v := 8) (lv' := [(2, .int 8), (0, .ref h0), (1, .int a1)]) hx hb dX3_addFour_38 hl (k := 0) rfl (by decide) (by decide) rfl (fun ls hl => ?_)
  refine lv_goto (tgt := 3) hx hb dX3_addFour_41 (by decide) ?_
  refine lv_iload_n hx hb dX3_addFour_3 rfl (lv_at hl 0 rfl) ?_
  refine iif_ltF (a := 8) (tgt := 44) hx hb (by decide) dX3_addFour_4 (by decide) (by decide) ?_
  refine lv_aload_n hx hb dX3_addFour_7 rfl (lv_at hl 1 rfl) ?_
  refine lv_iconst (v := 1) hx hb dX3_addFour_8 (by decide) ?_
  have hPc := hP.sub (ws' := [(h0, .inr (3, [.ref h1, .int 2]))]) [0] rfl
  have hDc := hD.sub (ws' := [(h0, .inr (3, [.ref h1, .int 2]))]) [0] (by decide) rfl
  have hFc := va_free (wc := [(h0, .inr (3, [.ref h1, .int 2]))]) hD hS hA [0] rfl
  refine va_csi (va_runV (As := [.int 1]) (rest := []) ⟨hx, hb, hml, hown, hts⟩ (c_X3_hasRoom_3 l D c ts H.size h0 h1) (cwV 1 hts gX3_addFour_X3_hasRoom rfl rfl rfl ⟨rfl, hdX3_hasRoom⟩ ⟨(show 0 + 1 ≤ 1 by decide), (show 8 + (2 + 11) + 0 ≤ 21 by decide)⟩) ⟨Pre0.blind, va_recv hK hPc (ci := 3) (q0 := 0) rfl rfl, Pre0.at hPc hDc hAm hSt hS hFc⟩ rfl rfl hl.1 rfl (lv_room (Nat.le_of_ble_eq_true rfl)) dX3_addFour_9 ⟨(show 0 + 0 ≤ 0 by decide), (show 0 + 0 ≤ 0 by decide)⟩) (fun r_12 hw_11 => ?_)
  refine lk_i (y := 1) hw_11 ?_
  refine iif_eqF (a := 1) (tgt := 38) hx hb (by decide) dX3_addFour_12 (by decide) (by decide) ?_
  refine lv_aload_n hx hb dX3_addFour_15 rfl (lv_at hl 1 rfl) ?_
  refine va_get (D := D) (ci := 3) (v := .ref h1) (C := RX3) (T := TX3) (N := 2) hx hb hts (fun _ h => List.mem_cons_of_mem _ (List.mem_append_right _ h)) hown hK hP 0 rfl rfl 0 (by decide) (hts (.fieldLink RX3 9 "CrownTable$Tape" "bytes" "[B") (mem_i 1 rfl)) (fun _ h9 => h9) rfl dX3_addFour_16 ?_
  refine lv_aload_n hx hb dX3_addFour_19 rfl (lv_at hl 1 rfl) ?_
  refine va_get (D := D) (ci := 3) (v := .int 2) (C := RX3) (T := TX3) (N := 2) hx hb hts (fun _ h => List.mem_cons_of_mem _ (List.mem_append_right _ h)) hown hK hP 0 rfl rfl 1 (by decide) (hts (.fieldLink RX3 15 "CrownTable$Tape" "length" "I") (mem_i 2 rfl)) (fun _ h9 => h9) rfl dX3_addFour_20 ?_
  refine lv_iload_n hx hb dX3_addFour_23 rfl (lv_at hl 2 rfl) ?_
  refine lv_iload_n hx hb dX3_addFour_24 rfl (lv_at hl 0 rfl) ?_
  refine lv_iushr hx hb dX3_addFour_25 rfl ?_
  refine lv_topi (fun x_13 ex_13 => ?_)
  refine lv_i2b hx hb dX3_addFour_26 rfl ?_
  refine lv_topi (fun x_14 ex_14 => ?_)
  refine va_bast hx hb hK hP hD hS 1 0 rfl rfl (vin (a := 2) (by decide) (by decide) (by decide)) dX3_addFour_27 (fun H locs hP hD hS => ?_)
  obtain ⟨f_15, hP, hD⟩ : ∃ f_15 : Nat → Int32, va_P D vwCl [(h0, .inr (3, [.ref h1, .int 2])), (h1, .inl (c 0, 800, .inl f_15))] H ∧ va_D A [(h0, .inr (3, [.ref h1, .int 2])), (h1, .inl (c 0, 800, .inl f_15))] := ⟨_, hP, hD⟩
  refine lv_aload_n hx hb dX3_addFour_28 rfl (lv_at hl 1 rfl) ?_
  refine lv_dup hx hb dX3_addFour_29 rfl ?_
  refine va_get (D := D) (ci := 3) (v := .int 2) (C := RX3) (T := TX3) (N := 2) hx hb hts (fun _ h => List.mem_cons_of_mem _ (List.mem_append_right _ h)) hown hK hP 0 rfl rfl 1 (by decide) (hts (.fieldLink RX3 15 "CrownTable$Tape" "length" "I") (mem_i 2 rfl)) (fun _ h9 => h9) rfl dX3_addFour_30 ?_
  refine lv_iconst (v := 1) hx hb dX3_addFour_33 (by decide) ?_
  refine lv_iadd hx hb dX3_addFour_34 ?_
  refine lk_i (y := 3) (by decide) ?_
  refine va_put (D := D) (ci := 3) (v := .int 3) (ty := .int) (C := RX3) (T := TX3) (N := 2) hx hb hts (fun _ h => List.mem_cons_of_mem _ (List.mem_append_right _ h)) tyX3 tyX3_ok nmX3 hown hK hP hD hS 0 rfl rfl 1 (by decide) (hts (.fieldLink RX3 15 "CrownTable$Tape" "length" "I") (mem_i 2 rfl)) (fun _ h9 => h9) rfl (by decide +kernel) rfl rfl (Nat.le_of_ble_eq_true rfl) dX3_addFour_35 (fun H locs hP hD hS => ?_)
  have hP : va_P D vwCl [(h0, .inr (3, [.ref h1, .int 3])), (h1, .inl (c 0, 800, .inl f_15))] H := hP
  have hD : va_D A [(h0, .inr (3, [.ref h1, .int 3])), (h1, .inl (c 0, 800, .inl f_15))] := hD
  refine lv_iinc (v := 0) (lv' := [(2, .int 0), (0, .ref h0), (1, .int a1)]) hx hb dX3_addFour_38 hl (k := 0) rfl (by decide) (by decide) rfl (fun ls hl => ?_)
  refine lv_goto (tgt := 3) hx hb dX3_addFour_41 (by decide) ?_
  refine lv_iload_n hx hb dX3_addFour_3 rfl (lv_at hl 0 rfl) ?_
  refine iif_ltF (a := 0) (tgt := 44) hx hb (by decide) dX3_addFour_4 (by decide) (by decide) ?_
  refine lv_aload_n hx hb dX3_addFour_7 rfl (lv_at hl 1 rfl) ?_
  refine lv_iconst (v := 1) hx hb dX3_addFour_8 (by decide) ?_
  have hPc := hP.sub (ws' := [(h0, .inr (3, [.ref h1, .int 3]))]) [0] rfl
  have hDc := hD.sub (ws' := [(h0, .inr (3, [.ref h1, .int 3]))]) [0] (by decide) rfl
  have hFc := va_free (wc := [(h0, .inr (3, [.ref h1, .int 3]))]) hD hS hA [0] rfl
  refine va_csi (va_runV (As := [.int 1]) (rest := []) ⟨hx, hb, hml, hown, hts⟩ (c_X3_hasRoom_4 l D c ts H.size h0 h1) (cwV 1 hts gX3_addFour_X3_hasRoom rfl rfl rfl ⟨rfl, hdX3_hasRoom⟩ ⟨(show 0 + 1 ≤ 1 by decide), (show 8 + (2 + 11) + 0 ≤ 21 by decide)⟩) ⟨Pre0.blind, va_recv hK hPc (ci := 3) (q0 := 0) rfl rfl, Pre0.at hPc hDc hAm hSt hS hFc⟩ rfl rfl hl.1 rfl (lv_room (Nat.le_of_ble_eq_true rfl)) dX3_addFour_9 ⟨(show 0 + 0 ≤ 0 by decide), (show 0 + 0 ≤ 0 by decide)⟩) (fun r_17 hw_16 => ?_)
  refine lk_i (y := 1) hw_16 ?_
  refine iif_eqF (a := 1) (tgt := 38) hx hb (by decide) dX3_addFour_12 (by decide) (by decide) ?_
  refine lv_aload_n hx hb dX3_addFour_15 rfl (lv_at hl 1 rfl) ?_
  refine va_get (D := D) (ci := 3) (v := .ref h1) (C := RX3) (T := TX3) (N := 2) hx hb hts (fun _ h => List.mem_cons_of_mem _ (List.mem_append_right _ h)) hown hK hP 0 rfl rfl 0 (by decide) (hts (.fieldLink RX3 9 "CrownTable$Tape" "bytes" "[B") (mem_i 1 rfl)) (fun _ h9 => h9) rfl dX3_addFour_16 ?_
  refine lv_aload_n hx hb dX3_addFour_19 rfl (lv_at hl 1 rfl) ?_
  refine va_get (D := D) (ci := 3) (v := .int 3) (C := RX3) (T := TX3) (N := 2) hx hb hts (fun _ h => List.mem_cons_of_mem _ (List.mem_append_right _ h)) hown hK hP 0 rfl rfl 1 (by decide) (hts (.fieldLink RX3 15 "CrownTable$Tape" "length" "I") (mem_i 2 rfl)) (fun _ h9 => h9) rfl dX3_addFour_20 ?_
  refine lv_iload_n hx hb dX3_addFour_23 rfl (lv_at hl 2 rfl) ?_
  refine lv_iload_n hx hb dX3_addFour_24 rfl (lv_at hl 0 rfl) ?_
  refine lv_iushr hx hb dX3_addFour_25 rfl ?_
  refine lv_topi (fun x_18 ex_18 => ?_)
  refine lv_i2b hx hb dX3_addFour_26 rfl ?_
  refine lv_topi (fun x_19 ex_19 => ?_)
  refine va_bast hx hb hK hP hD hS 1 0 rfl rfl (vin (a := 3) (by decide) (by decide) (by decide)) dX3_addFour_27 (fun H locs hP hD hS => ?_)
  obtain ⟨f_20, hP, hD⟩ : ∃ f_20 : Nat → Int32, va_P D vwCl [(h0, .inr (3, [.ref h1, .int 3])), (h1, .inl (c 0, 800, .inl f_20))] H ∧ va_D A [(h0, .inr (3, [.ref h1, .int 3])), (h1, .inl (c 0, 800, .inl f_20))] := ⟨_, hP, hD⟩
  refine lv_aload_n hx hb dX3_addFour_28 rfl (lv_at hl 1 rfl) ?_
  refine lv_dup hx hb dX3_addFour_29 rfl ?_
  refine va_get (D := D) (ci := 3) (v := .int 3) (C := RX3) (T := TX3) (N := 2) hx hb hts (fun _ h => List.mem_cons_of_mem _ (List.mem_append_right _ h)) hown hK hP 0 rfl rfl 1 (by decide) (hts (.fieldLink RX3 15 "CrownTable$Tape" "length" "I") (mem_i 2 rfl)) (fun _ h9 => h9) rfl dX3_addFour_30 ?_
  refine lv_iconst (v := 1) hx hb dX3_addFour_33 (by decide) ?_
  refine lv_iadd hx hb dX3_addFour_34 ?_
  refine lk_i (y := 4) (by decide) ?_
  refine va_put (D := D) (ci := 3) (v := .int 4) (ty := .int) (C := RX3) (T := TX3) (N := 2) hx hb hts (fun _ h => List.mem_cons_of_mem _ (List.mem_append_right _ h)) tyX3 tyX3_ok nmX3 hown hK hP hD hS 0 rfl rfl 1 (by decide) (hts (.fieldLink RX3 15 "CrownTable$Tape" "length" "I") (mem_i 2 rfl)) (fun _ h9 => h9) rfl (by decide +kernel) rfl rfl (Nat.le_of_ble_eq_true rfl) dX3_addFour_35 (fun H locs hP hD hS => ?_)
  have hP : va_P D vwCl [(h0, .inr (3, [.ref h1, .int 4])), (h1, .inl (c 0, 800, .inl f_20))] H := hP
  have hD : va_D A [(h0, .inr (3, [.ref h1, .int 4])), (h1, .inl (c 0, 800, .inl f_20))] := hD
  refine lv_iinc (v := (-8)) (lv' := [(2, .int (-8)), (0, .ref h0), (1, .int a1)]) hx hb dX3_addFour_38 hl (k := 0) rfl (by decide) (by decide) rfl (fun ls hl => ?_)
  refine lv_goto (tgt := 3) hx hb dX3_addFour_41 (by decide) ?_
  refine lv_iload_n hx hb dX3_addFour_3 rfl (lv_at hl 0 rfl) ?_
  refine iif_ltT (a := (-8)) (tgt := 44) hx hb (by decide) dX3_addFour_4 (by decide) (by decide) ?_
  have hP9 := hP.sub (ws' := [(h0, .inr (3, [.ref h1, .int 4])), (h1, .inl (c 0, 800, .inl f_20))]) [0, 1] rfl
  have hD9 := hD.sub (ws' := [(h0, .inr (3, [.ref h1, .int 4])), (h1, .inl (c 0, 800, .inl f_20))]) [0, 1] (by decide) rfl
  refine W.widen (k := 0) (n := 0) (by omega) (by omega) ?_
  exact W.vret hx hb hr (fun t ht hW => ⟨⟨(fun k => [].getD k 0, fun k => [f_20].getD k (fun _ => 0), fun k => [].getD k (fun _ => 0)), rfl, trivial, ⟨by rw [ht]; exact hP9, hD9⟩⟩, hS.F ht⟩) hS.2.2 dX3_addFour_44

set_option maxHeartbeats 4000000 in
set_option maxRecDepth 100000 in
theorem c_X3_hasRoom_5 (l : Launch) (D : va_G) (c : Nat → ClassId) (ts : Nat × Nat) (sz : Nat) (h0 : Nat) (h1 : Nat) : Met l yX3_hasRoom wsX3_hasRoom ({ frames := 0, cells := 0, slots := 0, locals := 0 }) (va_Pc [.ref h0, .int 1] (Pre0 D c ts [(h0, .inr (3, [.ref h1, .int 4]))] sz)) (vp_Si (fun r : Int32 => r = 1)) 0 0 (fun _ => False) := by
  refine Met.ofW (cc := cX3_hasRoom) (maxL := 2) (ret := (some .boolean)) (by decide) rfl ?_
  intro p e s m args below meth cd s₁ B hml hv
  obtain ⟨rfl, hsz, hP, hD0, hAm, hSt⟩ := hv
  have hx := B.exec
  have hb := B.bytes
  have hr := B.returns
  have hts := atoms_spec (ws := wsX3_hasRoom) B.pre
  have hown : s.vm.findClass RX3 = some m.cls := findClass_of_methodNamed B.named
  have hlocks := B.notSynchronized
  subst hsz
  have hK := hAm.1
  have hD := hD0.self (sz := s.heap.size)
  generalize hAe : va_A [(h0, .inr (3, [.ref h1, .int 4]))] s.heap.size = A at hD hSt
  have hA : ∀ q : Nat, s.heap.size ≤ q → A q := fun q h => by rw [← hAe]; exact Or.inr h
  have hS : va_S A s.heap s.heap [] := va_S.rf
  clear hD0 hAe
  have hl := lv_entry ([.ref h0, .int 1]) (n := 2) (Nat.le_of_ble_eq_true rfl)
  rw [lg_entry_eq]
  generalize (lg_sl ([.ref h0, .int 1]) ++ List.replicate (2 - (lg_sl ([.ref h0, .int 1])).length) Slot.unset).toArray = ls at hl ⊢
  have hl : lv_has ls 2 [(0, .ref h0), (1, .int 1)] := hl
  refine lv_aload_n hx hb dX3_hasRoom_0 rfl (lv_at hl 0 rfl) ?_
  refine va_get (D := D) (ci := 3) (v := .int 4) (C := RX3) (T := TX3) (N := 2) hx hb hts (fun _ h => List.mem_cons_of_mem _ (List.mem_append_right _ h)) hown hK hP 0 rfl rfl 1 (by decide) (hts (.fieldLink RX3 15 "CrownTable$Tape" "length" "I") (mem_i 1 rfl)) (fun _ h9 => h9) rfl dX3_hasRoom_1 ?_
  refine lv_iload_n hx hb dX3_hasRoom_4 rfl (lv_at hl 1 rfl) ?_
  refine lv_iadd hx hb dX3_hasRoom_5 ?_
  refine lk_i (y := 5) (by decide) ?_
  refine lv_sipush (v := 800) hx hb dX3_hasRoom_6 (by decide) ?_
  refine iicmp_gtF (a := 5) (b := 800) (tgt := 16) hx hb (by decide) (by decide) dX3_hasRoom_9 (by decide) (by decide) ?_
  refine lv_iconst (v := 1) hx hb dX3_hasRoom_12 (by decide) ?_
  refine lv_goto (tgt := 17) hx hb dX3_hasRoom_13 (by decide) ?_
  exact W.zret (v := 1) hx hb hr (by decide) (fun t ht hW => ⟨_, rfl, rfl, ht⟩) (fun _ h => by cases h) dX3_hasRoom_17

set_option maxHeartbeats 4000000 in
set_option maxRecDepth 100000 in
theorem c_X3_hasRoom_6 (l : Launch) (D : va_G) (c : Nat → ClassId) (ts : Nat × Nat) (sz : Nat) (h0 : Nat) (h1 : Nat) : Met l yX3_hasRoom wsX3_hasRoom ({ frames := 0, cells := 0, slots := 0, locals := 0 }) (va_Pc [.ref h0, .int 1] (Pre0 D c ts [(h0, .inr (3, [.ref h1, .int 5]))] sz)) (vp_Si (fun r : Int32 => r = 1)) 0 0 (fun _ => False) := by
  refine Met.ofW (cc := cX3_hasRoom) (maxL := 2) (ret := (some .boolean)) (by decide) rfl ?_
  intro p e s m args below meth cd s₁ B hml hv
  obtain ⟨rfl, hsz, hP, hD0, hAm, hSt⟩ := hv
  have hx := B.exec
  have hb := B.bytes
  have hr := B.returns
  have hts := atoms_spec (ws := wsX3_hasRoom) B.pre
  have hown : s.vm.findClass RX3 = some m.cls := findClass_of_methodNamed B.named
  have hlocks := B.notSynchronized
  subst hsz
  have hK := hAm.1
  have hD := hD0.self (sz := s.heap.size)
  generalize hAe : va_A [(h0, .inr (3, [.ref h1, .int 5]))] s.heap.size = A at hD hSt
  have hA : ∀ q : Nat, s.heap.size ≤ q → A q := fun q h => by rw [← hAe]; exact Or.inr h
  have hS : va_S A s.heap s.heap [] := va_S.rf
  clear hD0 hAe
  have hl := lv_entry ([.ref h0, .int 1]) (n := 2) (Nat.le_of_ble_eq_true rfl)
  rw [lg_entry_eq]
  generalize (lg_sl ([.ref h0, .int 1]) ++ List.replicate (2 - (lg_sl ([.ref h0, .int 1])).length) Slot.unset).toArray = ls at hl ⊢
  have hl : lv_has ls 2 [(0, .ref h0), (1, .int 1)] := hl
  refine lv_aload_n hx hb dX3_hasRoom_0 rfl (lv_at hl 0 rfl) ?_
  refine va_get (D := D) (ci := 3) (v := .int 5) (C := RX3) (T := TX3) (N := 2) hx hb hts (fun _ h => List.mem_cons_of_mem _ (List.mem_append_right _ h)) hown hK hP 0 rfl rfl 1 (by decide) (hts (.fieldLink RX3 15 "CrownTable$Tape" "length" "I") (mem_i 1 rfl)) (fun _ h9 => h9) rfl dX3_hasRoom_1 ?_
  refine lv_iload_n hx hb dX3_hasRoom_4 rfl (lv_at hl 1 rfl) ?_
  refine lv_iadd hx hb dX3_hasRoom_5 ?_
  refine lk_i (y := 6) (by decide) ?_
  refine lv_sipush (v := 800) hx hb dX3_hasRoom_6 (by decide) ?_
  refine iicmp_gtF (a := 6) (b := 800) (tgt := 16) hx hb (by decide) (by decide) dX3_hasRoom_9 (by decide) (by decide) ?_
  refine lv_iconst (v := 1) hx hb dX3_hasRoom_12 (by decide) ?_
  refine lv_goto (tgt := 17) hx hb dX3_hasRoom_13 (by decide) ?_
  exact W.zret (v := 1) hx hb hr (by decide) (fun t ht hW => ⟨_, rfl, rfl, ht⟩) (fun _ h => by cases h) dX3_hasRoom_17

set_option maxHeartbeats 4000000 in
set_option maxRecDepth 100000 in
theorem c_X3_hasRoom_7 (l : Launch) (D : va_G) (c : Nat → ClassId) (ts : Nat × Nat) (sz : Nat) (h0 : Nat) (h1 : Nat) : Met l yX3_hasRoom wsX3_hasRoom ({ frames := 0, cells := 0, slots := 0, locals := 0 }) (va_Pc [.ref h0, .int 1] (Pre0 D c ts [(h0, .inr (3, [.ref h1, .int 6]))] sz)) (vp_Si (fun r : Int32 => r = 1)) 0 0 (fun _ => False) := by
  refine Met.ofW (cc := cX3_hasRoom) (maxL := 2) (ret := (some .boolean)) (by decide) rfl ?_
  intro p e s m args below meth cd s₁ B hml hv
  obtain ⟨rfl, hsz, hP, hD0, hAm, hSt⟩ := hv
  have hx := B.exec
  have hb := B.bytes
  have hr := B.returns
  have hts := atoms_spec (ws := wsX3_hasRoom) B.pre
  have hown : s.vm.findClass RX3 = some m.cls := findClass_of_methodNamed B.named
  have hlocks := B.notSynchronized
  subst hsz
  have hK := hAm.1
  have hD := hD0.self (sz := s.heap.size)
  generalize hAe : va_A [(h0, .inr (3, [.ref h1, .int 6]))] s.heap.size = A at hD hSt
  have hA : ∀ q : Nat, s.heap.size ≤ q → A q := fun q h => by rw [← hAe]; exact Or.inr h
  have hS : va_S A s.heap s.heap [] := va_S.rf
  clear hD0 hAe
  have hl := lv_entry ([.ref h0, .int 1]) (n := 2) (Nat.le_of_ble_eq_true rfl)
  rw [lg_entry_eq]
  generalize (lg_sl ([.ref h0, .int 1]) ++ List.replicate (2 - (lg_sl ([.ref h0, .int 1])).length) Slot.unset).toArray = ls at hl ⊢
  have hl : lv_has ls 2 [(0, .ref h0), (1, .int 1)] := hl
  refine lv_aload_n hx hb dX3_hasRoom_0 rfl (lv_at hl 0 rfl) ?_
  refine va_get (D := D) (ci := 3) (v := .int 6) (C := RX3) (T := TX3) (N := 2) hx hb hts (fun _ h => List.mem_cons_of_mem _ (List.mem_append_right _ h)) hown hK hP 0 rfl rfl 1 (by decide) (hts (.fieldLink RX3 15 "CrownTable$Tape" "length" "I") (mem_i 1 rfl)) (fun _ h9 => h9) rfl dX3_hasRoom_1 ?_
  refine lv_iload_n hx hb dX3_hasRoom_4 rfl (lv_at hl 1 rfl) ?_
  refine lv_iadd hx hb dX3_hasRoom_5 ?_
  refine lk_i (y := 7) (by decide) ?_
  refine lv_sipush (v := 800) hx hb dX3_hasRoom_6 (by decide) ?_
  refine iicmp_gtF (a := 7) (b := 800) (tgt := 16) hx hb (by decide) (by decide) dX3_hasRoom_9 (by decide) (by decide) ?_
  refine lv_iconst (v := 1) hx hb dX3_hasRoom_12 (by decide) ?_
  refine lv_goto (tgt := 17) hx hb dX3_hasRoom_13 (by decide) ?_
  exact W.zret (v := 1) hx hb hr (by decide) (fun t ht hW => ⟨_, rfl, rfl, ht⟩) (fun _ h => by cases h) dX3_hasRoom_17

set_option maxHeartbeats 4000000 in
set_option maxRecDepth 100000 in
theorem c_X3_hasRoom_8 (l : Launch) (D : va_G) (c : Nat → ClassId) (ts : Nat × Nat) (sz : Nat) (h0 : Nat) (h1 : Nat) : Met l yX3_hasRoom wsX3_hasRoom ({ frames := 0, cells := 0, slots := 0, locals := 0 }) (va_Pc [.ref h0, .int 1] (Pre0 D c ts [(h0, .inr (3, [.ref h1, .int 7]))] sz)) (vp_Si (fun r : Int32 => r = 1)) 0 0 (fun _ => False) := by
  refine Met.ofW (cc := cX3_hasRoom) (maxL := 2) (ret := (some .boolean)) (by decide) rfl ?_
  intro p e s m args below meth cd s₁ B hml hv
  obtain ⟨rfl, hsz, hP, hD0, hAm, hSt⟩ := hv
  have hx := B.exec
  have hb := B.bytes
  have hr := B.returns
  have hts := atoms_spec (ws := wsX3_hasRoom) B.pre
  have hown : s.vm.findClass RX3 = some m.cls := findClass_of_methodNamed B.named
  have hlocks := B.notSynchronized
  subst hsz
  have hK := hAm.1
  have hD := hD0.self (sz := s.heap.size)
  generalize hAe : va_A [(h0, .inr (3, [.ref h1, .int 7]))] s.heap.size = A at hD hSt
  have hA : ∀ q : Nat, s.heap.size ≤ q → A q := fun q h => by rw [← hAe]; exact Or.inr h
  have hS : va_S A s.heap s.heap [] := va_S.rf
  clear hD0 hAe
  have hl := lv_entry ([.ref h0, .int 1]) (n := 2) (Nat.le_of_ble_eq_true rfl)
  rw [lg_entry_eq]
  generalize (lg_sl ([.ref h0, .int 1]) ++ List.replicate (2 - (lg_sl ([.ref h0, .int 1])).length) Slot.unset).toArray = ls at hl ⊢
  have hl : lv_has ls 2 [(0, .ref h0), (1, .int 1)] := hl
  refine lv_aload_n hx hb dX3_hasRoom_0 rfl (lv_at hl 0 rfl) ?_
  refine va_get (D := D) (ci := 3) (v := .int 7) (C := RX3) (T := TX3) (N := 2) hx hb hts (fun _ h => List.mem_cons_of_mem _ (List.mem_append_right _ h)) hown hK hP 0 rfl rfl 1 (by decide) (hts (.fieldLink RX3 15 "CrownTable$Tape" "length" "I") (mem_i 1 rfl)) (fun _ h9 => h9) rfl dX3_hasRoom_1 ?_
  refine lv_iload_n hx hb dX3_hasRoom_4 rfl (lv_at hl 1 rfl) ?_
  refine lv_iadd hx hb dX3_hasRoom_5 ?_
  refine lk_i (y := 8) (by decide) ?_
  refine lv_sipush (v := 800) hx hb dX3_hasRoom_6 (by decide) ?_
  refine iicmp_gtF (a := 8) (b := 800) (tgt := 16) hx hb (by decide) (by decide) dX3_hasRoom_9 (by decide) (by decide) ?_
  refine lv_iconst (v := 1) hx hb dX3_hasRoom_12 (by decide) ?_
  refine lv_goto (tgt := 17) hx hb dX3_hasRoom_13 (by decide) ?_
  exact W.zret (v := 1) hx hb hr (by decide) (fun t ht hW => ⟨_, rfl, rfl, ht⟩) (fun _ h => by cases h) dX3_hasRoom_17

set_option maxHeartbeats 4000000 in
set_option maxRecDepth 100000 in
theorem c_X3_addFour_1 (l : Launch) (D : va_G) (c : Nat → ClassId) (ts : Nat × Nat) (sz : Nat) (h0 : Nat) (h1 : Nat) (f0 : Nat → Int32) (a1 : Int32) (i_a1 : Int) (hi_a1 : a1.toInt = i_a1) : Met l yX3_addFour wsX3_addFour ({ frames := 1, cells := 0, slots := 0, locals := 21 }) (va_Pc [.ref h0, .int a1] (Pre0 D c ts [(h0, .inr (3, [.ref h1, .int 4])), (h1, .inl (c 0, 800, .inl f0))] sz)) (va_Qv (fun (u : (Nat → Nat) × (Nat → Nat → Int32) × (Nat → Nat → Int64)) => True) (fun u t => va_P D vwCl [(h0, .inr (3, [.ref h1, .int 8])), (h1, .inl (c 0, 800, .inl (u.2.1 0)))] t.heap ∧ va_D (va_A [(h0, .inr (3, [.ref h1, .int 4])), (h1, .inl (c 0, 800, .inl f0))] sz) [(h0, .inr (3, [.ref h1, .int 8])), (h1, .inl (c 0, 800, .inl (u.2.1 0)))]) (va_A [(h0, .inr (3, [.ref h1, .int 4])), (h1, .inl (c 0, 800, .inl f0))] sz)) 0 0 (va_A [(h0, .inr (3, [.ref h1, .int 4])), (h1, .inl (c 0, 800, .inl f0))] sz) := by
  refine Met.ofW (cc := cX3_addFour) (maxL := 3) (ret := none) (by decide) rfl ?_
  intro p e s m args below meth cd s₁ B hml hv
  obtain ⟨rfl, hsz, hP, hD0, hAm, hSt⟩ := hv
  have hx := B.exec
  have hb := B.bytes
  have hr := B.returns
  have hts := atoms_spec (ws := wsX3_addFour) B.pre
  have hown : s.vm.findClass RX3 = some m.cls := findClass_of_methodNamed B.named
  have hlocks := B.notSynchronized
  subst hsz
  have hK := hAm.1
  have hD := hD0.self (sz := s.heap.size)
  generalize hAe : va_A [(h0, .inr (3, [.ref h1, .int 4])), (h1, .inl (c 0, 800, .inl f0))] s.heap.size = A at hD hSt ⊢
  have hA : ∀ q : Nat, s.heap.size ≤ q → A q := fun q h => by rw [← hAe]; exact Or.inr h
  have hS : va_S A s.heap s.heap [] := va_S.rf
  clear hD0 hAe
  have hl := lv_entry ([.ref h0, .int a1]) (n := 3) (Nat.le_of_ble_eq_true rfl)
  rw [lg_entry_eq]
  generalize (lg_sl ([.ref h0, .int a1]) ++ List.replicate (3 - (lg_sl ([.ref h0, .int a1])).length) Slot.unset).toArray = ls at hl ⊢
  have hl : lv_has ls 3 [(0, .ref h0), (1, .int a1)] := hl
  refine lv_bipush (v := 24) hx hb dX3_addFour_0 (by decide) ?_
  refine lv_istore_n (lv' := [(2, .int 24), (0, .ref h0), (1, .int a1)]) hx hb dX3_addFour_2 rfl hl (by decide) rfl (fun ls hl => ?_)
  refine lv_iload_n hx hb dX3_addFour_3 rfl (lv_at hl 0 rfl) ?_
  refine iif_ltF (a := 24) (tgt := 44) hx hb (by decide) dX3_addFour_4 (by decide) (by decide) ?_
  refine lv_aload_n hx hb dX3_addFour_7 rfl (lv_at hl 1 rfl) ?_
  refine lv_iconst (v := 1) hx hb dX3_addFour_8 (by decide) ?_
  have hPc := hP.sub (ws' := [(h0, .inr (3, [.ref h1, .int 4]))]) [0] rfl
  have hDc := hD.sub (ws' := [(h0, .inr (3, [.ref h1, .int 4]))]) [0] (by decide) rfl
  have hFc := va_free (wc := [(h0, .inr (3, [.ref h1, .int 4]))]) hD hS hA [0] rfl
  refine va_csi (va_runV (As := [.int 1]) (rest := []) ⟨hx, hb, hml, hown, hts⟩ (c_X3_hasRoom_5 l D c ts s.heap.size h0 h1) (cwV 1 hts gX3_addFour_X3_hasRoom rfl rfl rfl ⟨rfl, hdX3_hasRoom⟩ ⟨(show 0 + 1 ≤ 1 by decide), (show 8 + (2 + 11) + 0 ≤ 21 by decide)⟩) ⟨Pre0.blind, va_recv hK hPc (ci := 3) (q0 := 0) rfl rfl, Pre0.at hPc hDc hAm hSt hS hFc⟩ rfl rfl hl.1 rfl (lv_room (Nat.le_of_ble_eq_true rfl)) dX3_addFour_9 ⟨(show 0 + 0 ≤ 0 by decide), (show 0 + 0 ≤ 0 by decide)⟩) (fun r_2 hw_1 => ?_)
  refine lk_i (y := 1) hw_1 ?_
  refine iif_eqF (a := 1) (tgt := 38) hx hb (by decide) dX3_addFour_12 (by decide) (by decide) ?_
  refine lv_aload_n hx hb dX3_addFour_15 rfl (lv_at hl 1 rfl) ?_
  refine va_get (D := D) (ci := 3) (v := .ref h1) (C := RX3) (T := TX3) (N := 2) hx hb hts (fun _ h => List.mem_cons_of_mem _ (List.mem_append_right _ h)) hown hK hP 0 rfl rfl 0 (by decide) (hts (.fieldLink RX3 9 "CrownTable$Tape" "bytes" "[B") (mem_i 1 rfl)) (fun _ h9 => h9) rfl dX3_addFour_16 ?_
  refine lv_aload_n hx hb dX3_addFour_19 rfl (lv_at hl 1 rfl) ?_
  refine va_get (D := D) (ci := 3) (v := .int 4) (C := RX3) (T := TX3) (N := 2) hx hb hts (fun _ h => List.mem_cons_of_mem _ (List.mem_append_right _ h)) hown hK hP 0 rfl rfl 1 (by decide) (hts (.fieldLink RX3 15 "CrownTable$Tape" "length" "I") (mem_i 2 rfl)) (fun _ h9 => h9) rfl dX3_addFour_20 ?_
  refine lv_iload_n hx hb dX3_addFour_23 rfl (lv_at hl 2 rfl) ?_
  refine lv_iload_n hx hb dX3_addFour_24 rfl (lv_at hl 0 rfl) ?_
  refine lv_iushr hx hb dX3_addFour_25 rfl ?_
  refine lv_topi (fun x_3 ex_3 => ?_)
  refine lv_i2b hx hb dX3_addFour_26 rfl ?_
  refine lv_topi (fun x_4 ex_4 => ?_)
  refine va_bast hx hb hK hP hD hS 1 0 rfl rfl (vin (a := 4) (by decide) (by decide) (by decide)) dX3_addFour_27 (fun H locs hP hD hS => ?_)
  obtain ⟨f_5, hP, hD⟩ : ∃ f_5 : Nat → Int32, va_P D vwCl [(h0, .inr (3, [.ref h1, .int 4])), (h1, .inl (c 0, 800, .inl f_5))] H ∧ va_D A [(h0, .inr (3, [.ref h1, .int 4])), (h1, .inl (c 0, 800, .inl f_5))] := ⟨_, hP, hD⟩
  refine lv_aload_n hx hb dX3_addFour_28 rfl (lv_at hl 1 rfl) ?_
  refine lv_dup hx hb dX3_addFour_29 rfl ?_
  refine va_get (D := D) (ci := 3) (v := .int 4) (C := RX3) (T := TX3) (N := 2) hx hb hts (fun _ h => List.mem_cons_of_mem _ (List.mem_append_right _ h)) hown hK hP 0 rfl rfl 1 (by decide) (hts (.fieldLink RX3 15 "CrownTable$Tape" "length" "I") (mem_i 2 rfl)) (fun _ h9 => h9) rfl dX3_addFour_30 ?_
  refine lv_iconst (v := 1) hx hb dX3_addFour_33 (by decide) ?_
  refine lv_iadd hx hb dX3_addFour_34 ?_
  refine lk_i (y := 5) (by decide) ?_
  refine va_put (D := D) (ci := 3) (v := .int 5) (ty := .int) (C := RX3) (T := TX3) (N := 2) hx hb hts (fun _ h => List.mem_cons_of_mem _ (List.mem_append_right _ h)) tyX3 tyX3_ok nmX3 hown hK hP hD hS 0 rfl rfl 1 (by decide) (hts (.fieldLink RX3 15 "CrownTable$Tape" "length" "I") (mem_i 2 rfl)) (fun _ h9 => h9) rfl (by decide +kernel) rfl rfl (Nat.le_of_ble_eq_true rfl) dX3_addFour_35 (fun H locs hP hD hS => ?_)
  have hP : va_P D vwCl [(h0, .inr (3, [.ref h1, .int 5])), (h1, .inl (c 0, 800, .inl f_5))] H := hP
  have hD : va_D A [(h0, .inr (3, [.ref h1, .int 5])), (h1, .inl (c 0, 800, .inl f_5))] := hD
  refine lv_iinc (v := 16) (lv' := [(2, .int 16), (0, .ref h0), (1, .int a1)]) hx hb dX3_addFour_38 hl (k := 0) rfl (by decide) (by decide) rfl (fun ls hl => ?_)
  refine lv_goto (tgt := 3) hx hb dX3_addFour_41 (by decide) ?_
  refine lv_iload_n hx hb dX3_addFour_3 rfl (lv_at hl 0 rfl) ?_
  refine iif_ltF (a := 16) (tgt := 44) hx hb (by decide) dX3_addFour_4 (by decide) (by decide) ?_
  refine lv_aload_n hx hb dX3_addFour_7 rfl (lv_at hl 1 rfl) ?_
  refine lv_iconst (v := 1) hx hb dX3_addFour_8 (by decide) ?_
  have hPc := hP.sub (ws' := [(h0, .inr (3, [.ref h1, .int 5]))]) [0] rfl
  have hDc := hD.sub (ws' := [(h0, .inr (3, [.ref h1, .int 5]))]) [0] (by decide) rfl
  have hFc := va_free (wc := [(h0, .inr (3, [.ref h1, .int 5]))]) hD hS hA [0] rfl
  refine va_csi (va_runV (As := [.int 1]) (rest := []) ⟨hx, hb, hml, hown, hts⟩ (c_X3_hasRoom_6 l D c ts H.size h0 h1) (cwV 1 hts gX3_addFour_X3_hasRoom rfl rfl rfl ⟨rfl, hdX3_hasRoom⟩ ⟨(show 0 + 1 ≤ 1 by decide), (show 8 + (2 + 11) + 0 ≤ 21 by decide)⟩) ⟨Pre0.blind, va_recv hK hPc (ci := 3) (q0 := 0) rfl rfl, Pre0.at hPc hDc hAm hSt hS hFc⟩ rfl rfl hl.1 rfl (lv_room (Nat.le_of_ble_eq_true rfl)) dX3_addFour_9 ⟨(show 0 + 0 ≤ 0 by decide), (show 0 + 0 ≤ 0 by decide)⟩) (fun r_7 hw_6 => ?_)
  refine lk_i (y := 1) hw_6 ?_
  refine iif_eqF (a := 1) (tgt := 38) hx hb (by decide) dX3_addFour_12 (by decide) (by decide) ?_
  refine lv_aload_n hx hb dX3_addFour_15 rfl (lv_at hl 1 rfl) ?_
  refine va_get (D := D) (ci := 3) (v := .ref h1) (C := RX3) (T := TX3) (N := 2) hx hb hts (fun _ h => List.mem_cons_of_mem _ (List.mem_append_right _ h)) hown hK hP 0 rfl rfl 0 (by decide) (hts (.fieldLink RX3 9 "CrownTable$Tape" "bytes" "[B") (mem_i 1 rfl)) (fun _ h9 => h9) rfl dX3_addFour_16 ?_
  refine lv_aload_n hx hb dX3_addFour_19 rfl (lv_at hl 1 rfl) ?_
  refine va_get (D := D) (ci := 3) (v := .int 5) (C := RX3) (T := TX3) (N := 2) hx hb hts (fun _ h => List.mem_cons_of_mem _ (List.mem_append_right _ h)) hown hK hP 0 rfl rfl 1 (by decide) (hts (.fieldLink RX3 15 "CrownTable$Tape" "length" "I") (mem_i 2 rfl)) (fun _ h9 => h9) rfl dX3_addFour_20 ?_
  refine lv_iload_n hx hb dX3_addFour_23 rfl (lv_at hl 2 rfl) ?_
  refine lv_iload_n hx hb dX3_addFour_24 rfl (lv_at hl 0 rfl) ?_
  refine lv_iushr hx hb dX3_addFour_25 rfl ?_
  refine lv_topi (fun x_8 ex_8 => ?_)
  refine lv_i2b hx hb dX3_addFour_26 rfl ?_
  refine lv_topi (fun x_9 ex_9 => ?_)
  refine va_bast hx hb hK hP hD hS 1 0 rfl rfl (vin (a := 5) (by decide) (by decide) (by decide)) dX3_addFour_27 (fun H locs hP hD hS => ?_)
  obtain ⟨f_10, hP, hD⟩ : ∃ f_10 : Nat → Int32, va_P D vwCl [(h0, .inr (3, [.ref h1, .int 5])), (h1, .inl (c 0, 800, .inl f_10))] H ∧ va_D A [(h0, .inr (3, [.ref h1, .int 5])), (h1, .inl (c 0, 800, .inl f_10))] := ⟨_, hP, hD⟩
  refine lv_aload_n hx hb dX3_addFour_28 rfl (lv_at hl 1 rfl) ?_
  refine lv_dup hx hb dX3_addFour_29 rfl ?_
  refine va_get (D := D) (ci := 3) (v := .int 5) (C := RX3) (T := TX3) (N := 2) hx hb hts (fun _ h => List.mem_cons_of_mem _ (List.mem_append_right _ h)) hown hK hP 0 rfl rfl 1 (by decide) (hts (.fieldLink RX3 15 "CrownTable$Tape" "length" "I") (mem_i 2 rfl)) (fun _ h9 => h9) rfl dX3_addFour_30 ?_
  refine lv_iconst (v := 1) hx hb dX3_addFour_33 (by decide) ?_
  refine lv_iadd hx hb dX3_addFour_34 ?_
  refine lk_i (y := 6) (by decide) ?_
  refine va_put (D := D) (ci := 3) (v := .int 6) (ty := .int) (C := RX3) (T := TX3) (N := 2) hx hb hts (fun _ h => List.mem_cons_of_mem _ (List.mem_append_right _ h)) tyX3 tyX3_ok nmX3 hown hK hP hD hS 0 rfl rfl 1 (by decide) (hts (.fieldLink RX3 15 "CrownTable$Tape" "length" "I") (mem_i 2 rfl)) (fun _ h9 => h9) rfl (by decide +kernel) rfl rfl (Nat.le_of_ble_eq_true rfl) dX3_addFour_35 (fun H locs hP hD hS => ?_)
  have hP : va_P D vwCl [(h0, .inr (3, [.ref h1, .int 6])), (h1, .inl (c 0, 800, .inl f_10))] H := hP
  have hD : va_D A [(h0, .inr (3, [.ref h1, .int 6])), (h1, .inl (c 0, 800, .inl f_10))] := hD
  refine lv_iinc (v := 8) (lv' := [(2, .int 8), (0, .ref h0), (1, .int a1)]) hx hb dX3_addFour_38 hl (k := 0) rfl (by decide) (by decide) rfl (fun ls hl => ?_)
  refine lv_goto (tgt := 3) hx hb dX3_addFour_41 (by decide) ?_
  refine lv_iload_n hx hb dX3_addFour_3 rfl (lv_at hl 0 rfl) ?_
  refine iif_ltF (a := 8) (tgt := 44) hx hb (by decide) dX3_addFour_4 (by decide) (by decide) ?_
  refine lv_aload_n hx hb dX3_addFour_7 rfl (lv_at hl 1 rfl) ?_
  refine lv_iconst (v := 1) hx hb dX3_addFour_8 (by decide) ?_
  have hPc := hP.sub (ws' := [(h0, .inr (3, [.ref h1, .int 6]))]) [0] rfl
  have hDc := hD.sub (ws' := [(h0, .inr (3, [.ref h1, .int 6]))]) [0] (by decide) rfl
  have hFc := va_free (wc := [(h0, .inr (3, [.ref h1, .int 6]))]) hD hS hA [0] rfl
  refine va_csi (va_runV (As := [.int 1]) (rest := []) ⟨hx, hb, hml, hown, hts⟩ (c_X3_hasRoom_7 l D c ts H.size h0 h1) (cwV 1 hts gX3_addFour_X3_hasRoom rfl rfl rfl ⟨rfl, hdX3_hasRoom⟩ ⟨(show 0 + 1 ≤ 1 by decide), (show 8 + (2 + 11) + 0 ≤ 21 by decide)⟩) ⟨Pre0.blind, va_recv hK hPc (ci := 3) (q0 := 0) rfl rfl, Pre0.at hPc hDc hAm hSt hS hFc⟩ rfl rfl hl.1 rfl (lv_room (Nat.le_of_ble_eq_true rfl)) dX3_addFour_9 ⟨(show 0 + 0 ≤ 0 by decide), (show 0 + 0 ≤ 0 by decide)⟩) (fun r_12 hw_11 => ?_)
  refine lk_i (y := 1) hw_11 ?_
  refine iif_eqF (a := 1) (tgt := 38) hx hb (by decide) dX3_addFour_12 (by decide) (by decide) ?_
  refine lv_aload_n hx hb dX3_addFour_15 rfl (lv_at hl 1 rfl) ?_
  refine va_get (D := D) (ci := 3) (v := .ref h1) (C := RX3) (T := TX3) (N := 2) hx hb hts (fun _ h => List.mem_cons_of_mem _ (List.mem_append_right _ h)) hown hK hP 0 rfl rfl 0 (by decide) (hts (.fieldLink RX3 9 "CrownTable$Tape" "bytes" "[B") (mem_i 1 rfl)) (fun _ h9 => h9) rfl dX3_addFour_16 ?_
  refine lv_aload_n hx hb dX3_addFour_19 rfl (lv_at hl 1 rfl) ?_
  refine va_get (D := D) (ci := 3) (v := .int 6) (C := RX3) (T := TX3) (N := 2) hx hb hts (fun _ h => List.mem_cons_of_mem _ (List.mem_append_right _ h)) hown hK hP 0 rfl rfl 1 (by decide) (hts (.fieldLink RX3 15 "CrownTable$Tape" "length" "I") (mem_i 2 rfl)) (fun _ h9 => h9) rfl dX3_addFour_20 ?_
  refine lv_iload_n hx hb dX3_addFour_23 rfl (lv_at hl 2 rfl) ?_
  refine lv_iload_n hx hb dX3_addFour_24 rfl (lv_at hl 0 rfl) ?_
  refine lv_iushr hx hb dX3_addFour_25 rfl ?_
  refine lv_topi (fun x_13 ex_13 => ?_)
  refine lv_i2b hx hb dX3_addFour_26 rfl ?_
  refine lv_topi (fun x_14 ex_14 => ?_)
  refine va_bast hx hb hK hP hD hS 1 0 rfl rfl (vin (a := 6) (by decide) (by decide) (by decide)) dX3_addFour_27 (fun H locs hP hD hS => ?_)
  obtain ⟨f_15, hP, hD⟩ : ∃ f_15 : Nat → Int32, va_P D vwCl [(h0, .inr (3, [.ref h1, .int 6])), (h1, .inl (c 0, 800, .inl f_15))] H ∧ va_D A [(h0, .inr (3, [.ref h1, .int 6])), (h1, .inl (c 0, 800, .inl f_15))] := ⟨_, hP, hD⟩
  refine lv_aload_n hx hb dX3_addFour_28 rfl (lv_at hl 1 rfl) ?_
  refine lv_dup hx hb dX3_addFour_29 rfl ?_
  refine va_get (D := D) (ci := 3) (v := .int 6) (C := RX3) (T := TX3) (N := 2) hx hb hts (fun _ h => List.mem_cons_of_mem _ (List.mem_append_right _ h)) hown hK hP 0 rfl rfl 1 (by decide) (hts (.fieldLink RX3 15 "CrownTable$Tape" "length" "I") (mem_i 2 rfl)) (fun _ h9 => h9) rfl dX3_addFour_30 ?_
  refine lv_iconst (v := 1) hx hb dX3_addFour_33 (by decide) ?_
  refine lv_iadd hx hb dX3_addFour_34 ?_
  refine lk_i (y := 7) (by decide) ?_
  refine va_put (D := D) (ci := 3) (v := .int 7) (ty := .int) (C := RX3) (T := TX3) (N := 2) hx hb hts (fun _ h => List.mem_cons_of_mem _ (List.mem_append_right _ h)) tyX3 tyX3_ok nmX3 hown hK hP hD hS 0 rfl rfl 1 (by decide) (hts (.fieldLink RX3 15 "CrownTable$Tape" "length" "I") (mem_i 2 rfl)) (fun _ h9 => h9) rfl (by decide +kernel) rfl rfl (Nat.le_of_ble_eq_true rfl) dX3_addFour_35 (fun H locs hP hD hS => ?_)
  have hP : va_P D vwCl [(h0, .inr (3, [.ref h1, .int 7])), (h1, .inl (c 0, 800, .inl f_15))] H := hP
  have hD : va_D A [(h0, .inr (3, [.ref h1, .int 7])), (h1, .inl (c 0, 800, .inl f_15))] := hD
  refine lv_iinc (v := 0) (lv' := [(2, .int 0), (0, .ref h0), (1, .int a1)]) hx hb dX3_addFour_38 hl (k := 0) rfl (by decide) (by decide) rfl (fun ls hl => ?_)
  refine lv_goto (tgt := 3) hx hb dX3_addFour_41 (by decide) ?_
  refine lv_iload_n hx hb dX3_addFour_3 rfl (lv_at hl 0 rfl) ?_
  refine iif_ltF (a := 0) (tgt := 44) hx hb (by decide) dX3_addFour_4 (by decide) (by decide) ?_
  refine lv_aload_n hx hb dX3_addFour_7 rfl (lv_at hl 1 rfl) ?_
  refine lv_iconst (v := 1) hx hb dX3_addFour_8 (by decide) ?_
  have hPc := hP.sub (ws' := [(h0, .inr (3, [.ref h1, .int 7]))]) [0] rfl
  have hDc := hD.sub (ws' := [(h0, .inr (3, [.ref h1, .int 7]))]) [0] (by decide) rfl
  have hFc := va_free (wc := [(h0, .inr (3, [.ref h1, .int 7]))]) hD hS hA [0] rfl
  refine va_csi (va_runV (As := [.int 1]) (rest := []) ⟨hx, hb, hml, hown, hts⟩ (c_X3_hasRoom_8 l D c ts H.size h0 h1) (cwV 1 hts gX3_addFour_X3_hasRoom rfl rfl rfl ⟨rfl, hdX3_hasRoom⟩ ⟨(show 0 + 1 ≤ 1 by decide), (show 8 + (2 + 11) + 0 ≤ 21 by decide)⟩) ⟨Pre0.blind, va_recv hK hPc (ci := 3) (q0 := 0) rfl rfl, Pre0.at hPc hDc hAm hSt hS hFc⟩ rfl rfl hl.1 rfl (lv_room (Nat.le_of_ble_eq_true rfl)) dX3_addFour_9 ⟨(show 0 + 0 ≤ 0 by decide), (show 0 + 0 ≤ 0 by decide)⟩) (fun r_17 hw_16 => ?_)
  refine lk_i (y := 1) hw_16 ?_
  refine iif_eqF (a := 1) (tgt := 38) hx hb (by decide) dX3_addFour_12 (by decide) (by decide) ?_
  refine lv_aload_n hx hb dX3_addFour_15 rfl (lv_at hl 1 rfl) ?_
  refine va_get (D := D) (ci := 3) (v := .ref h1) (C := RX3) (T := TX3) (N := 2) hx hb hts (fun _ h => List.mem_cons_of_mem _ (List.mem_append_right _ h)) hown hK hP 0 rfl rfl 0 (by decide) (hts (.fieldLink RX3 9 "CrownTable$Tape" "bytes" "[B") (mem_i 1 rfl)) (fun _ h9 => h9) rfl dX3_addFour_16 ?_
  refine lv_aload_n hx hb dX3_addFour_19 rfl (lv_at hl 1 rfl) ?_
  refine va_get (D := D) (ci := 3) (v := .int 7) (C := RX3) (T := TX3) (N := 2) hx hb hts (fun _ h => List.mem_cons_of_mem _ (List.mem_append_right _ h)) hown hK hP 0 rfl rfl 1 (by decide) (hts (.fieldLink RX3 15 "CrownTable$Tape" "length" "I") (mem_i 2 rfl)) (fun _ h9 => h9) rfl dX3_addFour_20 ?_
  refine lv_iload_n hx hb dX3_addFour_23 rfl (lv_at hl 2 rfl) ?_
  refine lv_iload_n hx hb dX3_addFour_24 rfl (lv_at hl 0 rfl) ?_
  refine lv_iushr hx hb dX3_addFour_25 rfl ?_
  refine lv_topi (fun x_18 ex_18 => ?_)
  refine lv_i2b hx hb dX3_addFour_26 rfl ?_
  refine lv_topi (fun x_19 ex_19 => ?_)
  refine va_bast hx hb hK hP hD hS 1 0 rfl rfl (vin (a := 7) (by decide) (by decide) (by decide)) dX3_addFour_27 (fun H locs hP hD hS => ?_)
  obtain ⟨f_20, hP, hD⟩ : ∃ f_20 : Nat → Int32, va_P D vwCl [(h0, .inr (3, [.ref h1, .int 7])), (h1, .inl (c 0, 800, .inl f_20))] H ∧ va_D A [(h0, .inr (3, [.ref h1, .int 7])), (h1, .inl (c 0, 800, .inl f_20))] := ⟨_, hP, hD⟩
  refine lv_aload_n hx hb dX3_addFour_28 rfl (lv_at hl 1 rfl) ?_
  refine lv_dup hx hb dX3_addFour_29 rfl ?_
  refine va_get (D := D) (ci := 3) (v := .int 7) (C := RX3) (T := TX3) (N := 2) hx hb hts (fun _ h => List.mem_cons_of_mem _ (List.mem_append_right _ h)) hown hK hP 0 rfl rfl 1 (by decide) (hts (.fieldLink RX3 15 "CrownTable$Tape" "length" "I") (mem_i 2 rfl)) (fun _ h9 => h9) rfl dX3_addFour_30 ?_
  refine lv_iconst (v := 1) hx hb dX3_addFour_33 (by decide) ?_
  refine lv_iadd hx hb dX3_addFour_34 ?_
  refine lk_i (y := 8) (by decide) ?_
  refine va_put (D := D) (ci := 3) (v := .int 8) (ty := .int) (C := RX3) (T := TX3) (N := 2) hx hb hts (fun _ h => List.mem_cons_of_mem _ (List.mem_append_right _ h)) tyX3 tyX3_ok nmX3 hown hK hP hD hS 0 rfl rfl 1 (by decide) (hts (.fieldLink RX3 15 "CrownTable$Tape" "length" "I") (mem_i 2 rfl)) (fun _ h9 => h9) rfl (by decide +kernel) rfl rfl (Nat.le_of_ble_eq_true rfl) dX3_addFour_35 (fun H locs hP hD hS => ?_)
  have hP : va_P D vwCl [(h0, .inr (3, [.ref h1, .int 8])), (h1, .inl (c 0, 800, .inl f_20))] H := hP
  have hD : va_D A [(h0, .inr (3, [.ref h1, .int 8])), (h1, .inl (c 0, 800, .inl f_20))] := hD
  refine lv_iinc (v := (-8)) (lv' := [(2, .int (-8)), (0, .ref h0), (1, .int a1)]) hx hb dX3_addFour_38 hl (k := 0) rfl (by decide) (by decide) rfl (fun ls hl => ?_)
  refine lv_goto (tgt := 3) hx hb dX3_addFour_41 (by decide) ?_
  refine lv_iload_n hx hb dX3_addFour_3 rfl (lv_at hl 0 rfl) ?_
  refine iif_ltT (a := (-8)) (tgt := 44) hx hb (by decide) dX3_addFour_4 (by decide) (by decide) ?_
  have hP9 := hP.sub (ws' := [(h0, .inr (3, [.ref h1, .int 8])), (h1, .inl (c 0, 800, .inl f_20))]) [0, 1] rfl
  have hD9 := hD.sub (ws' := [(h0, .inr (3, [.ref h1, .int 8])), (h1, .inl (c 0, 800, .inl f_20))]) [0, 1] (by decide) rfl
  refine W.widen (k := 0) (n := 0) (by omega) (by omega) ?_
  exact W.vret hx hb hr (fun t ht hW => ⟨⟨(fun k => [].getD k 0, fun k => [f_20].getD k (fun _ => 0), fun k => [].getD k (fun _ => 0)), rfl, trivial, ⟨by rw [ht]; exact hP9, hD9⟩⟩, hS.F ht⟩) hS.2.2 dX3_addFour_44

set_option maxHeartbeats 4000000 in
set_option maxRecDepth 100000 in
theorem c_X3_hasRoom_9 (l : Launch) (D : va_G) (c : Nat → ClassId) (ts : Nat × Nat) (sz : Nat) (h0 : Nat) (h1 : Nat) : Met l yX3_hasRoom wsX3_hasRoom ({ frames := 0, cells := 0, slots := 0, locals := 0 }) (va_Pc [.ref h0, .int 1] (Pre0 D c ts [(h0, .inr (3, [.ref h1, .int 8]))] sz)) (vp_Si (fun r : Int32 => r = 1)) 0 0 (fun _ => False) := by
  refine Met.ofW (cc := cX3_hasRoom) (maxL := 2) (ret := (some .boolean)) (by decide) rfl ?_
  intro p e s m args below meth cd s₁ B hml hv
  obtain ⟨rfl, hsz, hP, hD0, hAm, hSt⟩ := hv
  have hx := B.exec
  have hb := B.bytes
  have hr := B.returns
  have hts := atoms_spec (ws := wsX3_hasRoom) B.pre
  have hown : s.vm.findClass RX3 = some m.cls := findClass_of_methodNamed B.named
  have hlocks := B.notSynchronized
  subst hsz
  have hK := hAm.1
  have hD := hD0.self (sz := s.heap.size)
  generalize hAe : va_A [(h0, .inr (3, [.ref h1, .int 8]))] s.heap.size = A at hD hSt
  have hA : ∀ q : Nat, s.heap.size ≤ q → A q := fun q h => by rw [← hAe]; exact Or.inr h
  have hS : va_S A s.heap s.heap [] := va_S.rf
  clear hD0 hAe
  have hl := lv_entry ([.ref h0, .int 1]) (n := 2) (Nat.le_of_ble_eq_true rfl)
  rw [lg_entry_eq]
  generalize (lg_sl ([.ref h0, .int 1]) ++ List.replicate (2 - (lg_sl ([.ref h0, .int 1])).length) Slot.unset).toArray = ls at hl ⊢
  have hl : lv_has ls 2 [(0, .ref h0), (1, .int 1)] := hl
  refine lv_aload_n hx hb dX3_hasRoom_0 rfl (lv_at hl 0 rfl) ?_
  refine va_get (D := D) (ci := 3) (v := .int 8) (C := RX3) (T := TX3) (N := 2) hx hb hts (fun _ h => List.mem_cons_of_mem _ (List.mem_append_right _ h)) hown hK hP 0 rfl rfl 1 (by decide) (hts (.fieldLink RX3 15 "CrownTable$Tape" "length" "I") (mem_i 1 rfl)) (fun _ h9 => h9) rfl dX3_hasRoom_1 ?_
  refine lv_iload_n hx hb dX3_hasRoom_4 rfl (lv_at hl 1 rfl) ?_
  refine lv_iadd hx hb dX3_hasRoom_5 ?_
  refine lk_i (y := 9) (by decide) ?_
  refine lv_sipush (v := 800) hx hb dX3_hasRoom_6 (by decide) ?_
  refine iicmp_gtF (a := 9) (b := 800) (tgt := 16) hx hb (by decide) (by decide) dX3_hasRoom_9 (by decide) (by decide) ?_
  refine lv_iconst (v := 1) hx hb dX3_hasRoom_12 (by decide) ?_
  refine lv_goto (tgt := 17) hx hb dX3_hasRoom_13 (by decide) ?_
  exact W.zret (v := 1) hx hb hr (by decide) (fun t ht hW => ⟨_, rfl, rfl, ht⟩) (fun _ h => by cases h) dX3_hasRoom_17

set_option maxHeartbeats 4000000 in
set_option maxRecDepth 100000 in
theorem c_X3_hasRoom_10 (l : Launch) (D : va_G) (c : Nat → ClassId) (ts : Nat × Nat) (sz : Nat) (h0 : Nat) (h1 : Nat) : Met l yX3_hasRoom wsX3_hasRoom ({ frames := 0, cells := 0, slots := 0, locals := 0 }) (va_Pc [.ref h0, .int 1] (Pre0 D c ts [(h0, .inr (3, [.ref h1, .int 9]))] sz)) (vp_Si (fun r : Int32 => r = 1)) 0 0 (fun _ => False) := by
  refine Met.ofW (cc := cX3_hasRoom) (maxL := 2) (ret := (some .boolean)) (by decide) rfl ?_
  intro p e s m args below meth cd s₁ B hml hv
  obtain ⟨rfl, hsz, hP, hD0, hAm, hSt⟩ := hv
  have hx := B.exec
  have hb := B.bytes
  have hr := B.returns
  have hts := atoms_spec (ws := wsX3_hasRoom) B.pre
  have hown : s.vm.findClass RX3 = some m.cls := findClass_of_methodNamed B.named
  have hlocks := B.notSynchronized
  subst hsz
  have hK := hAm.1
  have hD := hD0.self (sz := s.heap.size)
  generalize hAe : va_A [(h0, .inr (3, [.ref h1, .int 9]))] s.heap.size = A at hD hSt
  have hA : ∀ q : Nat, s.heap.size ≤ q → A q := fun q h => by rw [← hAe]; exact Or.inr h
  have hS : va_S A s.heap s.heap [] := va_S.rf
  clear hD0 hAe
  have hl := lv_entry ([.ref h0, .int 1]) (n := 2) (Nat.le_of_ble_eq_true rfl)
  rw [lg_entry_eq]
  generalize (lg_sl ([.ref h0, .int 1]) ++ List.replicate (2 - (lg_sl ([.ref h0, .int 1])).length) Slot.unset).toArray = ls at hl ⊢
  have hl : lv_has ls 2 [(0, .ref h0), (1, .int 1)] := hl
  refine lv_aload_n hx hb dX3_hasRoom_0 rfl (lv_at hl 0 rfl) ?_
  refine va_get (D := D) (ci := 3) (v := .int 9) (C := RX3) (T := TX3) (N := 2) hx hb hts (fun _ h => List.mem_cons_of_mem _ (List.mem_append_right _ h)) hown hK hP 0 rfl rfl 1 (by decide) (hts (.fieldLink RX3 15 "CrownTable$Tape" "length" "I") (mem_i 1 rfl)) (fun _ h9 => h9) rfl dX3_hasRoom_1 ?_
  refine lv_iload_n hx hb dX3_hasRoom_4 rfl (lv_at hl 1 rfl) ?_
  refine lv_iadd hx hb dX3_hasRoom_5 ?_
  refine lk_i (y := 10) (by decide) ?_
  refine lv_sipush (v := 800) hx hb dX3_hasRoom_6 (by decide) ?_
  refine iicmp_gtF (a := 10) (b := 800) (tgt := 16) hx hb (by decide) (by decide) dX3_hasRoom_9 (by decide) (by decide) ?_
  refine lv_iconst (v := 1) hx hb dX3_hasRoom_12 (by decide) ?_
  refine lv_goto (tgt := 17) hx hb dX3_hasRoom_13 (by decide) ?_
  exact W.zret (v := 1) hx hb hr (by decide) (fun t ht hW => ⟨_, rfl, rfl, ht⟩) (fun _ h => by cases h) dX3_hasRoom_17

set_option maxHeartbeats 4000000 in
set_option maxRecDepth 100000 in
theorem c_X3_hasRoom_11 (l : Launch) (D : va_G) (c : Nat → ClassId) (ts : Nat × Nat) (sz : Nat) (h0 : Nat) (h1 : Nat) : Met l yX3_hasRoom wsX3_hasRoom ({ frames := 0, cells := 0, slots := 0, locals := 0 }) (va_Pc [.ref h0, .int 1] (Pre0 D c ts [(h0, .inr (3, [.ref h1, .int 10]))] sz)) (vp_Si (fun r : Int32 => r = 1)) 0 0 (fun _ => False) := by
  refine Met.ofW (cc := cX3_hasRoom) (maxL := 2) (ret := (some .boolean)) (by decide) rfl ?_
  intro p e s m args below meth cd s₁ B hml hv
  obtain ⟨rfl, hsz, hP, hD0, hAm, hSt⟩ := hv
  have hx := B.exec
  have hb := B.bytes
  have hr := B.returns
  have hts := atoms_spec (ws := wsX3_hasRoom) B.pre
  have hown : s.vm.findClass RX3 = some m.cls := findClass_of_methodNamed B.named
  have hlocks := B.notSynchronized
  subst hsz
  have hK := hAm.1
  have hD := hD0.self (sz := s.heap.size)
  generalize hAe : va_A [(h0, .inr (3, [.ref h1, .int 10]))] s.heap.size = A at hD hSt
  have hA : ∀ q : Nat, s.heap.size ≤ q → A q := fun q h => by rw [← hAe]; exact Or.inr h
  have hS : va_S A s.heap s.heap [] := va_S.rf
  clear hD0 hAe
  have hl := lv_entry ([.ref h0, .int 1]) (n := 2) (Nat.le_of_ble_eq_true rfl)
  rw [lg_entry_eq]
  generalize (lg_sl ([.ref h0, .int 1]) ++ List.replicate (2 - (lg_sl ([.ref h0, .int 1])).length) Slot.unset).toArray = ls at hl ⊢
  have hl : lv_has ls 2 [(0, .ref h0), (1, .int 1)] := hl
  refine lv_aload_n hx hb dX3_hasRoom_0 rfl (lv_at hl 0 rfl) ?_
  refine va_get (D := D) (ci := 3) (v := .int 10) (C := RX3) (T := TX3) (N := 2) hx hb hts (fun _ h => List.mem_cons_of_mem _ (List.mem_append_right _ h)) hown hK hP 0 rfl rfl 1 (by decide) (hts (.fieldLink RX3 15 "CrownTable$Tape" "length" "I") (mem_i 1 rfl)) (fun _ h9 => h9) rfl dX3_hasRoom_1 ?_
  refine lv_iload_n hx hb dX3_hasRoom_4 rfl (lv_at hl 1 rfl) ?_
  refine lv_iadd hx hb dX3_hasRoom_5 ?_
  refine lk_i (y := 11) (by decide) ?_
  refine lv_sipush (v := 800) hx hb dX3_hasRoom_6 (by decide) ?_
  refine iicmp_gtF (a := 11) (b := 800) (tgt := 16) hx hb (by decide) (by decide) dX3_hasRoom_9 (by decide) (by decide) ?_
  refine lv_iconst (v := 1) hx hb dX3_hasRoom_12 (by decide) ?_
  refine lv_goto (tgt := 17) hx hb dX3_hasRoom_13 (by decide) ?_
  exact W.zret (v := 1) hx hb hr (by decide) (fun t ht hW => ⟨_, rfl, rfl, ht⟩) (fun _ h => by cases h) dX3_hasRoom_17

set_option maxHeartbeats 4000000 in
set_option maxRecDepth 100000 in
theorem c_X3_hasRoom_12 (l : Launch) (D : va_G) (c : Nat → ClassId) (ts : Nat × Nat) (sz : Nat) (h0 : Nat) (h1 : Nat) : Met l yX3_hasRoom wsX3_hasRoom ({ frames := 0, cells := 0, slots := 0, locals := 0 }) (va_Pc [.ref h0, .int 1] (Pre0 D c ts [(h0, .inr (3, [.ref h1, .int 11]))] sz)) (vp_Si (fun r : Int32 => r = 1)) 0 0 (fun _ => False) := by
  refine Met.ofW (cc := cX3_hasRoom) (maxL := 2) (ret := (some .boolean)) (by decide) rfl ?_
  intro p e s m args below meth cd s₁ B hml hv
  obtain ⟨rfl, hsz, hP, hD0, hAm, hSt⟩ := hv
  have hx := B.exec
  have hb := B.bytes
  have hr := B.returns
  have hts := atoms_spec (ws := wsX3_hasRoom) B.pre
  have hown : s.vm.findClass RX3 = some m.cls := findClass_of_methodNamed B.named
  have hlocks := B.notSynchronized
  subst hsz
  have hK := hAm.1
  have hD := hD0.self (sz := s.heap.size)
  generalize hAe : va_A [(h0, .inr (3, [.ref h1, .int 11]))] s.heap.size = A at hD hSt
  have hA : ∀ q : Nat, s.heap.size ≤ q → A q := fun q h => by rw [← hAe]; exact Or.inr h
  have hS : va_S A s.heap s.heap [] := va_S.rf
  clear hD0 hAe
  have hl := lv_entry ([.ref h0, .int 1]) (n := 2) (Nat.le_of_ble_eq_true rfl)
  rw [lg_entry_eq]
  generalize (lg_sl ([.ref h0, .int 1]) ++ List.replicate (2 - (lg_sl ([.ref h0, .int 1])).length) Slot.unset).toArray = ls at hl ⊢
  have hl : lv_has ls 2 [(0, .ref h0), (1, .int 1)] := hl
  refine lv_aload_n hx hb dX3_hasRoom_0 rfl (lv_at hl 0 rfl) ?_
  refine va_get (D := D) (ci := 3) (v := .int 11) (C := RX3) (T := TX3) (N := 2) hx hb hts (fun _ h => List.mem_cons_of_mem _ (List.mem_append_right _ h)) hown hK hP 0 rfl rfl 1 (by decide) (hts (.fieldLink RX3 15 "CrownTable$Tape" "length" "I") (mem_i 1 rfl)) (fun _ h9 => h9) rfl dX3_hasRoom_1 ?_
  refine lv_iload_n hx hb dX3_hasRoom_4 rfl (lv_at hl 1 rfl) ?_
  refine lv_iadd hx hb dX3_hasRoom_5 ?_
  refine lk_i (y := 12) (by decide) ?_
  refine lv_sipush (v := 800) hx hb dX3_hasRoom_6 (by decide) ?_
  refine iicmp_gtF (a := 12) (b := 800) (tgt := 16) hx hb (by decide) (by decide) dX3_hasRoom_9 (by decide) (by decide) ?_
  refine lv_iconst (v := 1) hx hb dX3_hasRoom_12 (by decide) ?_
  refine lv_goto (tgt := 17) hx hb dX3_hasRoom_13 (by decide) ?_
  exact W.zret (v := 1) hx hb hr (by decide) (fun t ht hW => ⟨_, rfl, rfl, ht⟩) (fun _ h => by cases h) dX3_hasRoom_17

set_option maxHeartbeats 4000000 in
set_option maxRecDepth 100000 in
theorem c_X3_addFour_2 (l : Launch) (D : va_G) (c : Nat → ClassId) (ts : Nat × Nat) (sz : Nat) (h0 : Nat) (h1 : Nat) (f0 : Nat → Int32) (a1 : Int32) (i_a1 : Int) (hi_a1 : a1.toInt = i_a1) : Met l yX3_addFour wsX3_addFour ({ frames := 1, cells := 0, slots := 0, locals := 21 }) (va_Pc [.ref h0, .int a1] (Pre0 D c ts [(h0, .inr (3, [.ref h1, .int 8])), (h1, .inl (c 0, 800, .inl f0))] sz)) (va_Qv (fun (u : (Nat → Nat) × (Nat → Nat → Int32) × (Nat → Nat → Int64)) => True) (fun u t => va_P D vwCl [(h0, .inr (3, [.ref h1, .int 12])), (h1, .inl (c 0, 800, .inl (u.2.1 0)))] t.heap ∧ va_D (va_A [(h0, .inr (3, [.ref h1, .int 8])), (h1, .inl (c 0, 800, .inl f0))] sz) [(h0, .inr (3, [.ref h1, .int 12])), (h1, .inl (c 0, 800, .inl (u.2.1 0)))]) (va_A [(h0, .inr (3, [.ref h1, .int 8])), (h1, .inl (c 0, 800, .inl f0))] sz)) 0 0 (va_A [(h0, .inr (3, [.ref h1, .int 8])), (h1, .inl (c 0, 800, .inl f0))] sz) := by
  refine Met.ofW (cc := cX3_addFour) (maxL := 3) (ret := none) (by decide) rfl ?_
  intro p e s m args below meth cd s₁ B hml hv
  obtain ⟨rfl, hsz, hP, hD0, hAm, hSt⟩ := hv
  have hx := B.exec
  have hb := B.bytes
  have hr := B.returns
  have hts := atoms_spec (ws := wsX3_addFour) B.pre
  have hown : s.vm.findClass RX3 = some m.cls := findClass_of_methodNamed B.named
  have hlocks := B.notSynchronized
  subst hsz
  have hK := hAm.1
  have hD := hD0.self (sz := s.heap.size)
  generalize hAe : va_A [(h0, .inr (3, [.ref h1, .int 8])), (h1, .inl (c 0, 800, .inl f0))] s.heap.size = A at hD hSt ⊢
  have hA : ∀ q : Nat, s.heap.size ≤ q → A q := fun q h => by rw [← hAe]; exact Or.inr h
  have hS : va_S A s.heap s.heap [] := va_S.rf
  clear hD0 hAe
  have hl := lv_entry ([.ref h0, .int a1]) (n := 3) (Nat.le_of_ble_eq_true rfl)
  rw [lg_entry_eq]
  generalize (lg_sl ([.ref h0, .int a1]) ++ List.replicate (3 - (lg_sl ([.ref h0, .int a1])).length) Slot.unset).toArray = ls at hl ⊢
  have hl : lv_has ls 3 [(0, .ref h0), (1, .int a1)] := hl
  refine lv_bipush (v := 24) hx hb dX3_addFour_0 (by decide) ?_
  refine lv_istore_n (lv' := [(2, .int 24), (0, .ref h0), (1, .int a1)]) hx hb dX3_addFour_2 rfl hl (by decide) rfl (fun ls hl => ?_)
  refine lv_iload_n hx hb dX3_addFour_3 rfl (lv_at hl 0 rfl) ?_
  refine iif_ltF (a := 24) (tgt := 44) hx hb (by decide) dX3_addFour_4 (by decide) (by decide) ?_
  refine lv_aload_n hx hb dX3_addFour_7 rfl (lv_at hl 1 rfl) ?_
  refine lv_iconst (v := 1) hx hb dX3_addFour_8 (by decide) ?_
  have hPc := hP.sub (ws' := [(h0, .inr (3, [.ref h1, .int 8]))]) [0] rfl
  have hDc := hD.sub (ws' := [(h0, .inr (3, [.ref h1, .int 8]))]) [0] (by decide) rfl
  have hFc := va_free (wc := [(h0, .inr (3, [.ref h1, .int 8]))]) hD hS hA [0] rfl
  refine va_csi (va_runV (As := [.int 1]) (rest := []) ⟨hx, hb, hml, hown, hts⟩ (c_X3_hasRoom_9 l D c ts s.heap.size h0 h1) (cwV 1 hts gX3_addFour_X3_hasRoom rfl rfl rfl ⟨rfl, hdX3_hasRoom⟩ ⟨(show 0 + 1 ≤ 1 by decide), (show 8 + (2 + 11) + 0 ≤ 21 by decide)⟩) ⟨Pre0.blind, va_recv hK hPc (ci := 3) (q0 := 0) rfl rfl, Pre0.at hPc hDc hAm hSt hS hFc⟩ rfl rfl hl.1 rfl (lv_room (Nat.le_of_ble_eq_true rfl)) dX3_addFour_9 ⟨(show 0 + 0 ≤ 0 by decide), (show 0 + 0 ≤ 0 by decide)⟩) (fun r_2 hw_1 => ?_)
  refine lk_i (y := 1) hw_1 ?_
  refine iif_eqF (a := 1) (tgt := 38) hx hb (by decide) dX3_addFour_12 (by decide) (by decide) ?_
  refine lv_aload_n hx hb dX3_addFour_15 rfl (lv_at hl 1 rfl) ?_
  refine va_get (D := D) (ci := 3) (v := .ref h1) (C := RX3) (T := TX3) (N := 2) hx hb hts (fun _ h => List.mem_cons_of_mem _ (List.mem_append_right _ h)) hown hK hP 0 rfl rfl 0 (by decide) (hts (.fieldLink RX3 9 "CrownTable$Tape" "bytes" "[B") (mem_i 1 rfl)) (fun _ h9 => h9) rfl dX3_addFour_16 ?_
  refine lv_aload_n hx hb dX3_addFour_19 rfl (lv_at hl 1 rfl) ?_
  refine va_get (D := D) (ci := 3) (v := .int 8) (C := RX3) (T := TX3) (N := 2) hx hb hts (fun _ h => List.mem_cons_of_mem _ (List.mem_append_right _ h)) hown hK hP 0 rfl rfl 1 (by decide) (hts (.fieldLink RX3 15 "CrownTable$Tape" "length" "I") (mem_i 2 rfl)) (fun _ h9 => h9) rfl dX3_addFour_20 ?_
  refine lv_iload_n hx hb dX3_addFour_23 rfl (lv_at hl 2 rfl) ?_
  refine lv_iload_n hx hb dX3_addFour_24 rfl (lv_at hl 0 rfl) ?_
  refine lv_iushr hx hb dX3_addFour_25 rfl ?_
  refine lv_topi (fun x_3 ex_3 => ?_)
  refine lv_i2b hx hb dX3_addFour_26 rfl ?_
  refine lv_topi (fun x_4 ex_4 => ?_)
  refine va_bast hx hb hK hP hD hS 1 0 rfl rfl (vin (a := 8) (by decide) (by decide) (by decide)) dX3_addFour_27 (fun H locs hP hD hS => ?_)
  obtain ⟨f_5, hP, hD⟩ : ∃ f_5 : Nat → Int32, va_P D vwCl [(h0, .inr (3, [.ref h1, .int 8])), (h1, .inl (c 0, 800, .inl f_5))] H ∧ va_D A [(h0, .inr (3, [.ref h1, .int 8])), (h1, .inl (c 0, 800, .inl f_5))] := ⟨_, hP, hD⟩
  refine lv_aload_n hx hb dX3_addFour_28 rfl (lv_at hl 1 rfl) ?_
  refine lv_dup hx hb dX3_addFour_29 rfl ?_
  refine va_get (D := D) (ci := 3) (v := .int 8) (C := RX3) (T := TX3) (N := 2) hx hb hts (fun _ h => List.mem_cons_of_mem _ (List.mem_append_right _ h)) hown hK hP 0 rfl rfl 1 (by decide) (hts (.fieldLink RX3 15 "CrownTable$Tape" "length" "I") (mem_i 2 rfl)) (fun _ h9 => h9) rfl dX3_addFour_30 ?_
  refine lv_iconst (v := 1) hx hb dX3_addFour_33 (by decide) ?_
  refine lv_iadd hx hb dX3_addFour_34 ?_
  refine lk_i (y := 9) (by decide) ?_
  refine va_put (D := D) (ci := 3) (v := .int 9) (ty := .int) (C := RX3) (T := TX3) (N := 2) hx hb hts (fun _ h => List.mem_cons_of_mem _ (List.mem_append_right _ h)) tyX3 tyX3_ok nmX3 hown hK hP hD hS 0 rfl rfl 1 (by decide) (hts (.fieldLink RX3 15 "CrownTable$Tape" "length" "I") (mem_i 2 rfl)) (fun _ h9 => h9) rfl (by decide +kernel) rfl rfl (Nat.le_of_ble_eq_true rfl) dX3_addFour_35 (fun H locs hP hD hS => ?_)
  have hP : va_P D vwCl [(h0, .inr (3, [.ref h1, .int 9])), (h1, .inl (c 0, 800, .inl f_5))] H := hP
  have hD : va_D A [(h0, .inr (3, [.ref h1, .int 9])), (h1, .inl (c 0, 800, .inl f_5))] := hD
  refine lv_iinc (v := 16) (lv' := [(2, .int 16), (0, .ref h0), (1, .int a1)]) hx hb dX3_addFour_38 hl (k := 0) rfl (by decide) (by decide) rfl (fun ls hl => ?_)
  refine lv_goto (tgt := 3) hx hb dX3_addFour_41 (by decide) ?_
  refine lv_iload_n hx hb dX3_addFour_3 rfl (lv_at hl 0 rfl) ?_
  refine iif_ltF (a := 16) (tgt := 44) hx hb (by decide) dX3_addFour_4 (by decide) (by decide) ?_
  refine lv_aload_n hx hb dX3_addFour_7 rfl (lv_at hl 1 rfl) ?_
  refine lv_iconst (v := 1) hx hb dX3_addFour_8 (by decide) ?_
  have hPc := hP.sub (ws' := [(h0, .inr (3, [.ref h1, .int 9]))]) [0] rfl
  have hDc := hD.sub (ws' := [(h0, .inr (3, [.ref h1, .int 9]))]) [0] (by decide) rfl
  have hFc := va_free (wc := [(h0, .inr (3, [.ref h1, .int 9]))]) hD hS hA [0] rfl
  refine va_csi (va_runV (As := [.int 1]) (rest := []) ⟨hx, hb, hml, hown, hts⟩ (c_X3_hasRoom_10 l D c ts H.size h0 h1) (cwV 1 hts gX3_addFour_X3_hasRoom rfl rfl rfl ⟨rfl, hdX3_hasRoom⟩ ⟨(show 0 + 1 ≤ 1 by decide), (show 8 + (2 + 11) + 0 ≤ 21 by decide)⟩) ⟨Pre0.blind, va_recv hK hPc (ci := 3) (q0 := 0) rfl rfl, Pre0.at hPc hDc hAm hSt hS hFc⟩ rfl rfl hl.1 rfl (lv_room (Nat.le_of_ble_eq_true rfl)) dX3_addFour_9 ⟨(show 0 + 0 ≤ 0 by decide), (show 0 + 0 ≤ 0 by decide)⟩) (fun r_7 hw_6 => ?_)
  refine lk_i (y := 1) hw_6 ?_
  refine iif_eqF (a := 1) (tgt := 38) hx hb (by decide) dX3_addFour_12 (by decide) (by decide) ?_
  refine lv_aload_n hx hb dX3_addFour_15 rfl (lv_at hl 1 rfl) ?_
  refine va_get (D := D) (ci := 3) (v := .ref h1) (C := RX3) (T := TX3) (N := 2) hx hb hts (fun _ h => List.mem_cons_of_mem _ (List.mem_append_right _ h)) hown hK hP 0 rfl rfl 0 (by decide) (hts (.fieldLink RX3 9 "CrownTable$Tape" "bytes" "[B") (mem_i 1 rfl)) (fun _ h9 => h9) rfl dX3_addFour_16 ?_
  refine lv_aload_n hx hb dX3_addFour_19 rfl (lv_at hl 1 rfl) ?_
  refine va_get (D := D) (ci := 3) (v := .int 9) (C := RX3) (T := TX3) (N := 2) hx hb hts (fun _ h => List.mem_cons_of_mem _ (List.mem_append_right _ h)) hown hK hP 0 rfl rfl 1 (by decide) (hts (.fieldLink RX3 15 "CrownTable$Tape" "length" "I") (mem_i 2 rfl)) (fun _ h9 => h9) rfl dX3_addFour_20 ?_
  refine lv_iload_n hx hb dX3_addFour_23 rfl (lv_at hl 2 rfl) ?_
  refine lv_iload_n hx hb dX3_addFour_24 rfl (lv_at hl 0 rfl) ?_
  refine lv_iushr hx hb dX3_addFour_25 rfl ?_
  refine lv_topi (fun x_8 ex_8 => ?_)
  refine lv_i2b hx hb dX3_addFour_26 rfl ?_
  refine lv_topi (fun x_9 ex_9 => ?_)
  refine va_bast hx hb hK hP hD hS 1 0 rfl rfl (vin (a := 9) (by decide) (by decide) (by decide)) dX3_addFour_27 (fun H locs hP hD hS => ?_)
  obtain ⟨f_10, hP, hD⟩ : ∃ f_10 : Nat → Int32, va_P D vwCl [(h0, .inr (3, [.ref h1, .int 9])), (h1, .inl (c 0, 800, .inl f_10))] H ∧ va_D A [(h0, .inr (3, [.ref h1, .int 9])), (h1, .inl (c 0, 800, .inl f_10))] := ⟨_, hP, hD⟩
  refine lv_aload_n hx hb dX3_addFour_28 rfl (lv_at hl 1 rfl) ?_
  refine lv_dup hx hb dX3_addFour_29 rfl ?_
  refine va_get (D := D) (ci := 3) (v := .int 9) (C := RX3) (T := TX3) (N := 2) hx hb hts (fun _ h => List.mem_cons_of_mem _ (List.mem_append_right _ h)) hown hK hP 0 rfl rfl 1 (by decide) (hts (.fieldLink RX3 15 "CrownTable$Tape" "length" "I") (mem_i 2 rfl)) (fun _ h9 => h9) rfl dX3_addFour_30 ?_
  refine lv_iconst (v := 1) hx hb dX3_addFour_33 (by decide) ?_
  refine lv_iadd hx hb dX3_addFour_34 ?_
  refine lk_i (y := 10) (by decide) ?_
  refine va_put (D := D) (ci := 3) (v := .int 10) (ty := .int) (C := RX3) (T := TX3) (N := 2) hx hb hts (fun _ h => List.mem_cons_of_mem _ (List.mem_append_right _ h)) tyX3 tyX3_ok nmX3 hown hK hP hD hS 0 rfl rfl 1 (by decide) (hts (.fieldLink RX3 15 "CrownTable$Tape" "length" "I") (mem_i 2 rfl)) (fun _ h9 => h9) rfl (by decide +kernel) rfl rfl (Nat.le_of_ble_eq_true rfl) dX3_addFour_35 (fun H locs hP hD hS => ?_)
  have hP : va_P D vwCl [(h0, .inr (3, [.ref h1, .int 10])), (h1, .inl (c 0, 800, .inl f_10))] H := hP
  have hD : va_D A [(h0, .inr (3, [.ref h1, .int 10])), (h1, .inl (c 0, 800, .inl f_10))] := hD
  refine lv_iinc (v := 8) (lv' := [(2, .int 8), (0, .ref h0), (1, .int a1)]) hx hb dX3_addFour_38 hl (k := 0) rfl (by decide) (by decide) rfl (fun ls hl => ?_)
  refine lv_goto (tgt := 3) hx hb dX3_addFour_41 (by decide) ?_
  refine lv_iload_n hx hb dX3_addFour_3 rfl (lv_at hl 0 rfl) ?_
  refine iif_ltF (a := 8) (tgt := 44) hx hb (by decide) dX3_addFour_4 (by decide) (by decide) ?_
  refine lv_aload_n hx hb dX3_addFour_7 rfl (lv_at hl 1 rfl) ?_
  refine lv_iconst (v := 1) hx hb dX3_addFour_8 (by decide) ?_
  have hPc := hP.sub (ws' := [(h0, .inr (3, [.ref h1, .int 10]))]) [0] rfl
  have hDc := hD.sub (ws' := [(h0, .inr (3, [.ref h1, .int 10]))]) [0] (by decide) rfl
  have hFc := va_free (wc := [(h0, .inr (3, [.ref h1, .int 10]))]) hD hS hA [0] rfl
  refine va_csi (va_runV (As := [.int 1]) (rest := []) ⟨hx, hb, hml, hown, hts⟩ (c_X3_hasRoom_11 l D c ts H.size h0 h1) (cwV 1 hts gX3_addFour_X3_hasRoom rfl rfl rfl ⟨rfl, hdX3_hasRoom⟩ ⟨(show 0 + 1 ≤ 1 by decide), (show 8 + (2 + 11) + 0 ≤ 21 by decide)⟩) ⟨Pre0.blind, va_recv hK hPc (ci := 3) (q0 := 0) rfl rfl, Pre0.at hPc hDc hAm hSt hS hFc⟩ rfl rfl hl.1 rfl (lv_room (Nat.le_of_ble_eq_true rfl)) dX3_addFour_9 ⟨(show 0 + 0 ≤ 0 by decide), (show 0 + 0 ≤ 0 by decide)⟩) (fun r_12 hw_11 => ?_)
  refine lk_i (y := 1) hw_11 ?_
  refine iif_eqF (a := 1) (tgt := 38) hx hb (by decide) dX3_addFour_12 (by decide) (by decide) ?_
  refine lv_aload_n hx hb dX3_addFour_15 rfl (lv_at hl 1 rfl) ?_
  refine va_get (D := D) (ci := 3) (v := .ref h1) (C := RX3) (T := TX3) (N := 2) hx hb hts (fun _ h => List.mem_cons_of_mem _ (List.mem_append_right _ h)) hown hK hP 0 rfl rfl 0 (by decide) (hts (.fieldLink RX3 9 "CrownTable$Tape" "bytes" "[B") (mem_i 1 rfl)) (fun _ h9 => h9) rfl dX3_addFour_16 ?_
  refine lv_aload_n hx hb dX3_addFour_19 rfl (lv_at hl 1 rfl) ?_
  refine va_get (D := D) (ci := 3) (v := .int 10) (C := RX3) (T := TX3) (N := 2) hx hb hts (fun _ h => List.mem_cons_of_mem _ (List.mem_append_right _ h)) hown hK hP 0 rfl rfl 1 (by decide) (hts (.fieldLink RX3 15 "CrownTable$Tape" "length" "I") (mem_i 2 rfl)) (fun _ h9 => h9) rfl dX3_addFour_20 ?_
  refine lv_iload_n hx hb dX3_addFour_23 rfl (lv_at hl 2 rfl) ?_
  refine lv_iload_n hx hb dX3_addFour_24 rfl (lv_at hl 0 rfl) ?_
  refine lv_iushr hx hb dX3_addFour_25 rfl ?_
  refine lv_topi (fun x_13 ex_13 => ?_)
  refine lv_i2b hx hb dX3_addFour_26 rfl ?_
  refine lv_topi (fun x_14 ex_14 => ?_)
  refine va_bast hx hb hK hP hD hS 1 0 rfl rfl (vin (a := 10) (by decide) (by decide) (by decide)) dX3_addFour_27 (fun H locs hP hD hS => ?_)
  obtain ⟨f_15, hP, hD⟩ : ∃ f_15 : Nat → Int32, va_P D vwCl [(h0, .inr (3, [.ref h1, .int 10])), (h1, .inl (c 0, 800, .inl f_15))] H ∧ va_D A [(h0, .inr (3, [.ref h1, .int 10])), (h1, .inl (c 0, 800, .inl f_15))] := ⟨_, hP, hD⟩
  refine lv_aload_n hx hb dX3_addFour_28 rfl (lv_at hl 1 rfl) ?_
  refine lv_dup hx hb dX3_addFour_29 rfl ?_
  refine va_get (D := D) (ci := 3) (v := .int 10) (C := RX3) (T := TX3) (N := 2) hx hb hts (fun _ h => List.mem_cons_of_mem _ (List.mem_append_right _ h)) hown hK hP 0 rfl rfl 1 (by decide) (hts (.fieldLink RX3 15 "CrownTable$Tape" "length" "I") (mem_i 2 rfl)) (fun _ h9 => h9) rfl dX3_addFour_30 ?_
  refine lv_iconst (v := 1) hx hb dX3_addFour_33 (by decide) ?_
  refine lv_iadd hx hb dX3_addFour_34 ?_
  refine lk_i (y := 11) (by decide) ?_
  refine va_put (D := D) (ci := 3) (v := .int 11) (ty := .int) (C := RX3) (T := TX3) (N := 2) hx hb hts (fun _ h => List.mem_cons_of_mem _ (List.mem_append_right _ h)) tyX3 tyX3_ok nmX3 hown hK hP hD hS 0 rfl rfl 1 (by decide) (hts (.fieldLink RX3 15 "CrownTable$Tape" "length" "I") (mem_i 2 rfl)) (fun _ h9 => h9) rfl (by decide +kernel) rfl rfl (Nat.le_of_ble_eq_true rfl) dX3_addFour_35 (fun H locs hP hD hS => ?_)
  have hP : va_P D vwCl [(h0, .inr (3, [.ref h1, .int 11])), (h1, .inl (c 0, 800, .inl f_15))] H := hP
  have hD : va_D A [(h0, .inr (3, [.ref h1, .int 11])), (h1, .inl (c 0, 800, .inl f_15))] := hD
  refine lv_iinc (v := 0) (lv' := [(2, .int 0), (0, .ref h0), (1, .int a1)]) hx hb dX3_addFour_38 hl (k := 0) rfl (by decide) (by decide) rfl (fun ls hl => ?_)
  refine lv_goto (tgt := 3) hx hb dX3_addFour_41 (by decide) ?_
  refine lv_iload_n hx hb dX3_addFour_3 rfl (lv_at hl 0 rfl) ?_
  refine iif_ltF (a := 0) (tgt := 44) hx hb (by decide) dX3_addFour_4 (by decide) (by decide) ?_
  refine lv_aload_n hx hb dX3_addFour_7 rfl (lv_at hl 1 rfl) ?_
  refine lv_iconst (v := 1) hx hb dX3_addFour_8 (by decide) ?_
  have hPc := hP.sub (ws' := [(h0, .inr (3, [.ref h1, .int 11]))]) [0] rfl
  have hDc := hD.sub (ws' := [(h0, .inr (3, [.ref h1, .int 11]))]) [0] (by decide) rfl
  have hFc := va_free (wc := [(h0, .inr (3, [.ref h1, .int 11]))]) hD hS hA [0] rfl
  refine va_csi (va_runV (As := [.int 1]) (rest := []) ⟨hx, hb, hml, hown, hts⟩ (c_X3_hasRoom_12 l D c ts H.size h0 h1) (cwV 1 hts gX3_addFour_X3_hasRoom rfl rfl rfl ⟨rfl, hdX3_hasRoom⟩ ⟨(show 0 + 1 ≤ 1 by decide), (show 8 + (2 + 11) + 0 ≤ 21 by decide)⟩) ⟨Pre0.blind, va_recv hK hPc (ci := 3) (q0 := 0) rfl rfl, Pre0.at hPc hDc hAm hSt hS hFc⟩ rfl rfl hl.1 rfl (lv_room (Nat.le_of_ble_eq_true rfl)) dX3_addFour_9 ⟨(show 0 + 0 ≤ 0 by decide), (show 0 + 0 ≤ 0 by decide)⟩) (fun r_17 hw_16 => ?_)
  refine lk_i (y := 1) hw_16 ?_
  refine iif_eqF (a := 1) (tgt := 38) hx hb (by decide) dX3_addFour_12 (by decide) (by decide) ?_
  refine lv_aload_n hx hb dX3_addFour_15 rfl (lv_at hl 1 rfl) ?_
  refine va_get (D := D) (ci := 3) (v := .ref h1) (C := RX3) (T := TX3) (N := 2) hx hb hts (fun _ h => List.mem_cons_of_mem _ (List.mem_append_right _ h)) hown hK hP 0 rfl rfl 0 (by decide) (hts (.fieldLink RX3 9 "CrownTable$Tape" "bytes" "[B") (mem_i 1 rfl)) (fun _ h9 => h9) rfl dX3_addFour_16 ?_
  refine lv_aload_n hx hb dX3_addFour_19 rfl (lv_at hl 1 rfl) ?_
  refine va_get (D := D) (ci := 3) (v := .int 11) (C := RX3) (T := TX3) (N := 2) hx hb hts (fun _ h => List.mem_cons_of_mem _ (List.mem_append_right _ h)) hown hK hP 0 rfl rfl 1 (by decide) (hts (.fieldLink RX3 15 "CrownTable$Tape" "length" "I") (mem_i 2 rfl)) (fun _ h9 => h9) rfl dX3_addFour_20 ?_
  refine lv_iload_n hx hb dX3_addFour_23 rfl (lv_at hl 2 rfl) ?_
  refine lv_iload_n hx hb dX3_addFour_24 rfl (lv_at hl 0 rfl) ?_
  refine lv_iushr hx hb dX3_addFour_25 rfl ?_
  refine lv_topi (fun x_18 ex_18 => ?_)
  refine lv_i2b hx hb dX3_addFour_26 rfl ?_
  refine lv_topi (fun x_19 ex_19 => ?_)
  refine va_bast hx hb hK hP hD hS 1 0 rfl rfl (vin (a := 11) (by decide) (by decide) (by decide)) dX3_addFour_27 (fun H locs hP hD hS => ?_)
  obtain ⟨f_20, hP, hD⟩ : ∃ f_20 : Nat → Int32, va_P D vwCl [(h0, .inr (3, [.ref h1, .int 11])), (h1, .inl (c 0, 800, .inl f_20))] H ∧ va_D A [(h0, .inr (3, [.ref h1, .int 11])), (h1, .inl (c 0, 800, .inl f_20))] := ⟨_, hP, hD⟩
  refine lv_aload_n hx hb dX3_addFour_28 rfl (lv_at hl 1 rfl) ?_
  refine lv_dup hx hb dX3_addFour_29 rfl ?_
  refine va_get (D := D) (ci := 3) (v := .int 11) (C := RX3) (T := TX3) (N := 2) hx hb hts (fun _ h => List.mem_cons_of_mem _ (List.mem_append_right _ h)) hown hK hP 0 rfl rfl 1 (by decide) (hts (.fieldLink RX3 15 "CrownTable$Tape" "length" "I") (mem_i 2 rfl)) (fun _ h9 => h9) rfl dX3_addFour_30 ?_
  refine lv_iconst (v := 1) hx hb dX3_addFour_33 (by decide) ?_
  refine lv_iadd hx hb dX3_addFour_34 ?_
  refine lk_i (y := 12) (by decide) ?_
  refine va_put (D := D) (ci := 3) (v := .int 12) (ty := .int) (C := RX3) (T := TX3) (N := 2) hx hb hts (fun _ h => List.mem_cons_of_mem _ (List.mem_append_right _ h)) tyX3 tyX3_ok nmX3 hown hK hP hD hS 0 rfl rfl 1 (by decide) (hts (.fieldLink RX3 15 "CrownTable$Tape" "length" "I") (mem_i 2 rfl)) (fun _ h9 => h9) rfl (by decide +kernel) rfl rfl (Nat.le_of_ble_eq_true rfl) dX3_addFour_35 (fun H locs hP hD hS => ?_)
  have hP : va_P D vwCl [(h0, .inr (3, [.ref h1, .int 12])), (h1, .inl (c 0, 800, .inl f_20))] H := hP
  have hD : va_D A [(h0, .inr (3, [.ref h1, .int 12])), (h1, .inl (c 0, 800, .inl f_20))] := hD
  refine lv_iinc (v := (-8)) (lv' := [(2, .int (-8)), (0, .ref h0), (1, .int a1)]) hx hb dX3_addFour_38 hl (k := 0) rfl (by decide) (by decide) rfl (fun ls hl => ?_)
  refine lv_goto (tgt := 3) hx hb dX3_addFour_41 (by decide) ?_
  refine lv_iload_n hx hb dX3_addFour_3 rfl (lv_at hl 0 rfl) ?_
  refine iif_ltT (a := (-8)) (tgt := 44) hx hb (by decide) dX3_addFour_4 (by decide) (by decide) ?_
  have hP9 := hP.sub (ws' := [(h0, .inr (3, [.ref h1, .int 12])), (h1, .inl (c 0, 800, .inl f_20))]) [0, 1] rfl
  have hD9 := hD.sub (ws' := [(h0, .inr (3, [.ref h1, .int 12])), (h1, .inl (c 0, 800, .inl f_20))]) [0, 1] (by decide) rfl
  refine W.widen (k := 0) (n := 0) (by omega) (by omega) ?_
  exact W.vret hx hb hr (fun t ht hW => ⟨⟨(fun k => [].getD k 0, fun k => [f_20].getD k (fun _ => 0), fun k => [].getD k (fun _ => 0)), rfl, trivial, ⟨by rw [ht]; exact hP9, hD9⟩⟩, hS.F ht⟩) hS.2.2 dX3_addFour_44

set_option maxHeartbeats 4000000 in
set_option maxRecDepth 100000 in
theorem c_X3_hasRoom_13 (l : Launch) (D : va_G) (c : Nat → ClassId) (ts : Nat × Nat) (sz : Nat) (h0 : Nat) (h1 : Nat) : Met l yX3_hasRoom wsX3_hasRoom ({ frames := 0, cells := 0, slots := 0, locals := 0 }) (va_Pc [.ref h0, .int 1] (Pre0 D c ts [(h0, .inr (3, [.ref h1, .int 12]))] sz)) (vp_Si (fun r : Int32 => r = 1)) 0 0 (fun _ => False) := by
  refine Met.ofW (cc := cX3_hasRoom) (maxL := 2) (ret := (some .boolean)) (by decide) rfl ?_
  intro p e s m args below meth cd s₁ B hml hv
  obtain ⟨rfl, hsz, hP, hD0, hAm, hSt⟩ := hv
  have hx := B.exec
  have hb := B.bytes
  have hr := B.returns
  have hts := atoms_spec (ws := wsX3_hasRoom) B.pre
  have hown : s.vm.findClass RX3 = some m.cls := findClass_of_methodNamed B.named
  have hlocks := B.notSynchronized
  subst hsz
  have hK := hAm.1
  have hD := hD0.self (sz := s.heap.size)
  generalize hAe : va_A [(h0, .inr (3, [.ref h1, .int 12]))] s.heap.size = A at hD hSt
  have hA : ∀ q : Nat, s.heap.size ≤ q → A q := fun q h => by rw [← hAe]; exact Or.inr h
  have hS : va_S A s.heap s.heap [] := va_S.rf
  clear hD0 hAe
  have hl := lv_entry ([.ref h0, .int 1]) (n := 2) (Nat.le_of_ble_eq_true rfl)
  rw [lg_entry_eq]
  generalize (lg_sl ([.ref h0, .int 1]) ++ List.replicate (2 - (lg_sl ([.ref h0, .int 1])).length) Slot.unset).toArray = ls at hl ⊢
  have hl : lv_has ls 2 [(0, .ref h0), (1, .int 1)] := hl
  refine lv_aload_n hx hb dX3_hasRoom_0 rfl (lv_at hl 0 rfl) ?_
  refine va_get (D := D) (ci := 3) (v := .int 12) (C := RX3) (T := TX3) (N := 2) hx hb hts (fun _ h => List.mem_cons_of_mem _ (List.mem_append_right _ h)) hown hK hP 0 rfl rfl 1 (by decide) (hts (.fieldLink RX3 15 "CrownTable$Tape" "length" "I") (mem_i 1 rfl)) (fun _ h9 => h9) rfl dX3_hasRoom_1 ?_
  refine lv_iload_n hx hb dX3_hasRoom_4 rfl (lv_at hl 1 rfl) ?_
  refine lv_iadd hx hb dX3_hasRoom_5 ?_
  refine lk_i (y := 13) (by decide) ?_
  refine lv_sipush (v := 800) hx hb dX3_hasRoom_6 (by decide) ?_
  refine iicmp_gtF (a := 13) (b := 800) (tgt := 16) hx hb (by decide) (by decide) dX3_hasRoom_9 (by decide) (by decide) ?_
  refine lv_iconst (v := 1) hx hb dX3_hasRoom_12 (by decide) ?_
  refine lv_goto (tgt := 17) hx hb dX3_hasRoom_13 (by decide) ?_
  exact W.zret (v := 1) hx hb hr (by decide) (fun t ht hW => ⟨_, rfl, rfl, ht⟩) (fun _ h => by cases h) dX3_hasRoom_17

set_option maxHeartbeats 4000000 in
set_option maxRecDepth 100000 in
theorem c_X3_hasRoom_14 (l : Launch) (D : va_G) (c : Nat → ClassId) (ts : Nat × Nat) (sz : Nat) (h0 : Nat) (h1 : Nat) : Met l yX3_hasRoom wsX3_hasRoom ({ frames := 0, cells := 0, slots := 0, locals := 0 }) (va_Pc [.ref h0, .int 1] (Pre0 D c ts [(h0, .inr (3, [.ref h1, .int 13]))] sz)) (vp_Si (fun r : Int32 => r = 1)) 0 0 (fun _ => False) := by
  refine Met.ofW (cc := cX3_hasRoom) (maxL := 2) (ret := (some .boolean)) (by decide) rfl ?_
  intro p e s m args below meth cd s₁ B hml hv
  obtain ⟨rfl, hsz, hP, hD0, hAm, hSt⟩ := hv
  have hx := B.exec
  have hb := B.bytes
  have hr := B.returns
  have hts := atoms_spec (ws := wsX3_hasRoom) B.pre
  have hown : s.vm.findClass RX3 = some m.cls := findClass_of_methodNamed B.named
  have hlocks := B.notSynchronized
  subst hsz
  have hK := hAm.1
  have hD := hD0.self (sz := s.heap.size)
  generalize hAe : va_A [(h0, .inr (3, [.ref h1, .int 13]))] s.heap.size = A at hD hSt
  have hA : ∀ q : Nat, s.heap.size ≤ q → A q := fun q h => by rw [← hAe]; exact Or.inr h
  have hS : va_S A s.heap s.heap [] := va_S.rf
  clear hD0 hAe
  have hl := lv_entry ([.ref h0, .int 1]) (n := 2) (Nat.le_of_ble_eq_true rfl)
  rw [lg_entry_eq]
  generalize (lg_sl ([.ref h0, .int 1]) ++ List.replicate (2 - (lg_sl ([.ref h0, .int 1])).length) Slot.unset).toArray = ls at hl ⊢
  have hl : lv_has ls 2 [(0, .ref h0), (1, .int 1)] := hl
  refine lv_aload_n hx hb dX3_hasRoom_0 rfl (lv_at hl 0 rfl) ?_
  refine va_get (D := D) (ci := 3) (v := .int 13) (C := RX3) (T := TX3) (N := 2) hx hb hts (fun _ h => List.mem_cons_of_mem _ (List.mem_append_right _ h)) hown hK hP 0 rfl rfl 1 (by decide) (hts (.fieldLink RX3 15 "CrownTable$Tape" "length" "I") (mem_i 1 rfl)) (fun _ h9 => h9) rfl dX3_hasRoom_1 ?_
  refine lv_iload_n hx hb dX3_hasRoom_4 rfl (lv_at hl 1 rfl) ?_
  refine lv_iadd hx hb dX3_hasRoom_5 ?_
  refine lk_i (y := 14) (by decide) ?_
  refine lv_sipush (v := 800) hx hb dX3_hasRoom_6 (by decide) ?_
  refine iicmp_gtF (a := 14) (b := 800) (tgt := 16) hx hb (by decide) (by decide) dX3_hasRoom_9 (by decide) (by decide) ?_
  refine lv_iconst (v := 1) hx hb dX3_hasRoom_12 (by decide) ?_
  refine lv_goto (tgt := 17) hx hb dX3_hasRoom_13 (by decide) ?_
  exact W.zret (v := 1) hx hb hr (by decide) (fun t ht hW => ⟨_, rfl, rfl, ht⟩) (fun _ h => by cases h) dX3_hasRoom_17

set_option maxHeartbeats 4000000 in
set_option maxRecDepth 100000 in
theorem c_X3_hasRoom_15 (l : Launch) (D : va_G) (c : Nat → ClassId) (ts : Nat × Nat) (sz : Nat) (h0 : Nat) (h1 : Nat) : Met l yX3_hasRoom wsX3_hasRoom ({ frames := 0, cells := 0, slots := 0, locals := 0 }) (va_Pc [.ref h0, .int 1] (Pre0 D c ts [(h0, .inr (3, [.ref h1, .int 14]))] sz)) (vp_Si (fun r : Int32 => r = 1)) 0 0 (fun _ => False) := by
  refine Met.ofW (cc := cX3_hasRoom) (maxL := 2) (ret := (some .boolean)) (by decide) rfl ?_
  intro p e s m args below meth cd s₁ B hml hv
  obtain ⟨rfl, hsz, hP, hD0, hAm, hSt⟩ := hv
  have hx := B.exec
  have hb := B.bytes
  have hr := B.returns
  have hts := atoms_spec (ws := wsX3_hasRoom) B.pre
  have hown : s.vm.findClass RX3 = some m.cls := findClass_of_methodNamed B.named
  have hlocks := B.notSynchronized
  subst hsz
  have hK := hAm.1
  have hD := hD0.self (sz := s.heap.size)
  generalize hAe : va_A [(h0, .inr (3, [.ref h1, .int 14]))] s.heap.size = A at hD hSt
  have hA : ∀ q : Nat, s.heap.size ≤ q → A q := fun q h => by rw [← hAe]; exact Or.inr h
  have hS : va_S A s.heap s.heap [] := va_S.rf
  clear hD0 hAe
  have hl := lv_entry ([.ref h0, .int 1]) (n := 2) (Nat.le_of_ble_eq_true rfl)
  rw [lg_entry_eq]
  generalize (lg_sl ([.ref h0, .int 1]) ++ List.replicate (2 - (lg_sl ([.ref h0, .int 1])).length) Slot.unset).toArray = ls at hl ⊢
  have hl : lv_has ls 2 [(0, .ref h0), (1, .int 1)] := hl
  refine lv_aload_n hx hb dX3_hasRoom_0 rfl (lv_at hl 0 rfl) ?_
  refine va_get (D := D) (ci := 3) (v := .int 14) (C := RX3) (T := TX3) (N := 2) hx hb hts (fun _ h => List.mem_cons_of_mem _ (List.mem_append_right _ h)) hown hK hP 0 rfl rfl 1 (by decide) (hts (.fieldLink RX3 15 "CrownTable$Tape" "length" "I") (mem_i 1 rfl)) (fun _ h9 => h9) rfl dX3_hasRoom_1 ?_
  refine lv_iload_n hx hb dX3_hasRoom_4 rfl (lv_at hl 1 rfl) ?_
  refine lv_iadd hx hb dX3_hasRoom_5 ?_
  refine lk_i (y := 15) (by decide) ?_
  refine lv_sipush (v := 800) hx hb dX3_hasRoom_6 (by decide) ?_
  refine iicmp_gtF (a := 15) (b := 800) (tgt := 16) hx hb (by decide) (by decide) dX3_hasRoom_9 (by decide) (by decide) ?_
  refine lv_iconst (v := 1) hx hb dX3_hasRoom_12 (by decide) ?_
  refine lv_goto (tgt := 17) hx hb dX3_hasRoom_13 (by decide) ?_
  exact W.zret (v := 1) hx hb hr (by decide) (fun t ht hW => ⟨_, rfl, rfl, ht⟩) (fun _ h => by cases h) dX3_hasRoom_17

set_option maxHeartbeats 4000000 in
set_option maxRecDepth 100000 in
theorem c_X3_hasRoom_16 (l : Launch) (D : va_G) (c : Nat → ClassId) (ts : Nat × Nat) (sz : Nat) (h0 : Nat) (h1 : Nat) : Met l yX3_hasRoom wsX3_hasRoom ({ frames := 0, cells := 0, slots := 0, locals := 0 }) (va_Pc [.ref h0, .int 1] (Pre0 D c ts [(h0, .inr (3, [.ref h1, .int 15]))] sz)) (vp_Si (fun r : Int32 => r = 1)) 0 0 (fun _ => False) := by
  refine Met.ofW (cc := cX3_hasRoom) (maxL := 2) (ret := (some .boolean)) (by decide) rfl ?_
  intro p e s m args below meth cd s₁ B hml hv
  obtain ⟨rfl, hsz, hP, hD0, hAm, hSt⟩ := hv
  have hx := B.exec
  have hb := B.bytes
  have hr := B.returns
  have hts := atoms_spec (ws := wsX3_hasRoom) B.pre
  have hown : s.vm.findClass RX3 = some m.cls := findClass_of_methodNamed B.named
  have hlocks := B.notSynchronized
  subst hsz
  have hK := hAm.1
  have hD := hD0.self (sz := s.heap.size)
  generalize hAe : va_A [(h0, .inr (3, [.ref h1, .int 15]))] s.heap.size = A at hD hSt
  have hA : ∀ q : Nat, s.heap.size ≤ q → A q := fun q h => by rw [← hAe]; exact Or.inr h
  have hS : va_S A s.heap s.heap [] := va_S.rf
  clear hD0 hAe
  have hl := lv_entry ([.ref h0, .int 1]) (n := 2) (Nat.le_of_ble_eq_true rfl)
  rw [lg_entry_eq]
  generalize (lg_sl ([.ref h0, .int 1]) ++ List.replicate (2 - (lg_sl ([.ref h0, .int 1])).length) Slot.unset).toArray = ls at hl ⊢
  have hl : lv_has ls 2 [(0, .ref h0), (1, .int 1)] := hl
  refine lv_aload_n hx hb dX3_hasRoom_0 rfl (lv_at hl 0 rfl) ?_
  refine va_get (D := D) (ci := 3) (v := .int 15) (C := RX3) (T := TX3) (N := 2) hx hb hts (fun _ h => List.mem_cons_of_mem _ (List.mem_append_right _ h)) hown hK hP 0 rfl rfl 1 (by decide) (hts (.fieldLink RX3 15 "CrownTable$Tape" "length" "I") (mem_i 1 rfl)) (fun _ h9 => h9) rfl dX3_hasRoom_1 ?_
  refine lv_iload_n hx hb dX3_hasRoom_4 rfl (lv_at hl 1 rfl) ?_
  refine lv_iadd hx hb dX3_hasRoom_5 ?_
  refine lk_i (y := 16) (by decide) ?_
  refine lv_sipush (v := 800) hx hb dX3_hasRoom_6 (by decide) ?_
  refine iicmp_gtF (a := 16) (b := 800) (tgt := 16) hx hb (by decide) (by decide) dX3_hasRoom_9 (by decide) (by decide) ?_
  refine lv_iconst (v := 1) hx hb dX3_hasRoom_12 (by decide) ?_
  refine lv_goto (tgt := 17) hx hb dX3_hasRoom_13 (by decide) ?_
  exact W.zret (v := 1) hx hb hr (by decide) (fun t ht hW => ⟨_, rfl, rfl, ht⟩) (fun _ h => by cases h) dX3_hasRoom_17

set_option maxHeartbeats 4000000 in
set_option maxRecDepth 100000 in
theorem c_X3_addFour_3 (l : Launch) (D : va_G) (c : Nat → ClassId) (ts : Nat × Nat) (sz : Nat) (h0 : Nat) (h1 : Nat) (f0 : Nat → Int32) (a1 : Int32) (i_a1 : Int) (hi_a1 : a1.toInt = i_a1) : Met l yX3_addFour wsX3_addFour ({ frames := 1, cells := 0, slots := 0, locals := 21 }) (va_Pc [.ref h0, .int a1] (Pre0 D c ts [(h0, .inr (3, [.ref h1, .int 12])), (h1, .inl (c 0, 800, .inl f0))] sz)) (va_Qv (fun (u : (Nat → Nat) × (Nat → Nat → Int32) × (Nat → Nat → Int64)) => True) (fun u t => va_P D vwCl [(h0, .inr (3, [.ref h1, .int 16])), (h1, .inl (c 0, 800, .inl (u.2.1 0)))] t.heap ∧ va_D (va_A [(h0, .inr (3, [.ref h1, .int 12])), (h1, .inl (c 0, 800, .inl f0))] sz) [(h0, .inr (3, [.ref h1, .int 16])), (h1, .inl (c 0, 800, .inl (u.2.1 0)))]) (va_A [(h0, .inr (3, [.ref h1, .int 12])), (h1, .inl (c 0, 800, .inl f0))] sz)) 0 0 (va_A [(h0, .inr (3, [.ref h1, .int 12])), (h1, .inl (c 0, 800, .inl f0))] sz) := by
  refine Met.ofW (cc := cX3_addFour) (maxL := 3) (ret := none) (by decide) rfl ?_
  intro p e s m args below meth cd s₁ B hml hv
  obtain ⟨rfl, hsz, hP, hD0, hAm, hSt⟩ := hv
  have hx := B.exec
  have hb := B.bytes
  have hr := B.returns
  have hts := atoms_spec (ws := wsX3_addFour) B.pre
  have hown : s.vm.findClass RX3 = some m.cls := findClass_of_methodNamed B.named
  have hlocks := B.notSynchronized
  subst hsz
  have hK := hAm.1
  have hD := hD0.self (sz := s.heap.size)
  generalize hAe : va_A [(h0, .inr (3, [.ref h1, .int 12])), (h1, .inl (c 0, 800, .inl f0))] s.heap.size = A at hD hSt ⊢
  have hA : ∀ q : Nat, s.heap.size ≤ q → A q := fun q h => by rw [← hAe]; exact Or.inr h
  have hS : va_S A s.heap s.heap [] := va_S.rf
  clear hD0 hAe
  have hl := lv_entry ([.ref h0, .int a1]) (n := 3) (Nat.le_of_ble_eq_true rfl)
  rw [lg_entry_eq]
  generalize (lg_sl ([.ref h0, .int a1]) ++ List.replicate (3 - (lg_sl ([.ref h0, .int a1])).length) Slot.unset).toArray = ls at hl ⊢
  have hl : lv_has ls 3 [(0, .ref h0), (1, .int a1)] := hl
  refine lv_bipush (v := 24) hx hb dX3_addFour_0 (by decide) ?_
  refine lv_istore_n (lv' := [(2, .int 24), (0, .ref h0), (1, .int a1)]) hx hb dX3_addFour_2 rfl hl (by decide) rfl (fun ls hl => ?_)
  refine lv_iload_n hx hb dX3_addFour_3 rfl (lv_at hl 0 rfl) ?_
  refine iif_ltF (a := 24) (tgt := 44) hx hb (by decide) dX3_addFour_4 (by decide) (by decide) ?_
  refine lv_aload_n hx hb dX3_addFour_7 rfl (lv_at hl 1 rfl) ?_
  refine lv_iconst (v := 1) hx hb dX3_addFour_8 (by decide) ?_
  have hPc := hP.sub (ws' := [(h0, .inr (3, [.ref h1, .int 12]))]) [0] rfl
  have hDc := hD.sub (ws' := [(h0, .inr (3, [.ref h1, .int 12]))]) [0] (by decide) rfl
  have hFc := va_free (wc := [(h0, .inr (3, [.ref h1, .int 12]))]) hD hS hA [0] rfl
  refine va_csi (va_runV (As := [.int 1]) (rest := []) ⟨hx, hb, hml, hown, hts⟩ (c_X3_hasRoom_13 l D c ts s.heap.size h0 h1) (cwV 1 hts gX3_addFour_X3_hasRoom rfl rfl rfl ⟨rfl, hdX3_hasRoom⟩ ⟨(show 0 + 1 ≤ 1 by decide), (show 8 + (2 + 11) + 0 ≤ 21 by decide)⟩) ⟨Pre0.blind, va_recv hK hPc (ci := 3) (q0 := 0) rfl rfl, Pre0.at hPc hDc hAm hSt hS hFc⟩ rfl rfl hl.1 rfl (lv_room (Nat.le_of_ble_eq_true rfl)) dX3_addFour_9 ⟨(show 0 + 0 ≤ 0 by decide), (show 0 + 0 ≤ 0 by decide)⟩) (fun r_2 hw_1 => ?_)
  refine lk_i (y := 1) hw_1 ?_
  refine iif_eqF (a := 1) (tgt := 38) hx hb (by decide) dX3_addFour_12 (by decide) (by decide) ?_
  refine lv_aload_n hx hb dX3_addFour_15 rfl (lv_at hl 1 rfl) ?_
  refine va_get (D := D) (ci := 3) (v := .ref h1) (C := RX3) (T := TX3) (N := 2) hx hb hts (fun _ h => List.mem_cons_of_mem _ (List.mem_append_right _ h)) hown hK hP 0 rfl rfl 0 (by decide) (hts (.fieldLink RX3 9 "CrownTable$Tape" "bytes" "[B") (mem_i 1 rfl)) (fun _ h9 => h9) rfl dX3_addFour_16 ?_
  refine lv_aload_n hx hb dX3_addFour_19 rfl (lv_at hl 1 rfl) ?_
  refine va_get (D := D) (ci := 3) (v := .int 12) (C := RX3) (T := TX3) (N := 2) hx hb hts (fun _ h => List.mem_cons_of_mem _ (List.mem_append_right _ h)) hown hK hP 0 rfl rfl 1 (by decide) (hts (.fieldLink RX3 15 "CrownTable$Tape" "length" "I") (mem_i 2 rfl)) (fun _ h9 => h9) rfl dX3_addFour_20 ?_
  refine lv_iload_n hx hb dX3_addFour_23 rfl (lv_at hl 2 rfl) ?_
  refine lv_iload_n hx hb dX3_addFour_24 rfl (lv_at hl 0 rfl) ?_
  refine lv_iushr hx hb dX3_addFour_25 rfl ?_
  refine lv_topi (fun x_3 ex_3 => ?_)
  refine lv_i2b hx hb dX3_addFour_26 rfl ?_
  refine lv_topi (fun x_4 ex_4 => ?_)
  refine va_bast hx hb hK hP hD hS 1 0 rfl rfl (vin (a := 12) (by decide) (by decide) (by decide)) dX3_addFour_27 (fun H locs hP hD hS => ?_)
  obtain ⟨f_5, hP, hD⟩ : ∃ f_5 : Nat → Int32, va_P D vwCl [(h0, .inr (3, [.ref h1, .int 12])), (h1, .inl (c 0, 800, .inl f_5))] H ∧ va_D A [(h0, .inr (3, [.ref h1, .int 12])), (h1, .inl (c 0, 800, .inl f_5))] := ⟨_, hP, hD⟩
  refine lv_aload_n hx hb dX3_addFour_28 rfl (lv_at hl 1 rfl) ?_
  refine lv_dup hx hb dX3_addFour_29 rfl ?_
  refine va_get (D := D) (ci := 3) (v := .int 12) (C := RX3) (T := TX3) (N := 2) hx hb hts (fun _ h => List.mem_cons_of_mem _ (List.mem_append_right _ h)) hown hK hP 0 rfl rfl 1 (by decide) (hts (.fieldLink RX3 15 "CrownTable$Tape" "length" "I") (mem_i 2 rfl)) (fun _ h9 => h9) rfl dX3_addFour_30 ?_
  refine lv_iconst (v := 1) hx hb dX3_addFour_33 (by decide) ?_
  refine lv_iadd hx hb dX3_addFour_34 ?_
  refine lk_i (y := 13) (by decide) ?_
  refine va_put (D := D) (ci := 3) (v := .int 13) (ty := .int) (C := RX3) (T := TX3) (N := 2) hx hb hts (fun _ h => List.mem_cons_of_mem _ (List.mem_append_right _ h)) tyX3 tyX3_ok nmX3 hown hK hP hD hS 0 rfl rfl 1 (by decide) (hts (.fieldLink RX3 15 "CrownTable$Tape" "length" "I") (mem_i 2 rfl)) (fun _ h9 => h9) rfl (by decide +kernel) rfl rfl (Nat.le_of_ble_eq_true rfl) dX3_addFour_35 (fun H locs hP hD hS => ?_)
  have hP : va_P D vwCl [(h0, .inr (3, [.ref h1, .int 13])), (h1, .inl (c 0, 800, .inl f_5))] H := hP
  have hD : va_D A [(h0, .inr (3, [.ref h1, .int 13])), (h1, .inl (c 0, 800, .inl f_5))] := hD
  refine lv_iinc (v := 16) (lv' := [(2, .int 16), (0, .ref h0), (1, .int a1)]) hx hb dX3_addFour_38 hl (k := 0) rfl (by decide) (by decide) rfl (fun ls hl => ?_)
  refine lv_goto (tgt := 3) hx hb dX3_addFour_41 (by decide) ?_
  refine lv_iload_n hx hb dX3_addFour_3 rfl (lv_at hl 0 rfl) ?_
  refine iif_ltF (a := 16) (tgt := 44) hx hb (by decide) dX3_addFour_4 (by decide) (by decide) ?_
  refine lv_aload_n hx hb dX3_addFour_7 rfl (lv_at hl 1 rfl) ?_
  refine lv_iconst (v := 1) hx hb dX3_addFour_8 (by decide) ?_
  have hPc := hP.sub (ws' := [(h0, .inr (3, [.ref h1, .int 13]))]) [0] rfl
  have hDc := hD.sub (ws' := [(h0, .inr (3, [.ref h1, .int 13]))]) [0] (by decide) rfl
  have hFc := va_free (wc := [(h0, .inr (3, [.ref h1, .int 13]))]) hD hS hA [0] rfl
  refine va_csi (va_runV (As := [.int 1]) (rest := []) ⟨hx, hb, hml, hown, hts⟩ (c_X3_hasRoom_14 l D c ts H.size h0 h1) (cwV 1 hts gX3_addFour_X3_hasRoom rfl rfl rfl ⟨rfl, hdX3_hasRoom⟩ ⟨(show 0 + 1 ≤ 1 by decide), (show 8 + (2 + 11) + 0 ≤ 21 by decide)⟩) ⟨Pre0.blind, va_recv hK hPc (ci := 3) (q0 := 0) rfl rfl, Pre0.at hPc hDc hAm hSt hS hFc⟩ rfl rfl hl.1 rfl (lv_room (Nat.le_of_ble_eq_true rfl)) dX3_addFour_9 ⟨(show 0 + 0 ≤ 0 by decide), (show 0 + 0 ≤ 0 by decide)⟩) (fun r_7 hw_6 => ?_)
  refine lk_i (y := 1) hw_6 ?_
  refine iif_eqF (a := 1) (tgt := 38) hx hb (by decide) dX3_addFour_12 (by decide) (by decide) ?_
  refine lv_aload_n hx hb dX3_addFour_15 rfl (lv_at hl 1 rfl) ?_
  refine va_get (D := D) (ci := 3) (v := .ref h1) (C := RX3) (T := TX3) (N := 2) hx hb hts (fun _ h => List.mem_cons_of_mem _ (List.mem_append_right _ h)) hown hK hP 0 rfl rfl 0 (by decide) (hts (.fieldLink RX3 9 "CrownTable$Tape" "bytes" "[B") (mem_i 1 rfl)) (fun _ h9 => h9) rfl dX3_addFour_16 ?_
  refine lv_aload_n hx hb dX3_addFour_19 rfl (lv_at hl 1 rfl) ?_
  refine va_get (D := D) (ci := 3) (v := .int 13) (C := RX3) (T := TX3) (N := 2) hx hb hts (fun _ h => List.mem_cons_of_mem _ (List.mem_append_right _ h)) hown hK hP 0 rfl rfl 1 (by decide) (hts (.fieldLink RX3 15 "CrownTable$Tape" "length" "I") (mem_i 2 rfl)) (fun _ h9 => h9) rfl dX3_addFour_20 ?_
  refine lv_iload_n hx hb dX3_addFour_23 rfl (lv_at hl 2 rfl) ?_
  refine lv_iload_n hx hb dX3_addFour_24 rfl (lv_at hl 0 rfl) ?_
  refine lv_iushr hx hb dX3_addFour_25 rfl ?_
  refine lv_topi (fun x_8 ex_8 => ?_)
  refine lv_i2b hx hb dX3_addFour_26 rfl ?_
  refine lv_topi (fun x_9 ex_9 => ?_)
  refine va_bast hx hb hK hP hD hS 1 0 rfl rfl (vin (a := 13) (by decide) (by decide) (by decide)) dX3_addFour_27 (fun H locs hP hD hS => ?_)
  obtain ⟨f_10, hP, hD⟩ : ∃ f_10 : Nat → Int32, va_P D vwCl [(h0, .inr (3, [.ref h1, .int 13])), (h1, .inl (c 0, 800, .inl f_10))] H ∧ va_D A [(h0, .inr (3, [.ref h1, .int 13])), (h1, .inl (c 0, 800, .inl f_10))] := ⟨_, hP, hD⟩
  refine lv_aload_n hx hb dX3_addFour_28 rfl (lv_at hl 1 rfl) ?_
  refine lv_dup hx hb dX3_addFour_29 rfl ?_
  refine va_get (D := D) (ci := 3) (v := .int 13) (C := RX3) (T := TX3) (N := 2) hx hb hts (fun _ h => List.mem_cons_of_mem _ (List.mem_append_right _ h)) hown hK hP 0 rfl rfl 1 (by decide) (hts (.fieldLink RX3 15 "CrownTable$Tape" "length" "I") (mem_i 2 rfl)) (fun _ h9 => h9) rfl dX3_addFour_30 ?_
  refine lv_iconst (v := 1) hx hb dX3_addFour_33 (by decide) ?_
  refine lv_iadd hx hb dX3_addFour_34 ?_
  refine lk_i (y := 14) (by decide) ?_
  refine va_put (D := D) (ci := 3) (v := .int 14) (ty := .int) (C := RX3) (T := TX3) (N := 2) hx hb hts (fun _ h => List.mem_cons_of_mem _ (List.mem_append_right _ h)) tyX3 tyX3_ok nmX3 hown hK hP hD hS 0 rfl rfl 1 (by decide) (hts (.fieldLink RX3 15 "CrownTable$Tape" "length" "I") (mem_i 2 rfl)) (fun _ h9 => h9) rfl (by decide +kernel) rfl rfl (Nat.le_of_ble_eq_true rfl) dX3_addFour_35 (fun H locs hP hD hS => ?_)
  have hP : va_P D vwCl [(h0, .inr (3, [.ref h1, .int 14])), (h1, .inl (c 0, 800, .inl f_10))] H := hP
  have hD : va_D A [(h0, .inr (3, [.ref h1, .int 14])), (h1, .inl (c 0, 800, .inl f_10))] := hD
  refine lv_iinc (v := 8) (lv' := [(2, .int 8), (0, .ref h0), (1, .int a1)]) hx hb dX3_addFour_38 hl (k := 0) rfl (by decide) (by decide) rfl (fun ls hl => ?_)
  refine lv_goto (tgt := 3) hx hb dX3_addFour_41 (by decide) ?_
  refine lv_iload_n hx hb dX3_addFour_3 rfl (lv_at hl 0 rfl) ?_
  refine iif_ltF (a := 8) (tgt := 44) hx hb (by decide) dX3_addFour_4 (by decide) (by decide) ?_
  refine lv_aload_n hx hb dX3_addFour_7 rfl (lv_at hl 1 rfl) ?_
  refine lv_iconst (v := 1) hx hb dX3_addFour_8 (by decide) ?_
  have hPc := hP.sub (ws' := [(h0, .inr (3, [.ref h1, .int 14]))]) [0] rfl
  have hDc := hD.sub (ws' := [(h0, .inr (3, [.ref h1, .int 14]))]) [0] (by decide) rfl
  have hFc := va_free (wc := [(h0, .inr (3, [.ref h1, .int 14]))]) hD hS hA [0] rfl
  refine va_csi (va_runV (As := [.int 1]) (rest := []) ⟨hx, hb, hml, hown, hts⟩ (c_X3_hasRoom_15 l D c ts H.size h0 h1) (cwV 1 hts gX3_addFour_X3_hasRoom rfl rfl rfl ⟨rfl, hdX3_hasRoom⟩ ⟨(show 0 + 1 ≤ 1 by decide), (show 8 + (2 + 11) + 0 ≤ 21 by decide)⟩) ⟨Pre0.blind, va_recv hK hPc (ci := 3) (q0 := 0) rfl rfl, Pre0.at hPc hDc hAm hSt hS hFc⟩ rfl rfl hl.1 rfl (lv_room (Nat.le_of_ble_eq_true rfl)) dX3_addFour_9 ⟨(show 0 + 0 ≤ 0 by decide), (show 0 + 0 ≤ 0 by decide)⟩) (fun r_12 hw_11 => ?_)
  refine lk_i (y := 1) hw_11 ?_
  refine iif_eqF (a := 1) (tgt := 38) hx hb (by decide) dX3_addFour_12 (by decide) (by decide) ?_
  refine lv_aload_n hx hb dX3_addFour_15 rfl (lv_at hl 1 rfl) ?_
  refine va_get (D := D) (ci := 3) (v := .ref h1) (C := RX3) (T := TX3) (N := 2) hx hb hts (fun _ h => List.mem_cons_of_mem _ (List.mem_append_right _ h)) hown hK hP 0 rfl rfl 0 (by decide) (hts (.fieldLink RX3 9 "CrownTable$Tape" "bytes" "[B") (mem_i 1 rfl)) (fun _ h9 => h9) rfl dX3_addFour_16 ?_
  refine lv_aload_n hx hb dX3_addFour_19 rfl (lv_at hl 1 rfl) ?_
  refine va_get (D := D) (ci := 3) (v := .int 14) (C := RX3) (T := TX3) (N := 2) hx hb hts (fun _ h => List.mem_cons_of_mem _ (List.mem_append_right _ h)) hown hK hP 0 rfl rfl 1 (by decide) (hts (.fieldLink RX3 15 "CrownTable$Tape" "length" "I") (mem_i 2 rfl)) (fun _ h9 => h9) rfl dX3_addFour_20 ?_
  refine lv_iload_n hx hb dX3_addFour_23 rfl (lv_at hl 2 rfl) ?_
  refine lv_iload_n hx hb dX3_addFour_24 rfl (lv_at hl 0 rfl) ?_
  refine lv_iushr hx hb dX3_addFour_25 rfl ?_
  refine lv_topi (fun x_13 ex_13 => ?_)
  refine lv_i2b hx hb dX3_addFour_26 rfl ?_
  refine lv_topi (fun x_14 ex_14 => ?_)
  refine va_bast hx hb hK hP hD hS 1 0 rfl rfl (vin (a := 14) (by decide) (by decide) (by decide)) dX3_addFour_27 (fun H locs hP hD hS => ?_)
  obtain ⟨f_15, hP, hD⟩ : ∃ f_15 : Nat → Int32, va_P D vwCl [(h0, .inr (3, [.ref h1, .int 14])), (h1, .inl (c 0, 800, .inl f_15))] H ∧ va_D A [(h0, .inr (3, [.ref h1, .int 14])), (h1, .inl (c 0, 800, .inl f_15))] := ⟨_, hP, hD⟩
  refine lv_aload_n hx hb dX3_addFour_28 rfl (lv_at hl 1 rfl) ?_
  refine lv_dup hx hb dX3_addFour_29 rfl ?_
  refine va_get (D := D) (ci := 3) (v := .int 14) (C := RX3) (T := TX3) (N := 2) hx hb hts (fun _ h => List.mem_cons_of_mem _ (List.mem_append_right _ h)) hown hK hP 0 rfl rfl 1 (by decide) (hts (.fieldLink RX3 15 "CrownTable$Tape" "length" "I") (mem_i 2 rfl)) (fun _ h9 => h9) rfl dX3_addFour_30 ?_
  refine lv_iconst (v := 1) hx hb dX3_addFour_33 (by decide) ?_
  refine lv_iadd hx hb dX3_addFour_34 ?_
  refine lk_i (y := 15) (by decide) ?_
  refine va_put (D := D) (ci := 3) (v := .int 15) (ty := .int) (C := RX3) (T := TX3) (N := 2) hx hb hts (fun _ h => List.mem_cons_of_mem _ (List.mem_append_right _ h)) tyX3 tyX3_ok nmX3 hown hK hP hD hS 0 rfl rfl 1 (by decide) (hts (.fieldLink RX3 15 "CrownTable$Tape" "length" "I") (mem_i 2 rfl)) (fun _ h9 => h9) rfl (by decide +kernel) rfl rfl (Nat.le_of_ble_eq_true rfl) dX3_addFour_35 (fun H locs hP hD hS => ?_)
  have hP : va_P D vwCl [(h0, .inr (3, [.ref h1, .int 15])), (h1, .inl (c 0, 800, .inl f_15))] H := hP
  have hD : va_D A [(h0, .inr (3, [.ref h1, .int 15])), (h1, .inl (c 0, 800, .inl f_15))] := hD
  refine lv_iinc (v := 0) (lv' := [(2, .int 0), (0, .ref h0), (1, .int a1)]) hx hb dX3_addFour_38 hl (k := 0) rfl (by decide) (by decide) rfl (fun ls hl => ?_)
  refine lv_goto (tgt := 3) hx hb dX3_addFour_41 (by decide) ?_
  refine lv_iload_n hx hb dX3_addFour_3 rfl (lv_at hl 0 rfl) ?_
  refine iif_ltF (a := 0) (tgt := 44) hx hb (by decide) dX3_addFour_4 (by decide) (by decide) ?_
  refine lv_aload_n hx hb dX3_addFour_7 rfl (lv_at hl 1 rfl) ?_
  refine lv_iconst (v := 1) hx hb dX3_addFour_8 (by decide) ?_
  have hPc := hP.sub (ws' := [(h0, .inr (3, [.ref h1, .int 15]))]) [0] rfl
  have hDc := hD.sub (ws' := [(h0, .inr (3, [.ref h1, .int 15]))]) [0] (by decide) rfl
  have hFc := va_free (wc := [(h0, .inr (3, [.ref h1, .int 15]))]) hD hS hA [0] rfl
  refine va_csi (va_runV (As := [.int 1]) (rest := []) ⟨hx, hb, hml, hown, hts⟩ (c_X3_hasRoom_16 l D c ts H.size h0 h1) (cwV 1 hts gX3_addFour_X3_hasRoom rfl rfl rfl ⟨rfl, hdX3_hasRoom⟩ ⟨(show 0 + 1 ≤ 1 by decide), (show 8 + (2 + 11) + 0 ≤ 21 by decide)⟩) ⟨Pre0.blind, va_recv hK hPc (ci := 3) (q0 := 0) rfl rfl, Pre0.at hPc hDc hAm hSt hS hFc⟩ rfl rfl hl.1 rfl (lv_room (Nat.le_of_ble_eq_true rfl)) dX3_addFour_9 ⟨(show 0 + 0 ≤ 0 by decide), (show 0 + 0 ≤ 0 by decide)⟩) (fun r_17 hw_16 => ?_)
  refine lk_i (y := 1) hw_16 ?_
  refine iif_eqF (a := 1) (tgt := 38) hx hb (by decide) dX3_addFour_12 (by decide) (by decide) ?_
  refine lv_aload_n hx hb dX3_addFour_15 rfl (lv_at hl 1 rfl) ?_
  refine va_get (D := D) (ci := 3) (v := .ref h1) (C := RX3) (T := TX3) (N := 2) hx hb hts (fun _ h => List.mem_cons_of_mem _ (List.mem_append_right _ h)) hown hK hP 0 rfl rfl 0 (by decide) (hts (.fieldLink RX3 9 "CrownTable$Tape" "bytes" "[B") (mem_i 1 rfl)) (fun _ h9 => h9) rfl dX3_addFour_16 ?_
  refine lv_aload_n hx hb dX3_addFour_19 rfl (lv_at hl 1 rfl) ?_
  refine va_get (D := D) (ci := 3) (v := .int 15) (C := RX3) (T := TX3) (N := 2) hx hb hts (fun _ h => List.mem_cons_of_mem _ (List.mem_append_right _ h)) hown hK hP 0 rfl rfl 1 (by decide) (hts (.fieldLink RX3 15 "CrownTable$Tape" "length" "I") (mem_i 2 rfl)) (fun _ h9 => h9) rfl dX3_addFour_20 ?_
  refine lv_iload_n hx hb dX3_addFour_23 rfl (lv_at hl 2 rfl) ?_
  refine lv_iload_n hx hb dX3_addFour_24 rfl (lv_at hl 0 rfl) ?_
  refine lv_iushr hx hb dX3_addFour_25 rfl ?_
  refine lv_topi (fun x_18 ex_18 => ?_)
  refine lv_i2b hx hb dX3_addFour_26 rfl ?_
  refine lv_topi (fun x_19 ex_19 => ?_)
  refine va_bast hx hb hK hP hD hS 1 0 rfl rfl (vin (a := 15) (by decide) (by decide) (by decide)) dX3_addFour_27 (fun H locs hP hD hS => ?_)
  obtain ⟨f_20, hP, hD⟩ : ∃ f_20 : Nat → Int32, va_P D vwCl [(h0, .inr (3, [.ref h1, .int 15])), (h1, .inl (c 0, 800, .inl f_20))] H ∧ va_D A [(h0, .inr (3, [.ref h1, .int 15])), (h1, .inl (c 0, 800, .inl f_20))] := ⟨_, hP, hD⟩
  refine lv_aload_n hx hb dX3_addFour_28 rfl (lv_at hl 1 rfl) ?_
  refine lv_dup hx hb dX3_addFour_29 rfl ?_
  refine va_get (D := D) (ci := 3) (v := .int 15) (C := RX3) (T := TX3) (N := 2) hx hb hts (fun _ h => List.mem_cons_of_mem _ (List.mem_append_right _ h)) hown hK hP 0 rfl rfl 1 (by decide) (hts (.fieldLink RX3 15 "CrownTable$Tape" "length" "I") (mem_i 2 rfl)) (fun _ h9 => h9) rfl dX3_addFour_30 ?_
  refine lv_iconst (v := 1) hx hb dX3_addFour_33 (by decide) ?_
  refine lv_iadd hx hb dX3_addFour_34 ?_
  refine lk_i (y := 16) (by decide) ?_
  refine va_put (D := D) (ci := 3) (v := .int 16) (ty := .int) (C := RX3) (T := TX3) (N := 2) hx hb hts (fun _ h => List.mem_cons_of_mem _ (List.mem_append_right _ h)) tyX3 tyX3_ok nmX3 hown hK hP hD hS 0 rfl rfl 1 (by decide) (hts (.fieldLink RX3 15 "CrownTable$Tape" "length" "I") (mem_i 2 rfl)) (fun _ h9 => h9) rfl (by decide +kernel) rfl rfl (Nat.le_of_ble_eq_true rfl) dX3_addFour_35 (fun H locs hP hD hS => ?_)
  have hP : va_P D vwCl [(h0, .inr (3, [.ref h1, .int 16])), (h1, .inl (c 0, 800, .inl f_20))] H := hP
  have hD : va_D A [(h0, .inr (3, [.ref h1, .int 16])), (h1, .inl (c 0, 800, .inl f_20))] := hD
  refine lv_iinc (v := (-8)) (lv' := [(2, .int (-8)), (0, .ref h0), (1, .int a1)]) hx hb dX3_addFour_38 hl (k := 0) rfl (by decide) (by decide) rfl (fun ls hl => ?_)
  refine lv_goto (tgt := 3) hx hb dX3_addFour_41 (by decide) ?_
  refine lv_iload_n hx hb dX3_addFour_3 rfl (lv_at hl 0 rfl) ?_
  refine iif_ltT (a := (-8)) (tgt := 44) hx hb (by decide) dX3_addFour_4 (by decide) (by decide) ?_
  have hP9 := hP.sub (ws' := [(h0, .inr (3, [.ref h1, .int 16])), (h1, .inl (c 0, 800, .inl f_20))]) [0, 1] rfl
  have hD9 := hD.sub (ws' := [(h0, .inr (3, [.ref h1, .int 16])), (h1, .inl (c 0, 800, .inl f_20))]) [0, 1] (by decide) rfl
  refine W.widen (k := 0) (n := 0) (by omega) (by omega) ?_
  exact W.vret hx hb hr (fun t ht hW => ⟨⟨(fun k => [].getD k 0, fun k => [f_20].getD k (fun _ => 0), fun k => [].getD k (fun _ => 0)), rfl, trivial, ⟨by rw [ht]; exact hP9, hD9⟩⟩, hS.F ht⟩) hS.2.2 dX3_addFour_44

set_option maxHeartbeats 4000000 in
set_option maxRecDepth 100000 in
theorem c_X3_hasRoom_17 (l : Launch) (D : va_G) (c : Nat → ClassId) (ts : Nat × Nat) (sz : Nat) (h0 : Nat) (h1 : Nat) : Met l yX3_hasRoom wsX3_hasRoom ({ frames := 0, cells := 0, slots := 0, locals := 0 }) (va_Pc [.ref h0, .int 1] (Pre0 D c ts [(h0, .inr (3, [.ref h1, .int 16]))] sz)) (vp_Si (fun r : Int32 => r = 1)) 0 0 (fun _ => False) := by
  refine Met.ofW (cc := cX3_hasRoom) (maxL := 2) (ret := (some .boolean)) (by decide) rfl ?_
  intro p e s m args below meth cd s₁ B hml hv
  obtain ⟨rfl, hsz, hP, hD0, hAm, hSt⟩ := hv
  have hx := B.exec
  have hb := B.bytes
  have hr := B.returns
  have hts := atoms_spec (ws := wsX3_hasRoom) B.pre
  have hown : s.vm.findClass RX3 = some m.cls := findClass_of_methodNamed B.named
  have hlocks := B.notSynchronized
  subst hsz
  have hK := hAm.1
  have hD := hD0.self (sz := s.heap.size)
  generalize hAe : va_A [(h0, .inr (3, [.ref h1, .int 16]))] s.heap.size = A at hD hSt
  have hA : ∀ q : Nat, s.heap.size ≤ q → A q := fun q h => by rw [← hAe]; exact Or.inr h
  have hS : va_S A s.heap s.heap [] := va_S.rf
  clear hD0 hAe
  have hl := lv_entry ([.ref h0, .int 1]) (n := 2) (Nat.le_of_ble_eq_true rfl)
  rw [lg_entry_eq]
  generalize (lg_sl ([.ref h0, .int 1]) ++ List.replicate (2 - (lg_sl ([.ref h0, .int 1])).length) Slot.unset).toArray = ls at hl ⊢
  have hl : lv_has ls 2 [(0, .ref h0), (1, .int 1)] := hl
  refine lv_aload_n hx hb dX3_hasRoom_0 rfl (lv_at hl 0 rfl) ?_
  refine va_get (D := D) (ci := 3) (v := .int 16) (C := RX3) (T := TX3) (N := 2) hx hb hts (fun _ h => List.mem_cons_of_mem _ (List.mem_append_right _ h)) hown hK hP 0 rfl rfl 1 (by decide) (hts (.fieldLink RX3 15 "CrownTable$Tape" "length" "I") (mem_i 1 rfl)) (fun _ h9 => h9) rfl dX3_hasRoom_1 ?_
  refine lv_iload_n hx hb dX3_hasRoom_4 rfl (lv_at hl 1 rfl) ?_
  refine lv_iadd hx hb dX3_hasRoom_5 ?_
  refine lk_i (y := 17) (by decide) ?_
  refine lv_sipush (v := 800) hx hb dX3_hasRoom_6 (by decide) ?_
  refine iicmp_gtF (a := 17) (b := 800) (tgt := 16) hx hb (by decide) (by decide) dX3_hasRoom_9 (by decide) (by decide) ?_
  refine lv_iconst (v := 1) hx hb dX3_hasRoom_12 (by decide) ?_
  refine lv_goto (tgt := 17) hx hb dX3_hasRoom_13 (by decide) ?_
  exact W.zret (v := 1) hx hb hr (by decide) (fun t ht hW => ⟨_, rfl, rfl, ht⟩) (fun _ h => by cases h) dX3_hasRoom_17

set_option maxHeartbeats 4000000 in
set_option maxRecDepth 100000 in
theorem c_X3_hasRoom_18 (l : Launch) (D : va_G) (c : Nat → ClassId) (ts : Nat × Nat) (sz : Nat) (h0 : Nat) (h1 : Nat) : Met l yX3_hasRoom wsX3_hasRoom ({ frames := 0, cells := 0, slots := 0, locals := 0 }) (va_Pc [.ref h0, .int 1] (Pre0 D c ts [(h0, .inr (3, [.ref h1, .int 17]))] sz)) (vp_Si (fun r : Int32 => r = 1)) 0 0 (fun _ => False) := by
  refine Met.ofW (cc := cX3_hasRoom) (maxL := 2) (ret := (some .boolean)) (by decide) rfl ?_
  intro p e s m args below meth cd s₁ B hml hv
  obtain ⟨rfl, hsz, hP, hD0, hAm, hSt⟩ := hv
  have hx := B.exec
  have hb := B.bytes
  have hr := B.returns
  have hts := atoms_spec (ws := wsX3_hasRoom) B.pre
  have hown : s.vm.findClass RX3 = some m.cls := findClass_of_methodNamed B.named
  have hlocks := B.notSynchronized
  subst hsz
  have hK := hAm.1
  have hD := hD0.self (sz := s.heap.size)
  generalize hAe : va_A [(h0, .inr (3, [.ref h1, .int 17]))] s.heap.size = A at hD hSt
  have hA : ∀ q : Nat, s.heap.size ≤ q → A q := fun q h => by rw [← hAe]; exact Or.inr h
  have hS : va_S A s.heap s.heap [] := va_S.rf
  clear hD0 hAe
  have hl := lv_entry ([.ref h0, .int 1]) (n := 2) (Nat.le_of_ble_eq_true rfl)
  rw [lg_entry_eq]
  generalize (lg_sl ([.ref h0, .int 1]) ++ List.replicate (2 - (lg_sl ([.ref h0, .int 1])).length) Slot.unset).toArray = ls at hl ⊢
  have hl : lv_has ls 2 [(0, .ref h0), (1, .int 1)] := hl
  refine lv_aload_n hx hb dX3_hasRoom_0 rfl (lv_at hl 0 rfl) ?_
  refine va_get (D := D) (ci := 3) (v := .int 17) (C := RX3) (T := TX3) (N := 2) hx hb hts (fun _ h => List.mem_cons_of_mem _ (List.mem_append_right _ h)) hown hK hP 0 rfl rfl 1 (by decide) (hts (.fieldLink RX3 15 "CrownTable$Tape" "length" "I") (mem_i 1 rfl)) (fun _ h9 => h9) rfl dX3_hasRoom_1 ?_
  refine lv_iload_n hx hb dX3_hasRoom_4 rfl (lv_at hl 1 rfl) ?_
  refine lv_iadd hx hb dX3_hasRoom_5 ?_
  refine lk_i (y := 18) (by decide) ?_
  refine lv_sipush (v := 800) hx hb dX3_hasRoom_6 (by decide) ?_
  refine iicmp_gtF (a := 18) (b := 800) (tgt := 16) hx hb (by decide) (by decide) dX3_hasRoom_9 (by decide) (by decide) ?_
  refine lv_iconst (v := 1) hx hb dX3_hasRoom_12 (by decide) ?_
  refine lv_goto (tgt := 17) hx hb dX3_hasRoom_13 (by decide) ?_
  exact W.zret (v := 1) hx hb hr (by decide) (fun t ht hW => ⟨_, rfl, rfl, ht⟩) (fun _ h => by cases h) dX3_hasRoom_17

set_option maxHeartbeats 4000000 in
set_option maxRecDepth 100000 in
theorem c_X3_hasRoom_19 (l : Launch) (D : va_G) (c : Nat → ClassId) (ts : Nat × Nat) (sz : Nat) (h0 : Nat) (h1 : Nat) : Met l yX3_hasRoom wsX3_hasRoom ({ frames := 0, cells := 0, slots := 0, locals := 0 }) (va_Pc [.ref h0, .int 1] (Pre0 D c ts [(h0, .inr (3, [.ref h1, .int 18]))] sz)) (vp_Si (fun r : Int32 => r = 1)) 0 0 (fun _ => False) := by
  refine Met.ofW (cc := cX3_hasRoom) (maxL := 2) (ret := (some .boolean)) (by decide) rfl ?_
  intro p e s m args below meth cd s₁ B hml hv
  obtain ⟨rfl, hsz, hP, hD0, hAm, hSt⟩ := hv
  have hx := B.exec
  have hb := B.bytes
  have hr := B.returns
  have hts := atoms_spec (ws := wsX3_hasRoom) B.pre
  have hown : s.vm.findClass RX3 = some m.cls := findClass_of_methodNamed B.named
  have hlocks := B.notSynchronized
  subst hsz
  have hK := hAm.1
  have hD := hD0.self (sz := s.heap.size)
  generalize hAe : va_A [(h0, .inr (3, [.ref h1, .int 18]))] s.heap.size = A at hD hSt
  have hA : ∀ q : Nat, s.heap.size ≤ q → A q := fun q h => by rw [← hAe]; exact Or.inr h
  have hS : va_S A s.heap s.heap [] := va_S.rf
  clear hD0 hAe
  have hl := lv_entry ([.ref h0, .int 1]) (n := 2) (Nat.le_of_ble_eq_true rfl)
  rw [lg_entry_eq]
  generalize (lg_sl ([.ref h0, .int 1]) ++ List.replicate (2 - (lg_sl ([.ref h0, .int 1])).length) Slot.unset).toArray = ls at hl ⊢
  have hl : lv_has ls 2 [(0, .ref h0), (1, .int 1)] := hl
  refine lv_aload_n hx hb dX3_hasRoom_0 rfl (lv_at hl 0 rfl) ?_
  refine va_get (D := D) (ci := 3) (v := .int 18) (C := RX3) (T := TX3) (N := 2) hx hb hts (fun _ h => List.mem_cons_of_mem _ (List.mem_append_right _ h)) hown hK hP 0 rfl rfl 1 (by decide) (hts (.fieldLink RX3 15 "CrownTable$Tape" "length" "I") (mem_i 1 rfl)) (fun _ h9 => h9) rfl dX3_hasRoom_1 ?_
  refine lv_iload_n hx hb dX3_hasRoom_4 rfl (lv_at hl 1 rfl) ?_
  refine lv_iadd hx hb dX3_hasRoom_5 ?_
  refine lk_i (y := 19) (by decide) ?_
  refine lv_sipush (v := 800) hx hb dX3_hasRoom_6 (by decide) ?_
  refine iicmp_gtF (a := 19) (b := 800) (tgt := 16) hx hb (by decide) (by decide) dX3_hasRoom_9 (by decide) (by decide) ?_
  refine lv_iconst (v := 1) hx hb dX3_hasRoom_12 (by decide) ?_
  refine lv_goto (tgt := 17) hx hb dX3_hasRoom_13 (by decide) ?_
  exact W.zret (v := 1) hx hb hr (by decide) (fun t ht hW => ⟨_, rfl, rfl, ht⟩) (fun _ h => by cases h) dX3_hasRoom_17

set_option maxHeartbeats 4000000 in
set_option maxRecDepth 100000 in
theorem c_X3_hasRoom_20 (l : Launch) (D : va_G) (c : Nat → ClassId) (ts : Nat × Nat) (sz : Nat) (h0 : Nat) (h1 : Nat) : Met l yX3_hasRoom wsX3_hasRoom ({ frames := 0, cells := 0, slots := 0, locals := 0 }) (va_Pc [.ref h0, .int 1] (Pre0 D c ts [(h0, .inr (3, [.ref h1, .int 19]))] sz)) (vp_Si (fun r : Int32 => r = 1)) 0 0 (fun _ => False) := by
  refine Met.ofW (cc := cX3_hasRoom) (maxL := 2) (ret := (some .boolean)) (by decide) rfl ?_
  intro p e s m args below meth cd s₁ B hml hv
  obtain ⟨rfl, hsz, hP, hD0, hAm, hSt⟩ := hv
  have hx := B.exec
  have hb := B.bytes
  have hr := B.returns
  have hts := atoms_spec (ws := wsX3_hasRoom) B.pre
  have hown : s.vm.findClass RX3 = some m.cls := findClass_of_methodNamed B.named
  have hlocks := B.notSynchronized
  subst hsz
  have hK := hAm.1
  have hD := hD0.self (sz := s.heap.size)
  generalize hAe : va_A [(h0, .inr (3, [.ref h1, .int 19]))] s.heap.size = A at hD hSt
  have hA : ∀ q : Nat, s.heap.size ≤ q → A q := fun q h => by rw [← hAe]; exact Or.inr h
  have hS : va_S A s.heap s.heap [] := va_S.rf
  clear hD0 hAe
  have hl := lv_entry ([.ref h0, .int 1]) (n := 2) (Nat.le_of_ble_eq_true rfl)
  rw [lg_entry_eq]
  generalize (lg_sl ([.ref h0, .int 1]) ++ List.replicate (2 - (lg_sl ([.ref h0, .int 1])).length) Slot.unset).toArray = ls at hl ⊢
  have hl : lv_has ls 2 [(0, .ref h0), (1, .int 1)] := hl
  refine lv_aload_n hx hb dX3_hasRoom_0 rfl (lv_at hl 0 rfl) ?_
  refine va_get (D := D) (ci := 3) (v := .int 19) (C := RX3) (T := TX3) (N := 2) hx hb hts (fun _ h => List.mem_cons_of_mem _ (List.mem_append_right _ h)) hown hK hP 0 rfl rfl 1 (by decide) (hts (.fieldLink RX3 15 "CrownTable$Tape" "length" "I") (mem_i 1 rfl)) (fun _ h9 => h9) rfl dX3_hasRoom_1 ?_
  refine lv_iload_n hx hb dX3_hasRoom_4 rfl (lv_at hl 1 rfl) ?_
  refine lv_iadd hx hb dX3_hasRoom_5 ?_
  refine lk_i (y := 20) (by decide) ?_
  refine lv_sipush (v := 800) hx hb dX3_hasRoom_6 (by decide) ?_
  refine iicmp_gtF (a := 20) (b := 800) (tgt := 16) hx hb (by decide) (by decide) dX3_hasRoom_9 (by decide) (by decide) ?_
  refine lv_iconst (v := 1) hx hb dX3_hasRoom_12 (by decide) ?_
  refine lv_goto (tgt := 17) hx hb dX3_hasRoom_13 (by decide) ?_
  exact W.zret (v := 1) hx hb hr (by decide) (fun t ht hW => ⟨_, rfl, rfl, ht⟩) (fun _ h => by cases h) dX3_hasRoom_17

set_option maxHeartbeats 4000000 in
set_option maxRecDepth 100000 in
theorem c_X3_addFour_4 (l : Launch) (D : va_G) (c : Nat → ClassId) (ts : Nat × Nat) (sz : Nat) (h0 : Nat) (h1 : Nat) (f0 : Nat → Int32) (a1 : Int32) (i_a1 : Int) (hi_a1 : a1.toInt = i_a1) : Met l yX3_addFour wsX3_addFour ({ frames := 1, cells := 0, slots := 0, locals := 21 }) (va_Pc [.ref h0, .int a1] (Pre0 D c ts [(h0, .inr (3, [.ref h1, .int 16])), (h1, .inl (c 0, 800, .inl f0))] sz)) (va_Qv (fun (u : (Nat → Nat) × (Nat → Nat → Int32) × (Nat → Nat → Int64)) => True) (fun u t => va_P D vwCl [(h0, .inr (3, [.ref h1, .int 20])), (h1, .inl (c 0, 800, .inl (u.2.1 0)))] t.heap ∧ va_D (va_A [(h0, .inr (3, [.ref h1, .int 16])), (h1, .inl (c 0, 800, .inl f0))] sz) [(h0, .inr (3, [.ref h1, .int 20])), (h1, .inl (c 0, 800, .inl (u.2.1 0)))]) (va_A [(h0, .inr (3, [.ref h1, .int 16])), (h1, .inl (c 0, 800, .inl f0))] sz)) 0 0 (va_A [(h0, .inr (3, [.ref h1, .int 16])), (h1, .inl (c 0, 800, .inl f0))] sz) := by
  refine Met.ofW (cc := cX3_addFour) (maxL := 3) (ret := none) (by decide) rfl ?_
  intro p e s m args below meth cd s₁ B hml hv
  obtain ⟨rfl, hsz, hP, hD0, hAm, hSt⟩ := hv
  have hx := B.exec
  have hb := B.bytes
  have hr := B.returns
  have hts := atoms_spec (ws := wsX3_addFour) B.pre
  have hown : s.vm.findClass RX3 = some m.cls := findClass_of_methodNamed B.named
  have hlocks := B.notSynchronized
  subst hsz
  have hK := hAm.1
  have hD := hD0.self (sz := s.heap.size)
  generalize hAe : va_A [(h0, .inr (3, [.ref h1, .int 16])), (h1, .inl (c 0, 800, .inl f0))] s.heap.size = A at hD hSt ⊢
  have hA : ∀ q : Nat, s.heap.size ≤ q → A q := fun q h => by rw [← hAe]; exact Or.inr h
  have hS : va_S A s.heap s.heap [] := va_S.rf
  clear hD0 hAe
  have hl := lv_entry ([.ref h0, .int a1]) (n := 3) (Nat.le_of_ble_eq_true rfl)
  rw [lg_entry_eq]
  generalize (lg_sl ([.ref h0, .int a1]) ++ List.replicate (3 - (lg_sl ([.ref h0, .int a1])).length) Slot.unset).toArray = ls at hl ⊢
  have hl : lv_has ls 3 [(0, .ref h0), (1, .int a1)] := hl
  refine lv_bipush (v := 24) hx hb dX3_addFour_0 (by decide) ?_
  refine lv_istore_n (lv' := [(2, .int 24), (0, .ref h0), (1, .int a1)]) hx hb dX3_addFour_2 rfl hl (by decide) rfl (fun ls hl => ?_)
  refine lv_iload_n hx hb dX3_addFour_3 rfl (lv_at hl 0 rfl) ?_
  refine iif_ltF (a := 24) (tgt := 44) hx hb (by decide) dX3_addFour_4 (by decide) (by decide) ?_
  refine lv_aload_n hx hb dX3_addFour_7 rfl (lv_at hl 1 rfl) ?_
  refine lv_iconst (v := 1) hx hb dX3_addFour_8 (by decide) ?_
  have hPc := hP.sub (ws' := [(h0, .inr (3, [.ref h1, .int 16]))]) [0] rfl
  have hDc := hD.sub (ws' := [(h0, .inr (3, [.ref h1, .int 16]))]) [0] (by decide) rfl
  have hFc := va_free (wc := [(h0, .inr (3, [.ref h1, .int 16]))]) hD hS hA [0] rfl
  refine va_csi (va_runV (As := [.int 1]) (rest := []) ⟨hx, hb, hml, hown, hts⟩ (c_X3_hasRoom_17 l D c ts s.heap.size h0 h1) (cwV 1 hts gX3_addFour_X3_hasRoom rfl rfl rfl ⟨rfl, hdX3_hasRoom⟩ ⟨(show 0 + 1 ≤ 1 by decide), (show 8 + (2 + 11) + 0 ≤ 21 by decide)⟩) ⟨Pre0.blind, va_recv hK hPc (ci := 3) (q0 := 0) rfl rfl, Pre0.at hPc hDc hAm hSt hS hFc⟩ rfl rfl hl.1 rfl (lv_room (Nat.le_of_ble_eq_true rfl)) dX3_addFour_9 ⟨(show 0 + 0 ≤ 0 by decide), (show 0 + 0 ≤ 0 by decide)⟩) (fun r_2 hw_1 => ?_)
  refine lk_i (y := 1) hw_1 ?_
  refine iif_eqF (a := 1) (tgt := 38) hx hb (by decide) dX3_addFour_12 (by decide) (by decide) ?_
  refine lv_aload_n hx hb dX3_addFour_15 rfl (lv_at hl 1 rfl) ?_
  refine va_get (D := D) (ci := 3) (v := .ref h1) (C := RX3) (T := TX3) (N := 2) hx hb hts (fun _ h => List.mem_cons_of_mem _ (List.mem_append_right _ h)) hown hK hP 0 rfl rfl 0 (by decide) (hts (.fieldLink RX3 9 "CrownTable$Tape" "bytes" "[B") (mem_i 1 rfl)) (fun _ h9 => h9) rfl dX3_addFour_16 ?_
  refine lv_aload_n hx hb dX3_addFour_19 rfl (lv_at hl 1 rfl) ?_
  refine va_get (D := D) (ci := 3) (v := .int 16) (C := RX3) (T := TX3) (N := 2) hx hb hts (fun _ h => List.mem_cons_of_mem _ (List.mem_append_right _ h)) hown hK hP 0 rfl rfl 1 (by decide) (hts (.fieldLink RX3 15 "CrownTable$Tape" "length" "I") (mem_i 2 rfl)) (fun _ h9 => h9) rfl dX3_addFour_20 ?_
  refine lv_iload_n hx hb dX3_addFour_23 rfl (lv_at hl 2 rfl) ?_
  refine lv_iload_n hx hb dX3_addFour_24 rfl (lv_at hl 0 rfl) ?_
  refine lv_iushr hx hb dX3_addFour_25 rfl ?_
  refine lv_topi (fun x_3 ex_3 => ?_)
  refine lv_i2b hx hb dX3_addFour_26 rfl ?_
  refine lv_topi (fun x_4 ex_4 => ?_)
  refine va_bast hx hb hK hP hD hS 1 0 rfl rfl (vin (a := 16) (by decide) (by decide) (by decide)) dX3_addFour_27 (fun H locs hP hD hS => ?_)
  obtain ⟨f_5, hP, hD⟩ : ∃ f_5 : Nat → Int32, va_P D vwCl [(h0, .inr (3, [.ref h1, .int 16])), (h1, .inl (c 0, 800, .inl f_5))] H ∧ va_D A [(h0, .inr (3, [.ref h1, .int 16])), (h1, .inl (c 0, 800, .inl f_5))] := ⟨_, hP, hD⟩
  refine lv_aload_n hx hb dX3_addFour_28 rfl (lv_at hl 1 rfl) ?_
  refine lv_dup hx hb dX3_addFour_29 rfl ?_
  refine va_get (D := D) (ci := 3) (v := .int 16) (C := RX3) (T := TX3) (N := 2) hx hb hts (fun _ h => List.mem_cons_of_mem _ (List.mem_append_right _ h)) hown hK hP 0 rfl rfl 1 (by decide) (hts (.fieldLink RX3 15 "CrownTable$Tape" "length" "I") (mem_i 2 rfl)) (fun _ h9 => h9) rfl dX3_addFour_30 ?_
  refine lv_iconst (v := 1) hx hb dX3_addFour_33 (by decide) ?_
  refine lv_iadd hx hb dX3_addFour_34 ?_
  refine lk_i (y := 17) (by decide) ?_
  refine va_put (D := D) (ci := 3) (v := .int 17) (ty := .int) (C := RX3) (T := TX3) (N := 2) hx hb hts (fun _ h => List.mem_cons_of_mem _ (List.mem_append_right _ h)) tyX3 tyX3_ok nmX3 hown hK hP hD hS 0 rfl rfl 1 (by decide) (hts (.fieldLink RX3 15 "CrownTable$Tape" "length" "I") (mem_i 2 rfl)) (fun _ h9 => h9) rfl (by decide +kernel) rfl rfl (Nat.le_of_ble_eq_true rfl) dX3_addFour_35 (fun H locs hP hD hS => ?_)
  have hP : va_P D vwCl [(h0, .inr (3, [.ref h1, .int 17])), (h1, .inl (c 0, 800, .inl f_5))] H := hP
  have hD : va_D A [(h0, .inr (3, [.ref h1, .int 17])), (h1, .inl (c 0, 800, .inl f_5))] := hD
  refine lv_iinc (v := 16) (lv' := [(2, .int 16), (0, .ref h0), (1, .int a1)]) hx hb dX3_addFour_38 hl (k := 0) rfl (by decide) (by decide) rfl (fun ls hl => ?_)
  refine lv_goto (tgt := 3) hx hb dX3_addFour_41 (by decide) ?_
  refine lv_iload_n hx hb dX3_addFour_3 rfl (lv_at hl 0 rfl) ?_
  refine iif_ltF (a := 16) (tgt := 44) hx hb (by decide) dX3_addFour_4 (by decide) (by decide) ?_
  refine lv_aload_n hx hb dX3_addFour_7 rfl (lv_at hl 1 rfl) ?_
  refine lv_iconst (v := 1) hx hb dX3_addFour_8 (by decide) ?_
  have hPc := hP.sub (ws' := [(h0, .inr (3, [.ref h1, .int 17]))]) [0] rfl
  have hDc := hD.sub (ws' := [(h0, .inr (3, [.ref h1, .int 17]))]) [0] (by decide) rfl
  have hFc := va_free (wc := [(h0, .inr (3, [.ref h1, .int 17]))]) hD hS hA [0] rfl
  refine va_csi (va_runV (As := [.int 1]) (rest := []) ⟨hx, hb, hml, hown, hts⟩ (c_X3_hasRoom_18 l D c ts H.size h0 h1) (cwV 1 hts gX3_addFour_X3_hasRoom rfl rfl rfl ⟨rfl, hdX3_hasRoom⟩ ⟨(show 0 + 1 ≤ 1 by decide), (show 8 + (2 + 11) + 0 ≤ 21 by decide)⟩) ⟨Pre0.blind, va_recv hK hPc (ci := 3) (q0 := 0) rfl rfl, Pre0.at hPc hDc hAm hSt hS hFc⟩ rfl rfl hl.1 rfl (lv_room (Nat.le_of_ble_eq_true rfl)) dX3_addFour_9 ⟨(show 0 + 0 ≤ 0 by decide), (show 0 + 0 ≤ 0 by decide)⟩) (fun r_7 hw_6 => ?_)
  refine lk_i (y := 1) hw_6 ?_
  refine iif_eqF (a := 1) (tgt := 38) hx hb (by decide) dX3_addFour_12 (by decide) (by decide) ?_
  refine lv_aload_n hx hb dX3_addFour_15 rfl (lv_at hl 1 rfl) ?_
  refine va_get (D := D) (ci := 3) (v := .ref h1) (C := RX3) (T := TX3) (N := 2) hx hb hts (fun _ h => List.mem_cons_of_mem _ (List.mem_append_right _ h)) hown hK hP 0 rfl rfl 0 (by decide) (hts (.fieldLink RX3 9 "CrownTable$Tape" "bytes" "[B") (mem_i 1 rfl)) (fun _ h9 => h9) rfl dX3_addFour_16 ?_
  refine lv_aload_n hx hb dX3_addFour_19 rfl (lv_at hl 1 rfl) ?_
  refine va_get (D := D) (ci := 3) (v := .int 17) (C := RX3) (T := TX3) (N := 2) hx hb hts (fun _ h => List.mem_cons_of_mem _ (List.mem_append_right _ h)) hown hK hP 0 rfl rfl 1 (by decide) (hts (.fieldLink RX3 15 "CrownTable$Tape" "length" "I") (mem_i 2 rfl)) (fun _ h9 => h9) rfl dX3_addFour_20 ?_
  refine lv_iload_n hx hb dX3_addFour_23 rfl (lv_at hl 2 rfl) ?_
  refine lv_iload_n hx hb dX3_addFour_24 rfl (lv_at hl 0 rfl) ?_
  refine lv_iushr hx hb dX3_addFour_25 rfl ?_
  refine lv_topi (fun x_8 ex_8 => ?_)
  refine lv_i2b hx hb dX3_addFour_26 rfl ?_
  refine lv_topi (fun x_9 ex_9 => ?_)
  refine va_bast hx hb hK hP hD hS 1 0 rfl rfl (vin (a := 17) (by decide) (by decide) (by decide)) dX3_addFour_27 (fun H locs hP hD hS => ?_)
  obtain ⟨f_10, hP, hD⟩ : ∃ f_10 : Nat → Int32, va_P D vwCl [(h0, .inr (3, [.ref h1, .int 17])), (h1, .inl (c 0, 800, .inl f_10))] H ∧ va_D A [(h0, .inr (3, [.ref h1, .int 17])), (h1, .inl (c 0, 800, .inl f_10))] := ⟨_, hP, hD⟩
  refine lv_aload_n hx hb dX3_addFour_28 rfl (lv_at hl 1 rfl) ?_
  refine lv_dup hx hb dX3_addFour_29 rfl ?_
  refine va_get (D := D) (ci := 3) (v := .int 17) (C := RX3) (T := TX3) (N := 2) hx hb hts (fun _ h => List.mem_cons_of_mem _ (List.mem_append_right _ h)) hown hK hP 0 rfl rfl 1 (by decide) (hts (.fieldLink RX3 15 "CrownTable$Tape" "length" "I") (mem_i 2 rfl)) (fun _ h9 => h9) rfl dX3_addFour_30 ?_
  refine lv_iconst (v := 1) hx hb dX3_addFour_33 (by decide) ?_
  refine lv_iadd hx hb dX3_addFour_34 ?_
  refine lk_i (y := 18) (by decide) ?_
  refine va_put (D := D) (ci := 3) (v := .int 18) (ty := .int) (C := RX3) (T := TX3) (N := 2) hx hb hts (fun _ h => List.mem_cons_of_mem _ (List.mem_append_right _ h)) tyX3 tyX3_ok nmX3 hown hK hP hD hS 0 rfl rfl 1 (by decide) (hts (.fieldLink RX3 15 "CrownTable$Tape" "length" "I") (mem_i 2 rfl)) (fun _ h9 => h9) rfl (by decide +kernel) rfl rfl (Nat.le_of_ble_eq_true rfl) dX3_addFour_35 (fun H locs hP hD hS => ?_)
  have hP : va_P D vwCl [(h0, .inr (3, [.ref h1, .int 18])), (h1, .inl (c 0, 800, .inl f_10))] H := hP
  have hD : va_D A [(h0, .inr (3, [.ref h1, .int 18])), (h1, .inl (c 0, 800, .inl f_10))] := hD
  refine lv_iinc (v := 8) (lv' := [(2, .int 8), (0, .ref h0), (1, .int a1)]) hx hb dX3_addFour_38 hl (k := 0) rfl (by decide) (by decide) rfl (fun ls hl => ?_)
  refine lv_goto (tgt := 3) hx hb dX3_addFour_41 (by decide) ?_
  refine lv_iload_n hx hb dX3_addFour_3 rfl (lv_at hl 0 rfl) ?_
  refine iif_ltF (a := 8) (tgt := 44) hx hb (by decide) dX3_addFour_4 (by decide) (by decide) ?_
  refine lv_aload_n hx hb dX3_addFour_7 rfl (lv_at hl 1 rfl) ?_
  refine lv_iconst (v := 1) hx hb dX3_addFour_8 (by decide) ?_
  have hPc := hP.sub (ws' := [(h0, .inr (3, [.ref h1, .int 18]))]) [0] rfl
  have hDc := hD.sub (ws' := [(h0, .inr (3, [.ref h1, .int 18]))]) [0] (by decide) rfl
  have hFc := va_free (wc := [(h0, .inr (3, [.ref h1, .int 18]))]) hD hS hA [0] rfl
  refine va_csi (va_runV (As := [.int 1]) (rest := []) ⟨hx, hb, hml, hown, hts⟩ (c_X3_hasRoom_19 l D c ts H.size h0 h1) (cwV 1 hts gX3_addFour_X3_hasRoom rfl rfl rfl ⟨rfl, hdX3_hasRoom⟩ ⟨(show 0 + 1 ≤ 1 by decide), (show 8 + (2 + 11) + 0 ≤ 21 by decide)⟩) ⟨Pre0.blind, va_recv hK hPc (ci := 3) (q0 := 0) rfl rfl, Pre0.at hPc hDc hAm hSt hS hFc⟩ rfl rfl hl.1 rfl (lv_room (Nat.le_of_ble_eq_true rfl)) dX3_addFour_9 ⟨(show 0 + 0 ≤ 0 by decide), (show 0 + 0 ≤ 0 by decide)⟩) (fun r_12 hw_11 => ?_)
  refine lk_i (y := 1) hw_11 ?_
  refine iif_eqF (a := 1) (tgt := 38) hx hb (by decide) dX3_addFour_12 (by decide) (by decide) ?_
  refine lv_aload_n hx hb dX3_addFour_15 rfl (lv_at hl 1 rfl) ?_
  refine va_get (D := D) (ci := 3) (v := .ref h1) (C := RX3) (T := TX3) (N := 2) hx hb hts (fun _ h => List.mem_cons_of_mem _ (List.mem_append_right _ h)) hown hK hP 0 rfl rfl 0 (by decide) (hts (.fieldLink RX3 9 "CrownTable$Tape" "bytes" "[B") (mem_i 1 rfl)) (fun _ h9 => h9) rfl dX3_addFour_16 ?_
  refine lv_aload_n hx hb dX3_addFour_19 rfl (lv_at hl 1 rfl) ?_
  refine va_get (D := D) (ci := 3) (v := .int 18) (C := RX3) (T := TX3) (N := 2) hx hb hts (fun _ h => List.mem_cons_of_mem _ (List.mem_append_right _ h)) hown hK hP 0 rfl rfl 1 (by decide) (hts (.fieldLink RX3 15 "CrownTable$Tape" "length" "I") (mem_i 2 rfl)) (fun _ h9 => h9) rfl dX3_addFour_20 ?_
  refine lv_iload_n hx hb dX3_addFour_23 rfl (lv_at hl 2 rfl) ?_
  refine lv_iload_n hx hb dX3_addFour_24 rfl (lv_at hl 0 rfl) ?_
  refine lv_iushr hx hb dX3_addFour_25 rfl ?_
  refine lv_topi (fun x_13 ex_13 => ?_)
  refine lv_i2b hx hb dX3_addFour_26 rfl ?_
  refine lv_topi (fun x_14 ex_14 => ?_)
  refine va_bast hx hb hK hP hD hS 1 0 rfl rfl (vin (a := 18) (by decide) (by decide) (by decide)) dX3_addFour_27 (fun H locs hP hD hS => ?_)
  obtain ⟨f_15, hP, hD⟩ : ∃ f_15 : Nat → Int32, va_P D vwCl [(h0, .inr (3, [.ref h1, .int 18])), (h1, .inl (c 0, 800, .inl f_15))] H ∧ va_D A [(h0, .inr (3, [.ref h1, .int 18])), (h1, .inl (c 0, 800, .inl f_15))] := ⟨_, hP, hD⟩
  refine lv_aload_n hx hb dX3_addFour_28 rfl (lv_at hl 1 rfl) ?_
  refine lv_dup hx hb dX3_addFour_29 rfl ?_
  refine va_get (D := D) (ci := 3) (v := .int 18) (C := RX3) (T := TX3) (N := 2) hx hb hts (fun _ h => List.mem_cons_of_mem _ (List.mem_append_right _ h)) hown hK hP 0 rfl rfl 1 (by decide) (hts (.fieldLink RX3 15 "CrownTable$Tape" "length" "I") (mem_i 2 rfl)) (fun _ h9 => h9) rfl dX3_addFour_30 ?_
  refine lv_iconst (v := 1) hx hb dX3_addFour_33 (by decide) ?_
  refine lv_iadd hx hb dX3_addFour_34 ?_
  refine lk_i (y := 19) (by decide) ?_
  refine va_put (D := D) (ci := 3) (v := .int 19) (ty := .int) (C := RX3) (T := TX3) (N := 2) hx hb hts (fun _ h => List.mem_cons_of_mem _ (List.mem_append_right _ h)) tyX3 tyX3_ok nmX3 hown hK hP hD hS 0 rfl rfl 1 (by decide) (hts (.fieldLink RX3 15 "CrownTable$Tape" "length" "I") (mem_i 2 rfl)) (fun _ h9 => h9) rfl (by decide +kernel) rfl rfl (Nat.le_of_ble_eq_true rfl) dX3_addFour_35 (fun H locs hP hD hS => ?_)
  have hP : va_P D vwCl [(h0, .inr (3, [.ref h1, .int 19])), (h1, .inl (c 0, 800, .inl f_15))] H := hP
  have hD : va_D A [(h0, .inr (3, [.ref h1, .int 19])), (h1, .inl (c 0, 800, .inl f_15))] := hD
  refine lv_iinc (v := 0) (lv' := [(2, .int 0), (0, .ref h0), (1, .int a1)]) hx hb dX3_addFour_38 hl (k := 0) rfl (by decide) (by decide) rfl (fun ls hl => ?_)
  refine lv_goto (tgt := 3) hx hb dX3_addFour_41 (by decide) ?_
  refine lv_iload_n hx hb dX3_addFour_3 rfl (lv_at hl 0 rfl) ?_
  refine iif_ltF (a := 0) (tgt := 44) hx hb (by decide) dX3_addFour_4 (by decide) (by decide) ?_
  refine lv_aload_n hx hb dX3_addFour_7 rfl (lv_at hl 1 rfl) ?_
  refine lv_iconst (v := 1) hx hb dX3_addFour_8 (by decide) ?_
  have hPc := hP.sub (ws' := [(h0, .inr (3, [.ref h1, .int 19]))]) [0] rfl
  have hDc := hD.sub (ws' := [(h0, .inr (3, [.ref h1, .int 19]))]) [0] (by decide) rfl
  have hFc := va_free (wc := [(h0, .inr (3, [.ref h1, .int 19]))]) hD hS hA [0] rfl
  refine va_csi (va_runV (As := [.int 1]) (rest := []) ⟨hx, hb, hml, hown, hts⟩ (c_X3_hasRoom_20 l D c ts H.size h0 h1) (cwV 1 hts gX3_addFour_X3_hasRoom rfl rfl rfl ⟨rfl, hdX3_hasRoom⟩ ⟨(show 0 + 1 ≤ 1 by decide), (show 8 + (2 + 11) + 0 ≤ 21 by decide)⟩) ⟨Pre0.blind, va_recv hK hPc (ci := 3) (q0 := 0) rfl rfl, Pre0.at hPc hDc hAm hSt hS hFc⟩ rfl rfl hl.1 rfl (lv_room (Nat.le_of_ble_eq_true rfl)) dX3_addFour_9 ⟨(show 0 + 0 ≤ 0 by decide), (show 0 + 0 ≤ 0 by decide)⟩) (fun r_17 hw_16 => ?_)
  refine lk_i (y := 1) hw_16 ?_
  refine iif_eqF (a := 1) (tgt := 38) hx hb (by decide) dX3_addFour_12 (by decide) (by decide) ?_
  refine lv_aload_n hx hb dX3_addFour_15 rfl (lv_at hl 1 rfl) ?_
  refine va_get (D := D) (ci := 3) (v := .ref h1) (C := RX3) (T := TX3) (N := 2) hx hb hts (fun _ h => List.mem_cons_of_mem _ (List.mem_append_right _ h)) hown hK hP 0 rfl rfl 0 (by decide) (hts (.fieldLink RX3 9 "CrownTable$Tape" "bytes" "[B") (mem_i 1 rfl)) (fun _ h9 => h9) rfl dX3_addFour_16 ?_
  refine lv_aload_n hx hb dX3_addFour_19 rfl (lv_at hl 1 rfl) ?_
  refine va_get (D := D) (ci := 3) (v := .int 19) (C := RX3) (T := TX3) (N := 2) hx hb hts (fun _ h => List.mem_cons_of_mem _ (List.mem_append_right _ h)) hown hK hP 0 rfl rfl 1 (by decide) (hts (.fieldLink RX3 15 "CrownTable$Tape" "length" "I") (mem_i 2 rfl)) (fun _ h9 => h9) rfl dX3_addFour_20 ?_
  refine lv_iload_n hx hb dX3_addFour_23 rfl (lv_at hl 2 rfl) ?_
  refine lv_iload_n hx hb dX3_addFour_24 rfl (lv_at hl 0 rfl) ?_
  refine lv_iushr hx hb dX3_addFour_25 rfl ?_
  refine lv_topi (fun x_18 ex_18 => ?_)
  refine lv_i2b hx hb dX3_addFour_26 rfl ?_
  refine lv_topi (fun x_19 ex_19 => ?_)
  refine va_bast hx hb hK hP hD hS 1 0 rfl rfl (vin (a := 19) (by decide) (by decide) (by decide)) dX3_addFour_27 (fun H locs hP hD hS => ?_)
  obtain ⟨f_20, hP, hD⟩ : ∃ f_20 : Nat → Int32, va_P D vwCl [(h0, .inr (3, [.ref h1, .int 19])), (h1, .inl (c 0, 800, .inl f_20))] H ∧ va_D A [(h0, .inr (3, [.ref h1, .int 19])), (h1, .inl (c 0, 800, .inl f_20))] := ⟨_, hP, hD⟩
  refine lv_aload_n hx hb dX3_addFour_28 rfl (lv_at hl 1 rfl) ?_
  refine lv_dup hx hb dX3_addFour_29 rfl ?_
  refine va_get (D := D) (ci := 3) (v := .int 19) (C := RX3) (T := TX3) (N := 2) hx hb hts (fun _ h => List.mem_cons_of_mem _ (List.mem_append_right _ h)) hown hK hP 0 rfl rfl 1 (by decide) (hts (.fieldLink RX3 15 "CrownTable$Tape" "length" "I") (mem_i 2 rfl)) (fun _ h9 => h9) rfl dX3_addFour_30 ?_
  refine lv_iconst (v := 1) hx hb dX3_addFour_33 (by decide) ?_
  refine lv_iadd hx hb dX3_addFour_34 ?_
  refine lk_i (y := 20) (by decide) ?_
  refine va_put (D := D) (ci := 3) (v := .int 20) (ty := .int) (C := RX3) (T := TX3) (N := 2) hx hb hts (fun _ h => List.mem_cons_of_mem _ (List.mem_append_right _ h)) tyX3 tyX3_ok nmX3 hown hK hP hD hS 0 rfl rfl 1 (by decide) (hts (.fieldLink RX3 15 "CrownTable$Tape" "length" "I") (mem_i 2 rfl)) (fun _ h9 => h9) rfl (by decide +kernel) rfl rfl (Nat.le_of_ble_eq_true rfl) dX3_addFour_35 (fun H locs hP hD hS => ?_)
  have hP : va_P D vwCl [(h0, .inr (3, [.ref h1, .int 20])), (h1, .inl (c 0, 800, .inl f_20))] H := hP
  have hD : va_D A [(h0, .inr (3, [.ref h1, .int 20])), (h1, .inl (c 0, 800, .inl f_20))] := hD
  refine lv_iinc (v := (-8)) (lv' := [(2, .int (-8)), (0, .ref h0), (1, .int a1)]) hx hb dX3_addFour_38 hl (k := 0) rfl (by decide) (by decide) rfl (fun ls hl => ?_)
  refine lv_goto (tgt := 3) hx hb dX3_addFour_41 (by decide) ?_
  refine lv_iload_n hx hb dX3_addFour_3 rfl (lv_at hl 0 rfl) ?_
  refine iif_ltT (a := (-8)) (tgt := 44) hx hb (by decide) dX3_addFour_4 (by decide) (by decide) ?_
  have hP9 := hP.sub (ws' := [(h0, .inr (3, [.ref h1, .int 20])), (h1, .inl (c 0, 800, .inl f_20))]) [0, 1] rfl
  have hD9 := hD.sub (ws' := [(h0, .inr (3, [.ref h1, .int 20])), (h1, .inl (c 0, 800, .inl f_20))]) [0, 1] (by decide) rfl
  refine W.widen (k := 0) (n := 0) (by omega) (by omega) ?_
  exact W.vret hx hb hr (fun t ht hW => ⟨⟨(fun k => [].getD k 0, fun k => [f_20].getD k (fun _ => 0), fun k => [].getD k (fun _ => 0)), rfl, trivial, ⟨by rw [ht]; exact hP9, hD9⟩⟩, hS.F ht⟩) hS.2.2 dX3_addFour_44

set_option maxHeartbeats 4000000 in
set_option maxRecDepth 100000 in
theorem c_X6_feed (l : Launch) (D : va_G) (c : Nat → ClassId) (ts : Nat × Nat) (sz : Nat) (q : Nat → Nat) (h0 : Nat) (a1 : Int32) (i_a1 : Int) (hi_a1 : a1.toInt = i_a1) (a2 : Int32) (i_a2 : Int) (hi_a2 : a2.toInt = i_a2) (a3 : Int32) (i_a3 : Int) (hi_a3 : a3.toInt = i_a3) (a4 : Int32) (i_a4 : Int) (hi_a4 : a4.toInt = i_a4) (a5 : Int32) (i_a5 : Int) (hi_a5 : a5.toInt = i_a5) : Met l yX6_feed wsX6_feed ({ frames := 2, cells := 0, slots := 0, locals := 43 }) (va_Pc [.ref h0, .int a1, .int a2, .int a3, .int a4, .int a5] (Pre0 D c ts [(h0, .inr (6, o6 q 0 0 0 0)), (q 0, .inr (3, [.ref (q 1), .int 0])), (q 1, .inl (c 0, 800, .inl (fun _ => 0)))] sz)) (va_Qi (fun (r : Int32) (u : Unit) => r = 20) (fun _ _ => True) (va_A [(h0, .inr (6, o6 q 0 0 0 0)), (q 0, .inr (3, [.ref (q 1), .int 0])), (q 1, .inl (c 0, 800, .inl (fun _ => 0)))] sz)) 0 0 (va_A [(h0, .inr (6, o6 q 0 0 0 0)), (q 0, .inr (3, [.ref (q 1), .int 0])), (q 1, .inl (c 0, 800, .inl (fun _ => 0)))] sz) := by
  refine Met.ofW (cc := cX6_feed) (maxL := 6) (ret := (some .int)) (by decide) rfl ?_
  intro p e s m args below meth cd s₁ B hml hv
  obtain ⟨rfl, hsz, hP, hD0, hAm, hSt⟩ := hv
  have hx := B.exec
  have hb := B.bytes
  have hr := B.returns
  have hts := atoms_spec (ws := wsX6_feed) B.pre
  have hown : s.vm.findClass RX6 = some m.cls := findClass_of_methodNamed B.named
  have hlocks := B.notSynchronized
  subst hsz
  have hK := hAm.1
  have hD := hD0.self (sz := s.heap.size)
  generalize hAe : va_A [(h0, .inr (6, o6 q 0 0 0 0)), (q 0, .inr (3, [.ref (q 1), .int 0])), (q 1, .inl (c 0, 800, .inl (fun _ => 0)))] s.heap.size = A at hD hSt ⊢
  have hA : ∀ q : Nat, s.heap.size ≤ q → A q := fun q h => by rw [← hAe]; exact Or.inr h
  have hS : va_S A s.heap s.heap [] := va_S.rf
  clear hD0 hAe
  have hl := lv_entry ([.ref h0, .int a1, .int a2, .int a3, .int a4, .int a5]) (n := 6) (Nat.le_of_ble_eq_true rfl)
  rw [lg_entry_eq]
  generalize (lg_sl ([.ref h0, .int a1, .int a2, .int a3, .int a4, .int a5]) ++ List.replicate (6 - (lg_sl ([.ref h0, .int a1, .int a2, .int a3, .int a4, .int a5])).length) Slot.unset).toArray = ls at hl ⊢
  have hl : lv_has ls 6 [(0, .ref h0), (1, .int a1), (2, .int a2), (3, .int a3), (4, .int a4), (5, .int a5)] := hl
  refine lv_aload_n hx hb dX6_feed_0 rfl (lv_at hl 0 rfl) ?_
  refine va_get (D := D) (ci := 6) (v := .ref (q 0)) (C := RX6) (T := TX6) (N := 18) hx hb hts (fun _ h => List.mem_cons_of_mem _ (List.mem_append_left _ (List.mem_append_right _ h))) hown hK hP 0 rfl rfl 0 (by decide) (hts (.fieldLink RX6 10 "CrownTable" "tape" "LCrownTable$Tape;") (mem_i 1 rfl)) (fun _ h9 => h9) rfl dX6_feed_1 ?_
  refine lv_bipush (v := 20) hx hb dX6_feed_4 (by decide) ?_
  have hPc := hP.sub (ws' := [(q 0, .inr (3, [.ref (q 1), .int 0]))]) [1] rfl
  have hDc := hD.sub (ws' := [(q 0, .inr (3, [.ref (q 1), .int 0]))]) [1] (by decide) rfl
  have hFc := va_free (wc := [(q 0, .inr (3, [.ref (q 1), .int 0]))]) hD hS hA [1] rfl
  refine va_csi (va_runVN (As := [.int 20]) (rest := []) ⟨hx, hb, hml, hown, hts⟩ (c_X3_hasRoom l D c ts s.heap.size (q 0) (q 1)) ⟨va_cnB 1 hts gX6_feed_X3_hasRoom_n87 rfl rfl rfl (show va_Nw (.methodLinkNest RX6 87 yX3_hasRoom RX6) _ from hAm.2.1.1 (RX6, 87, yX3_hasRoom, RX6) (mem_i 5 rfl)) (hts (.initialized RX3) (mem_i 3 rfl)) hdX3_hasRoom ⟨(show 0 + 1 ≤ 2 by decide), (show 8 + (2 + 11) + 0 ≤ 43 by decide)⟩, (hts (.instanceMethod yX3_hasRoom) (mem_i 2 rfl)), (hts (.selects RX3 yX3_hasRoom yX3_hasRoom) (mem_i 4 rfl))⟩ ⟨Pre0.blind, va_recv hK hPc (ci := 3) (q0 := 0) rfl rfl, Pre0.at hPc hDc hAm hSt hS hFc⟩ rfl rfl hl.1 rfl (lv_room (Nat.le_of_ble_eq_true rfl)) dX6_feed_6 ⟨(show 0 + 0 ≤ 0 by decide), (show 0 + 0 ≤ 0 by decide)⟩) (fun r_2 hw_1 => ?_)
  refine lk_i (y := 1) hw_1 ?_
  refine iif_neT (a := 1) (tgt := 15) hx hb (by decide) dX6_feed_9 (by decide) (by decide) ?_
  refine lv_aload_n hx hb dX6_feed_15 rfl (lv_at hl 0 rfl) ?_
  refine va_get (D := D) (ci := 6) (v := .ref (q 0)) (C := RX6) (T := TX6) (N := 18) hx hb hts (fun _ h => List.mem_cons_of_mem _ (List.mem_append_left _ (List.mem_append_right _ h))) hown hK hP 0 rfl rfl 0 (by decide) (hts (.fieldLink RX6 10 "CrownTable" "tape" "LCrownTable$Tape;") (mem_i 1 rfl)) (fun _ h9 => h9) rfl dX6_feed_16 ?_
  refine lv_iload_n hx hb dX6_feed_19 rfl (lv_at hl 1 rfl) ?_
  have hPc := hP.sub (ws' := [(q 0, .inr (3, [.ref (q 1), .int 0])), (q 1, .inl (c 0, 800, .inl (fun _ => 0)))]) [1, 2] rfl
  have hDc := hD.sub (ws' := [(q 0, .inr (3, [.ref (q 1), .int 0])), (q 1, .inl (c 0, 800, .inl (fun _ => 0)))]) [1, 2] (by decide) rfl
  have hFc := va_free (wc := [(q 0, .inr (3, [.ref (q 1), .int 0])), (q 1, .inl (c 0, 800, .inl (fun _ => 0)))]) hD hS hA [1, 2] rfl
  refine va_callv (va_runVN (As := [.int a1]) (rest := []) ⟨hx, hb, hml, hown, hts⟩ (c_X3_addFour l D c ts s.heap.size (q 0) (q 1) a1 i_a1 hi_a1) ⟨va_cnB 1 hts gX6_feed_X3_addFour_n91 rfl rfl rfl (show va_Nw (.methodLinkNest RX6 91 yX3_addFour RX6) _ from hAm.2.1.1 (RX6, 91, yX3_addFour, RX6) (mem_i 6 rfl)) (hts (.initialized RX3) (mem_i 3 rfl)) hdX3_addFour ⟨(show 1 + 1 ≤ 2 by decide), (show 8 + (3 + 11) + 21 ≤ 43 by decide)⟩, (hts (.instanceMethod yX3_addFour) (mem_i 7 rfl)), (hts (.selects RX3 yX3_addFour yX3_addFour) (mem_i 8 rfl))⟩ ⟨Pre0.blind, va_recv hK hPc (ci := 3) (q0 := 0) rfl rfl, Pre0.at hPc hDc hAm hSt hS hFc⟩ rfl rfl hl.1 rfl (lv_room (Nat.le_of_ble_eq_true rfl)) dX6_feed_20 ⟨(show 0 + 0 ≤ 0 by decide), (show 0 + 0 ≤ 0 by decide)⟩) hS (fun q _ h => hFc q h) hFc (fun u_5 t1 H locs ht hvm hw_3 hB hz1 hk1 hS => ?_)
  obtain ⟨hP1, hD1⟩ := hB
  rw [ht] at hP1
  obtain ⟨hP, hD⟩ := va_join (wr := [(h0, .inr (6, o6 q 0 0 0 0))]) (w1 := [(q 0, .inr (3, [.ref (q 1), .int 4])), (q 1, .inl (c 0, 800, .inl (u_5.2.1 0)))]) hP hD [1, 2] [0] rfl rfl (by decide) (by decide) hk1 hFc hP1 hD1
  have hP : va_P D vwCl [(h0, .inr (6, o6 q 0 0 0 0)), (q 0, .inr (3, [.ref (q 1), .int 4])), (q 1, .inl (c 0, 800, .inl (u_5.2.1 0)))] H := hP
  have hD : va_D A [(h0, .inr (6, o6 q 0 0 0 0)), (q 0, .inr (3, [.ref (q 1), .int 4])), (q 1, .inl (c 0, 800, .inl (u_5.2.1 0)))] := hD
  refine W.widen (k := 0) (n := 0) (by omega) (by omega) ?_
  refine lv_aload_n hx hb dX6_feed_23 rfl (lv_at hl 0 rfl) ?_
  refine va_get (D := D) (ci := 6) (v := .ref (q 0)) (C := RX6) (T := TX6) (N := 18) hx hb hts (fun _ h => List.mem_cons_of_mem _ (List.mem_append_left _ (List.mem_append_right _ h))) hown hK hP 0 rfl rfl 0 (by decide) (hts (.fieldLink RX6 10 "CrownTable" "tape" "LCrownTable$Tape;") (mem_i 1 rfl)) (fun _ h9 => h9) rfl dX6_feed_24 ?_
  refine lv_iload_n hx hb dX6_feed_27 rfl (lv_at hl 2 rfl) ?_
  have hPc := hP.sub (ws' := [(q 0, .inr (3, [.ref (q 1), .int 4])), (q 1, .inl (c 0, 800, .inl (u_5.2.1 0)))]) [1, 2] rfl
  have hDc := hD.sub (ws' := [(q 0, .inr (3, [.ref (q 1), .int 4])), (q 1, .inl (c 0, 800, .inl (u_5.2.1 0)))]) [1, 2] (by decide) rfl
  have hFc := va_free (wc := [(q 0, .inr (3, [.ref (q 1), .int 4])), (q 1, .inl (c 0, 800, .inl (u_5.2.1 0)))]) hD hS hA [1, 2] rfl
  refine va_callv (va_runVN (As := [.int a2]) (rest := []) ⟨hx, hb, hml, hown, hts⟩ (c_X3_addFour_1 l D c ts H.size (q 0) (q 1) (u_5.2.1 0) a2 i_a2 hi_a2) ⟨va_cnB 1 hts gX6_feed_X3_addFour_n91 rfl rfl rfl (show va_Nw (.methodLinkNest RX6 91 yX3_addFour RX6) _ from hAm.2.1.1 (RX6, 91, yX3_addFour, RX6) (mem_i 6 rfl)) (hts (.initialized RX3) (mem_i 3 rfl)) hdX3_addFour ⟨(show 1 + 1 ≤ 2 by decide), (show 8 + (3 + 11) + 21 ≤ 43 by decide)⟩, (hts (.instanceMethod yX3_addFour) (mem_i 7 rfl)), (hts (.selects RX3 yX3_addFour yX3_addFour) (mem_i 8 rfl))⟩ ⟨Pre0.blind, va_recv hK hPc (ci := 3) (q0 := 0) rfl rfl, Pre0.at hPc hDc hAm hSt hS hFc⟩ rfl rfl hl.1 rfl (lv_room (Nat.le_of_ble_eq_true rfl)) dX6_feed_28 ⟨(show 0 + 0 ≤ 0 by decide), (show 0 + 0 ≤ 0 by decide)⟩) hS (fun q _ h => hFc q h) hFc (fun u_8 t1 H locs ht hvm hw_6 hB hz1 hk1 hS => ?_)
  obtain ⟨hP1, hD1⟩ := hB
  rw [ht] at hP1
  obtain ⟨hP, hD⟩ := va_join (wr := [(h0, .inr (6, o6 q 0 0 0 0))]) (w1 := [(q 0, .inr (3, [.ref (q 1), .int 8])), (q 1, .inl (c 0, 800, .inl (u_8.2.1 0)))]) hP hD [1, 2] [0] rfl rfl (by decide) (by decide) hk1 hFc hP1 hD1
  have hP : va_P D vwCl [(h0, .inr (6, o6 q 0 0 0 0)), (q 0, .inr (3, [.ref (q 1), .int 8])), (q 1, .inl (c 0, 800, .inl (u_8.2.1 0)))] H := hP
  have hD : va_D A [(h0, .inr (6, o6 q 0 0 0 0)), (q 0, .inr (3, [.ref (q 1), .int 8])), (q 1, .inl (c 0, 800, .inl (u_8.2.1 0)))] := hD
  refine W.widen (k := 0) (n := 0) (by omega) (by omega) ?_
  refine lv_aload_n hx hb dX6_feed_31 rfl (lv_at hl 0 rfl) ?_
  refine va_get (D := D) (ci := 6) (v := .ref (q 0)) (C := RX6) (T := TX6) (N := 18) hx hb hts (fun _ h => List.mem_cons_of_mem _ (List.mem_append_left _ (List.mem_append_right _ h))) hown hK hP 0 rfl rfl 0 (by decide) (hts (.fieldLink RX6 10 "CrownTable" "tape" "LCrownTable$Tape;") (mem_i 1 rfl)) (fun _ h9 => h9) rfl dX6_feed_32 ?_
  refine lv_iload_n hx hb dX6_feed_35 rfl (lv_at hl 3 rfl) ?_
  have hPc := hP.sub (ws' := [(q 0, .inr (3, [.ref (q 1), .int 8])), (q 1, .inl (c 0, 800, .inl (u_8.2.1 0)))]) [1, 2] rfl
  have hDc := hD.sub (ws' := [(q 0, .inr (3, [.ref (q 1), .int 8])), (q 1, .inl (c 0, 800, .inl (u_8.2.1 0)))]) [1, 2] (by decide) rfl
  have hFc := va_free (wc := [(q 0, .inr (3, [.ref (q 1), .int 8])), (q 1, .inl (c 0, 800, .inl (u_8.2.1 0)))]) hD hS hA [1, 2] rfl
  refine va_callv (va_runVN (As := [.int a3]) (rest := []) ⟨hx, hb, hml, hown, hts⟩ (c_X3_addFour_2 l D c ts H.size (q 0) (q 1) (u_8.2.1 0) a3 i_a3 hi_a3) ⟨va_cnB 1 hts gX6_feed_X3_addFour_n91 rfl rfl rfl (show va_Nw (.methodLinkNest RX6 91 yX3_addFour RX6) _ from hAm.2.1.1 (RX6, 91, yX3_addFour, RX6) (mem_i 6 rfl)) (hts (.initialized RX3) (mem_i 3 rfl)) hdX3_addFour ⟨(show 1 + 1 ≤ 2 by decide), (show 8 + (3 + 11) + 21 ≤ 43 by decide)⟩, (hts (.instanceMethod yX3_addFour) (mem_i 7 rfl)), (hts (.selects RX3 yX3_addFour yX3_addFour) (mem_i 8 rfl))⟩ ⟨Pre0.blind, va_recv hK hPc (ci := 3) (q0 := 0) rfl rfl, Pre0.at hPc hDc hAm hSt hS hFc⟩ rfl rfl hl.1 rfl (lv_room (Nat.le_of_ble_eq_true rfl)) dX6_feed_36 ⟨(show 0 + 0 ≤ 0 by decide), (show 0 + 0 ≤ 0 by decide)⟩) hS (fun q _ h => hFc q h) hFc (fun u_11 t1 H locs ht hvm hw_9 hB hz1 hk1 hS => ?_)
  obtain ⟨hP1, hD1⟩ := hB
  rw [ht] at hP1
  obtain ⟨hP, hD⟩ := va_join (wr := [(h0, .inr (6, o6 q 0 0 0 0))]) (w1 := [(q 0, .inr (3, [.ref (q 1), .int 12])), (q 1, .inl (c 0, 800, .inl (u_11.2.1 0)))]) hP hD [1, 2] [0] rfl rfl (by decide) (by decide) hk1 hFc hP1 hD1
  have hP : va_P D vwCl [(h0, .inr (6, o6 q 0 0 0 0)), (q 0, .inr (3, [.ref (q 1), .int 12])), (q 1, .inl (c 0, 800, .inl (u_11.2.1 0)))] H := hP
  have hD : va_D A [(h0, .inr (6, o6 q 0 0 0 0)), (q 0, .inr (3, [.ref (q 1), .int 12])), (q 1, .inl (c 0, 800, .inl (u_11.2.1 0)))] := hD
  refine W.widen (k := 0) (n := 0) (by omega) (by omega) ?_
  refine lv_aload_n hx hb dX6_feed_39 rfl (lv_at hl 0 rfl) ?_
  refine va_get (D := D) (ci := 6) (v := .ref (q 0)) (C := RX6) (T := TX6) (N := 18) hx hb hts (fun _ h => List.mem_cons_of_mem _ (List.mem_append_left _ (List.mem_append_right _ h))) hown hK hP 0 rfl rfl 0 (by decide) (hts (.fieldLink RX6 10 "CrownTable" "tape" "LCrownTable$Tape;") (mem_i 1 rfl)) (fun _ h9 => h9) rfl dX6_feed_40 ?_
  refine lv_iload hx hb dX6_feed_43 (lv_at hl 4 rfl) ?_
  have hPc := hP.sub (ws' := [(q 0, .inr (3, [.ref (q 1), .int 12])), (q 1, .inl (c 0, 800, .inl (u_11.2.1 0)))]) [1, 2] rfl
  have hDc := hD.sub (ws' := [(q 0, .inr (3, [.ref (q 1), .int 12])), (q 1, .inl (c 0, 800, .inl (u_11.2.1 0)))]) [1, 2] (by decide) rfl
  have hFc := va_free (wc := [(q 0, .inr (3, [.ref (q 1), .int 12])), (q 1, .inl (c 0, 800, .inl (u_11.2.1 0)))]) hD hS hA [1, 2] rfl
  refine va_callv (va_runVN (As := [.int a4]) (rest := []) ⟨hx, hb, hml, hown, hts⟩ (c_X3_addFour_3 l D c ts H.size (q 0) (q 1) (u_11.2.1 0) a4 i_a4 hi_a4) ⟨va_cnB 1 hts gX6_feed_X3_addFour_n91 rfl rfl rfl (show va_Nw (.methodLinkNest RX6 91 yX3_addFour RX6) _ from hAm.2.1.1 (RX6, 91, yX3_addFour, RX6) (mem_i 6 rfl)) (hts (.initialized RX3) (mem_i 3 rfl)) hdX3_addFour ⟨(show 1 + 1 ≤ 2 by decide), (show 8 + (3 + 11) + 21 ≤ 43 by decide)⟩, (hts (.instanceMethod yX3_addFour) (mem_i 7 rfl)), (hts (.selects RX3 yX3_addFour yX3_addFour) (mem_i 8 rfl))⟩ ⟨Pre0.blind, va_recv hK hPc (ci := 3) (q0 := 0) rfl rfl, Pre0.at hPc hDc hAm hSt hS hFc⟩ rfl rfl hl.1 rfl (lv_room (Nat.le_of_ble_eq_true rfl)) dX6_feed_45 ⟨(show 0 + 0 ≤ 0 by decide), (show 0 + 0 ≤ 0 by decide)⟩) hS (fun q _ h => hFc q h) hFc (fun u_14 t1 H locs ht hvm hw_12 hB hz1 hk1 hS => ?_)
  obtain ⟨hP1, hD1⟩ := hB
  rw [ht] at hP1
  obtain ⟨hP, hD⟩ := va_join (wr := [(h0, .inr (6, o6 q 0 0 0 0))]) (w1 := [(q 0, .inr (3, [.ref (q 1), .int 16])), (q 1, .inl (c 0, 800, .inl (u_14.2.1 0)))]) hP hD [1, 2] [0] rfl rfl (by decide) (by decide) hk1 hFc hP1 hD1
  have hP : va_P D vwCl [(h0, .inr (6, o6 q 0 0 0 0)), (q 0, .inr (3, [.ref (q 1), .int 16])), (q 1, .inl (c 0, 800, .inl (u_14.2.1 0)))] H := hP
  have hD : va_D A [(h0, .inr (6, o6 q 0 0 0 0)), (q 0, .inr (3, [.ref (q 1), .int 16])), (q 1, .inl (c 0, 800, .inl (u_14.2.1 0)))] := hD
  refine W.widen (k := 0) (n := 0) (by omega) (by omega) ?_
  refine lv_aload_n hx hb dX6_feed_48 rfl (lv_at hl 0 rfl) ?_
  refine va_get (D := D) (ci := 6) (v := .ref (q 0)) (C := RX6) (T := TX6) (N := 18) hx hb hts (fun _ h => List.mem_cons_of_mem _ (List.mem_append_left _ (List.mem_append_right _ h))) hown hK hP 0 rfl rfl 0 (by decide) (hts (.fieldLink RX6 10 "CrownTable" "tape" "LCrownTable$Tape;") (mem_i 1 rfl)) (fun _ h9 => h9) rfl dX6_feed_49 ?_
  refine lv_iload hx hb dX6_feed_52 (lv_at hl 5 rfl) ?_
  have hPc := hP.sub (ws' := [(q 0, .inr (3, [.ref (q 1), .int 16])), (q 1, .inl (c 0, 800, .inl (u_14.2.1 0)))]) [1, 2] rfl
  have hDc := hD.sub (ws' := [(q 0, .inr (3, [.ref (q 1), .int 16])), (q 1, .inl (c 0, 800, .inl (u_14.2.1 0)))]) [1, 2] (by decide) rfl
  have hFc := va_free (wc := [(q 0, .inr (3, [.ref (q 1), .int 16])), (q 1, .inl (c 0, 800, .inl (u_14.2.1 0)))]) hD hS hA [1, 2] rfl
  refine va_callv (va_runVN (As := [.int a5]) (rest := []) ⟨hx, hb, hml, hown, hts⟩ (c_X3_addFour_4 l D c ts H.size (q 0) (q 1) (u_14.2.1 0) a5 i_a5 hi_a5) ⟨va_cnB 1 hts gX6_feed_X3_addFour_n91 rfl rfl rfl (show va_Nw (.methodLinkNest RX6 91 yX3_addFour RX6) _ from hAm.2.1.1 (RX6, 91, yX3_addFour, RX6) (mem_i 6 rfl)) (hts (.initialized RX3) (mem_i 3 rfl)) hdX3_addFour ⟨(show 1 + 1 ≤ 2 by decide), (show 8 + (3 + 11) + 21 ≤ 43 by decide)⟩, (hts (.instanceMethod yX3_addFour) (mem_i 7 rfl)), (hts (.selects RX3 yX3_addFour yX3_addFour) (mem_i 8 rfl))⟩ ⟨Pre0.blind, va_recv hK hPc (ci := 3) (q0 := 0) rfl rfl, Pre0.at hPc hDc hAm hSt hS hFc⟩ rfl rfl hl.1 rfl (lv_room (Nat.le_of_ble_eq_true rfl)) dX6_feed_54 ⟨(show 0 + 0 ≤ 0 by decide), (show 0 + 0 ≤ 0 by decide)⟩) hS (fun q _ h => hFc q h) hFc (fun u_17 t1 H locs ht hvm hw_15 hB hz1 hk1 hS => ?_)
  obtain ⟨hP1, hD1⟩ := hB
  rw [ht] at hP1
  obtain ⟨hP, hD⟩ := va_join (wr := [(h0, .inr (6, o6 q 0 0 0 0))]) (w1 := [(q 0, .inr (3, [.ref (q 1), .int 20])), (q 1, .inl (c 0, 800, .inl (u_17.2.1 0)))]) hP hD [1, 2] [0] rfl rfl (by decide) (by decide) hk1 hFc hP1 hD1
  have hP : va_P D vwCl [(h0, .inr (6, o6 q 0 0 0 0)), (q 0, .inr (3, [.ref (q 1), .int 20])), (q 1, .inl (c 0, 800, .inl (u_17.2.1 0)))] H := hP
  have hD : va_D A [(h0, .inr (6, o6 q 0 0 0 0)), (q 0, .inr (3, [.ref (q 1), .int 20])), (q 1, .inl (c 0, 800, .inl (u_17.2.1 0)))] := hD
  refine W.widen (k := 0) (n := 0) (by omega) (by omega) ?_
  refine lv_aload_n hx hb dX6_feed_57 rfl (lv_at hl 0 rfl) ?_
  refine va_get (D := D) (ci := 6) (v := .ref (q 0)) (C := RX6) (T := TX6) (N := 18) hx hb hts (fun _ h => List.mem_cons_of_mem _ (List.mem_append_left _ (List.mem_append_right _ h))) hown hK hP 0 rfl rfl 0 (by decide) (hts (.fieldLink RX6 10 "CrownTable" "tape" "LCrownTable$Tape;") (mem_i 1 rfl)) (fun _ h9 => h9) rfl dX6_feed_58 ?_
  refine va_getN (D := D) (ci := 3) (v := .int 20) (own := RX6) (ref := "CrownTable$Tape") (host := RX6) (index := 95) (C := RX3) (T := TX3) (N := 2) hx hb hts (fun _ h => List.mem_cons_of_mem _ (List.mem_append_right _ h)) hown hK hP 1 rfl rfl 1 (by decide) (show (Cond.fieldLinkNest RX6 95 "CrownTable$Tape" "length" "I" RX6).before _ _ = true from va_Nw.use rfl (hAm.2.1.2 (RX6, 95, "CrownTable$Tape", "length", "I", RX6) (mem_i 0 rfl))) (fun _ h9 => h9) rfl dX6_feed_61 ?_
  refine W.widen (k := 0) (n := 0) (by omega) (by omega) ?_
  exact W.iret (v := 20) hx hb hr (fun t ht hW => ⟨⟨_, (), rfl, rfl, trivial⟩, hS.F ht⟩) hS.2.2 dX6_feed_64

set_option maxHeartbeats 4000000 in
set_option maxRecDepth 100000 in
theorem c_X7_bytes (l : Launch) (D : va_G) (c : Nat → ClassId) (ts : Nat × Nat) (sz : Nat) (q : Nat → Nat) (h0 : Nat) (a1 : Int32) (i_a1 : Int) (hi_a1 : a1.toInt = i_a1) : Met l yX7_bytes wsX7_bytes ({ frames := 0, cells := 0, slots := 0, locals := 0 }) (va_Pc [.ref h0, .int a1] (Pre0 D c ts [(h0, .inr (7, o7 q v0 w0)), (q 1, .inl (c 0, 800, .inl (fun _ => 0)))] sz)) (va_Qv (fun (u : (Nat → Nat) × (Nat → Nat → Int32) × (Nat → Nat → Int64)) => True) (fun u t => va_P D vwCl [(h0, .inr (7, o7 q (upd v0 2 4) w0)), (q 1, .inl (c 0, 800, .inl (u.2.1 0)))] t.heap ∧ va_D (va_A [(h0, .inr (7, o7 q v0 w0)), (q 1, .inl (c 0, 800, .inl (fun _ => 0)))] sz) [(h0, .inr (7, o7 q (upd v0 2 4) w0)), (q 1, .inl (c 0, 800, .inl (u.2.1 0)))]) (va_A [(h0, .inr (7, o7 q v0 w0)), (q 1, .inl (c 0, 800, .inl (fun _ => 0)))] sz)) 0 0 (va_A [(h0, .inr (7, o7 q v0 w0)), (q 1, .inl (c 0, 800, .inl (fun _ => 0)))] sz) := by
  refine Met.ofW (cc := cX7_bytes) (maxL := 3) (ret := none) (by decide) rfl ?_
  intro p e s m args below meth cd s₁ B hml hv
  obtain ⟨rfl, hsz, hP, hD0, hAm, hSt⟩ := hv
  have hx := B.exec
  have hb := B.bytes
  have hr := B.returns
  have hts := atoms_spec (ws := wsX7_bytes) B.pre
  have hown : s.vm.findClass RX7 = some m.cls := findClass_of_methodNamed B.named
  have hlocks := B.notSynchronized
  subst hsz
  have hK := hAm.1
  have hD := hD0.self (sz := s.heap.size)
  generalize hAe : va_A [(h0, .inr (7, o7 q v0 w0)), (q 1, .inl (c 0, 800, .inl (fun _ => 0)))] s.heap.size = A at hD hSt ⊢
  have hA : ∀ q : Nat, s.heap.size ≤ q → A q := fun q h => by rw [← hAe]; exact Or.inr h
  have hS : va_S A s.heap s.heap [] := va_S.rf
  clear hD0 hAe
  have hl := lv_entry ([.ref h0, .int a1]) (n := 3) (Nat.le_of_ble_eq_true rfl)
  rw [lg_entry_eq]
  generalize (lg_sl ([.ref h0, .int a1]) ++ List.replicate (3 - (lg_sl ([.ref h0, .int a1])).length) Slot.unset).toArray = ls at hl ⊢
  have hl : lv_has ls 3 [(0, .ref h0), (1, .int a1)] := hl
  refine lv_iconst (v := 3) hx hb dX7_bytes_0 (by decide) ?_
  refine lv_istore_n (lv' := [(2, .int 3), (0, .ref h0), (1, .int a1)]) hx hb dX7_bytes_1 rfl hl (by decide) rfl (fun ls hl => ?_)
  refine lv_iload_n hx hb dX7_bytes_2 rfl (lv_at hl 0 rfl) ?_
  refine iif_ltF (a := 3) (tgt := 38) hx hb (by decide) dX7_bytes_3 (by decide) (by decide) ?_
  refine lv_aload_n hx hb dX7_bytes_6 rfl (lv_at hl 1 rfl) ?_
  refine va_get (D := D) (ci := 7) (v := .ref (q 1)) (C := RX7) (T := TX7) (N := 56) hx hb hts (fun _ h => List.mem_cons_of_mem _ (List.mem_append_right _ h)) hown hK hP 0 rfl rfl 1 (by decide) (hts (.fieldLink RX7 7 "CrownTableModel" "tape" "[B") (mem_i 1 rfl)) (fun _ h9 => h9) rfl dX7_bytes_7 ?_
  refine lv_aload_n hx hb dX7_bytes_10 rfl (lv_at hl 1 rfl) ?_
  refine va_get (D := D) (ci := 7) (v := .int 0) (C := RX7) (T := TX7) (N := 56) hx hb hts (fun _ h => List.mem_cons_of_mem _ (List.mem_append_right _ h)) hown hK hP 0 rfl rfl 2 (by decide) (hts (.fieldLink RX7 125 "CrownTableModel" "taped" "I") (mem_i 2 rfl)) (fun _ h9 => h9) rfl dX7_bytes_11 ?_
  refine lv_iload_n hx hb dX7_bytes_14 rfl (lv_at hl 2 rfl) ?_
  refine lv_bipush (v := 8) hx hb dX7_bytes_15 (by decide) ?_
  refine lv_iload_n hx hb dX7_bytes_17 rfl (lv_at hl 0 rfl) ?_
  refine lv_imul hx hb dX7_bytes_18 ?_
  refine lk_i (y := 24) (by decide) ?_
  refine lv_ishr hx hb dX7_bytes_19 ?_
  refine lv_topi (fun x_1 ex_1 => ?_)
  refine lv_i2b hx hb dX7_bytes_20 rfl ?_
  refine lv_topi (fun x_2 ex_2 => ?_)
  refine va_bast hx hb hK hP hD hS 1 0 rfl rfl (vin (a := 0) (by decide) (by decide) (by decide)) dX7_bytes_21 (fun H locs hP hD hS => ?_)
  obtain ⟨f_3, hP, hD⟩ : ∃ f_3 : Nat → Int32, va_P D vwCl [(h0, .inr (7, o7 q v0 w0)), (q 1, .inl (c 0, 800, .inl f_3))] H ∧ va_D A [(h0, .inr (7, o7 q v0 w0)), (q 1, .inl (c 0, 800, .inl f_3))] := ⟨_, hP, hD⟩
  refine lv_aload_n hx hb dX7_bytes_22 rfl (lv_at hl 1 rfl) ?_
  refine lv_dup hx hb dX7_bytes_23 rfl ?_
  refine va_get (D := D) (ci := 7) (v := .int 0) (C := RX7) (T := TX7) (N := 56) hx hb hts (fun _ h => List.mem_cons_of_mem _ (List.mem_append_right _ h)) hown hK hP 0 rfl rfl 2 (by decide) (hts (.fieldLink RX7 125 "CrownTableModel" "taped" "I") (mem_i 2 rfl)) (fun _ h9 => h9) rfl dX7_bytes_24 ?_
  refine lv_iconst (v := 1) hx hb dX7_bytes_27 (by decide) ?_
  refine lv_iadd hx hb dX7_bytes_28 ?_
  refine lk_i (y := 1) (by decide) ?_
  refine va_put (D := D) (ci := 7) (v := .int 1) (ty := .int) (C := RX7) (T := TX7) (N := 56) hx hb hts (fun _ h => List.mem_cons_of_mem _ (List.mem_append_right _ h)) tyX7 tyX7_ok nmX7 hown hK hP hD hS 0 rfl rfl 2 (by decide) (hts (.fieldLink RX7 125 "CrownTableModel" "taped" "I") (mem_i 2 rfl)) (fun _ h9 => h9) rfl (by decide +kernel) rfl rfl (Nat.le_of_ble_eq_true rfl) dX7_bytes_29 (fun H locs hP hD hS => ?_)
  have hP : va_P D vwCl [(h0, .inr (7, o7 q (upd v0 2 1) w0)), (q 1, .inl (c 0, 800, .inl f_3))] H := hP
  have hD : va_D A [(h0, .inr (7, o7 q (upd v0 2 1) w0)), (q 1, .inl (c 0, 800, .inl f_3))] := hD
  refine lv_iinc (v := 2) (lv' := [(2, .int 2), (0, .ref h0), (1, .int a1)]) hx hb dX7_bytes_32 hl (k := 0) rfl (by decide) (by decide) rfl (fun ls hl => ?_)
  refine lv_goto (tgt := 2) hx hb dX7_bytes_35 (by decide) ?_
  refine lv_iload_n hx hb dX7_bytes_2 rfl (lv_at hl 0 rfl) ?_
  refine iif_ltF (a := 2) (tgt := 38) hx hb (by decide) dX7_bytes_3 (by decide) (by decide) ?_
  refine lv_aload_n hx hb dX7_bytes_6 rfl (lv_at hl 1 rfl) ?_
  refine va_get (D := D) (ci := 7) (v := .ref (q 1)) (C := RX7) (T := TX7) (N := 56) hx hb hts (fun _ h => List.mem_cons_of_mem _ (List.mem_append_right _ h)) hown hK hP 0 rfl rfl 1 (by decide) (hts (.fieldLink RX7 7 "CrownTableModel" "tape" "[B") (mem_i 1 rfl)) (fun _ h9 => h9) rfl dX7_bytes_7 ?_
  refine lv_aload_n hx hb dX7_bytes_10 rfl (lv_at hl 1 rfl) ?_
  refine va_get (D := D) (ci := 7) (v := .int 1) (C := RX7) (T := TX7) (N := 56) hx hb hts (fun _ h => List.mem_cons_of_mem _ (List.mem_append_right _ h)) hown hK hP 0 rfl rfl 2 (by decide) (hts (.fieldLink RX7 125 "CrownTableModel" "taped" "I") (mem_i 2 rfl)) (fun _ h9 => h9) rfl dX7_bytes_11 ?_
  refine lv_iload_n hx hb dX7_bytes_14 rfl (lv_at hl 2 rfl) ?_
  refine lv_bipush (v := 8) hx hb dX7_bytes_15 (by decide) ?_
  refine lv_iload_n hx hb dX7_bytes_17 rfl (lv_at hl 0 rfl) ?_
  refine lv_imul hx hb dX7_bytes_18 ?_
  refine lk_i (y := 16) (by decide) ?_
  refine lv_ishr hx hb dX7_bytes_19 ?_
  refine lv_topi (fun x_4 ex_4 => ?_)
  refine lv_i2b hx hb dX7_bytes_20 rfl ?_
  refine lv_topi (fun x_5 ex_5 => ?_)
  refine va_bast hx hb hK hP hD hS 1 0 rfl rfl (vin (a := 1) (by decide) (by decide) (by decide)) dX7_bytes_21 (fun H locs hP hD hS => ?_)
  obtain ⟨f_6, hP, hD⟩ : ∃ f_6 : Nat → Int32, va_P D vwCl [(h0, .inr (7, o7 q (upd v0 2 1) w0)), (q 1, .inl (c 0, 800, .inl f_6))] H ∧ va_D A [(h0, .inr (7, o7 q (upd v0 2 1) w0)), (q 1, .inl (c 0, 800, .inl f_6))] := ⟨_, hP, hD⟩
  refine lv_aload_n hx hb dX7_bytes_22 rfl (lv_at hl 1 rfl) ?_
  refine lv_dup hx hb dX7_bytes_23 rfl ?_
  refine va_get (D := D) (ci := 7) (v := .int 1) (C := RX7) (T := TX7) (N := 56) hx hb hts (fun _ h => List.mem_cons_of_mem _ (List.mem_append_right _ h)) hown hK hP 0 rfl rfl 2 (by decide) (hts (.fieldLink RX7 125 "CrownTableModel" "taped" "I") (mem_i 2 rfl)) (fun _ h9 => h9) rfl dX7_bytes_24 ?_
  refine lv_iconst (v := 1) hx hb dX7_bytes_27 (by decide) ?_
  refine lv_iadd hx hb dX7_bytes_28 ?_
  refine lk_i (y := 2) (by decide) ?_
  refine va_put (D := D) (ci := 7) (v := .int 2) (ty := .int) (C := RX7) (T := TX7) (N := 56) hx hb hts (fun _ h => List.mem_cons_of_mem _ (List.mem_append_right _ h)) tyX7 tyX7_ok nmX7 hown hK hP hD hS 0 rfl rfl 2 (by decide) (hts (.fieldLink RX7 125 "CrownTableModel" "taped" "I") (mem_i 2 rfl)) (fun _ h9 => h9) rfl (by decide +kernel) rfl rfl (Nat.le_of_ble_eq_true rfl) dX7_bytes_29 (fun H locs hP hD hS => ?_)
  have hP : va_P D vwCl [(h0, .inr (7, o7 q (upd v0 2 2) w0)), (q 1, .inl (c 0, 800, .inl f_6))] H := hP
  have hD : va_D A [(h0, .inr (7, o7 q (upd v0 2 2) w0)), (q 1, .inl (c 0, 800, .inl f_6))] := hD
  refine lv_iinc (v := 1) (lv' := [(2, .int 1), (0, .ref h0), (1, .int a1)]) hx hb dX7_bytes_32 hl (k := 0) rfl (by decide) (by decide) rfl (fun ls hl => ?_)
  refine lv_goto (tgt := 2) hx hb dX7_bytes_35 (by decide) ?_
  refine lv_iload_n hx hb dX7_bytes_2 rfl (lv_at hl 0 rfl) ?_
  refine iif_ltF (a := 1) (tgt := 38) hx hb (by decide) dX7_bytes_3 (by decide) (by decide) ?_
  refine lv_aload_n hx hb dX7_bytes_6 rfl (lv_at hl 1 rfl) ?_
  refine va_get (D := D) (ci := 7) (v := .ref (q 1)) (C := RX7) (T := TX7) (N := 56) hx hb hts (fun _ h => List.mem_cons_of_mem _ (List.mem_append_right _ h)) hown hK hP 0 rfl rfl 1 (by decide) (hts (.fieldLink RX7 7 "CrownTableModel" "tape" "[B") (mem_i 1 rfl)) (fun _ h9 => h9) rfl dX7_bytes_7 ?_
  refine lv_aload_n hx hb dX7_bytes_10 rfl (lv_at hl 1 rfl) ?_
  refine va_get (D := D) (ci := 7) (v := .int 2) (C := RX7) (T := TX7) (N := 56) hx hb hts (fun _ h => List.mem_cons_of_mem _ (List.mem_append_right _ h)) hown hK hP 0 rfl rfl 2 (by decide) (hts (.fieldLink RX7 125 "CrownTableModel" "taped" "I") (mem_i 2 rfl)) (fun _ h9 => h9) rfl dX7_bytes_11 ?_
  refine lv_iload_n hx hb dX7_bytes_14 rfl (lv_at hl 2 rfl) ?_
  refine lv_bipush (v := 8) hx hb dX7_bytes_15 (by decide) ?_
  refine lv_iload_n hx hb dX7_bytes_17 rfl (lv_at hl 0 rfl) ?_
  refine lv_imul hx hb dX7_bytes_18 ?_
  refine lk_i (y := 8) (by decide) ?_
  refine lv_ishr hx hb dX7_bytes_19 ?_
  refine lv_topi (fun x_7 ex_7 => ?_)
  refine lv_i2b hx hb dX7_bytes_20 rfl ?_
  refine lv_topi (fun x_8 ex_8 => ?_)
  refine va_bast hx hb hK hP hD hS 1 0 rfl rfl (vin (a := 2) (by decide) (by decide) (by decide)) dX7_bytes_21 (fun H locs hP hD hS => ?_)
  obtain ⟨f_9, hP, hD⟩ : ∃ f_9 : Nat → Int32, va_P D vwCl [(h0, .inr (7, o7 q (upd v0 2 2) w0)), (q 1, .inl (c 0, 800, .inl f_9))] H ∧ va_D A [(h0, .inr (7, o7 q (upd v0 2 2) w0)), (q 1, .inl (c 0, 800, .inl f_9))] := ⟨_, hP, hD⟩
  refine lv_aload_n hx hb dX7_bytes_22 rfl (lv_at hl 1 rfl) ?_
  refine lv_dup hx hb dX7_bytes_23 rfl ?_
  refine va_get (D := D) (ci := 7) (v := .int 2) (C := RX7) (T := TX7) (N := 56) hx hb hts (fun _ h => List.mem_cons_of_mem _ (List.mem_append_right _ h)) hown hK hP 0 rfl rfl 2 (by decide) (hts (.fieldLink RX7 125 "CrownTableModel" "taped" "I") (mem_i 2 rfl)) (fun _ h9 => h9) rfl dX7_bytes_24 ?_
  refine lv_iconst (v := 1) hx hb dX7_bytes_27 (by decide) ?_
  refine lv_iadd hx hb dX7_bytes_28 ?_
  refine lk_i (y := 3) (by decide) ?_
  refine va_put (D := D) (ci := 7) (v := .int 3) (ty := .int) (C := RX7) (T := TX7) (N := 56) hx hb hts (fun _ h => List.mem_cons_of_mem _ (List.mem_append_right _ h)) tyX7 tyX7_ok nmX7 hown hK hP hD hS 0 rfl rfl 2 (by decide) (hts (.fieldLink RX7 125 "CrownTableModel" "taped" "I") (mem_i 2 rfl)) (fun _ h9 => h9) rfl (by decide +kernel) rfl rfl (Nat.le_of_ble_eq_true rfl) dX7_bytes_29 (fun H locs hP hD hS => ?_)
  have hP : va_P D vwCl [(h0, .inr (7, o7 q (upd v0 2 3) w0)), (q 1, .inl (c 0, 800, .inl f_9))] H := hP
  have hD : va_D A [(h0, .inr (7, o7 q (upd v0 2 3) w0)), (q 1, .inl (c 0, 800, .inl f_9))] := hD
  refine lv_iinc (v := 0) (lv' := [(2, .int 0), (0, .ref h0), (1, .int a1)]) hx hb dX7_bytes_32 hl (k := 0) rfl (by decide) (by decide) rfl (fun ls hl => ?_)
  refine lv_goto (tgt := 2) hx hb dX7_bytes_35 (by decide) ?_
  refine lv_iload_n hx hb dX7_bytes_2 rfl (lv_at hl 0 rfl) ?_
  refine iif_ltF (a := 0) (tgt := 38) hx hb (by decide) dX7_bytes_3 (by decide) (by decide) ?_
  refine lv_aload_n hx hb dX7_bytes_6 rfl (lv_at hl 1 rfl) ?_
  refine va_get (D := D) (ci := 7) (v := .ref (q 1)) (C := RX7) (T := TX7) (N := 56) hx hb hts (fun _ h => List.mem_cons_of_mem _ (List.mem_append_right _ h)) hown hK hP 0 rfl rfl 1 (by decide) (hts (.fieldLink RX7 7 "CrownTableModel" "tape" "[B") (mem_i 1 rfl)) (fun _ h9 => h9) rfl dX7_bytes_7 ?_
  refine lv_aload_n hx hb dX7_bytes_10 rfl (lv_at hl 1 rfl) ?_
  refine va_get (D := D) (ci := 7) (v := .int 3) (C := RX7) (T := TX7) (N := 56) hx hb hts (fun _ h => List.mem_cons_of_mem _ (List.mem_append_right _ h)) hown hK hP 0 rfl rfl 2 (by decide) (hts (.fieldLink RX7 125 "CrownTableModel" "taped" "I") (mem_i 2 rfl)) (fun _ h9 => h9) rfl dX7_bytes_11 ?_
  refine lv_iload_n hx hb dX7_bytes_14 rfl (lv_at hl 2 rfl) ?_
  refine lv_bipush (v := 8) hx hb dX7_bytes_15 (by decide) ?_
  refine lv_iload_n hx hb dX7_bytes_17 rfl (lv_at hl 0 rfl) ?_
  refine lv_imul hx hb dX7_bytes_18 ?_
  refine lk_i (y := 0) (by decide) ?_
  refine lv_ishr hx hb dX7_bytes_19 ?_
  refine lv_topi (fun x_10 ex_10 => ?_)
  refine lv_i2b hx hb dX7_bytes_20 rfl ?_
  refine lv_topi (fun x_11 ex_11 => ?_)
  refine va_bast hx hb hK hP hD hS 1 0 rfl rfl (vin (a := 3) (by decide) (by decide) (by decide)) dX7_bytes_21 (fun H locs hP hD hS => ?_)
  obtain ⟨f_12, hP, hD⟩ : ∃ f_12 : Nat → Int32, va_P D vwCl [(h0, .inr (7, o7 q (upd v0 2 3) w0)), (q 1, .inl (c 0, 800, .inl f_12))] H ∧ va_D A [(h0, .inr (7, o7 q (upd v0 2 3) w0)), (q 1, .inl (c 0, 800, .inl f_12))] := ⟨_, hP, hD⟩
  refine lv_aload_n hx hb dX7_bytes_22 rfl (lv_at hl 1 rfl) ?_
  refine lv_dup hx hb dX7_bytes_23 rfl ?_
  refine va_get (D := D) (ci := 7) (v := .int 3) (C := RX7) (T := TX7) (N := 56) hx hb hts (fun _ h => List.mem_cons_of_mem _ (List.mem_append_right _ h)) hown hK hP 0 rfl rfl 2 (by decide) (hts (.fieldLink RX7 125 "CrownTableModel" "taped" "I") (mem_i 2 rfl)) (fun _ h9 => h9) rfl dX7_bytes_24 ?_
  refine lv_iconst (v := 1) hx hb dX7_bytes_27 (by decide) ?_
  refine lv_iadd hx hb dX7_bytes_28 ?_
  refine lk_i (y := 4) (by decide) ?_
  refine va_put (D := D) (ci := 7) (v := .int 4) (ty := .int) (C := RX7) (T := TX7) (N := 56) hx hb hts (fun _ h => List.mem_cons_of_mem _ (List.mem_append_right _ h)) tyX7 tyX7_ok nmX7 hown hK hP hD hS 0 rfl rfl 2 (by decide) (hts (.fieldLink RX7 125 "CrownTableModel" "taped" "I") (mem_i 2 rfl)) (fun _ h9 => h9) rfl (by decide +kernel) rfl rfl (Nat.le_of_ble_eq_true rfl) dX7_bytes_29 (fun H locs hP hD hS => ?_)
  have hP : va_P D vwCl [(h0, .inr (7, o7 q (upd v0 2 4) w0)), (q 1, .inl (c 0, 800, .inl f_12))] H := hP
  have hD : va_D A [(h0, .inr (7, o7 q (upd v0 2 4) w0)), (q 1, .inl (c 0, 800, .inl f_12))] := hD
  refine lv_iinc (v := (-1)) (lv' := [(2, .int (-1)), (0, .ref h0), (1, .int a1)]) hx hb dX7_bytes_32 hl (k := 0) rfl (by decide) (by decide) rfl (fun ls hl => ?_)
  refine lv_goto (tgt := 2) hx hb dX7_bytes_35 (by decide) ?_
  refine lv_iload_n hx hb dX7_bytes_2 rfl (lv_at hl 0 rfl) ?_
  refine iif_ltT (a := (-1)) (tgt := 38) hx hb (by decide) dX7_bytes_3 (by decide) (by decide) ?_
  have hP9 := hP.sub (ws' := [(h0, .inr (7, o7 q (upd v0 2 4) w0)), (q 1, .inl (c 0, 800, .inl f_12))]) [0, 1] rfl
  have hD9 := hD.sub (ws' := [(h0, .inr (7, o7 q (upd v0 2 4) w0)), (q 1, .inl (c 0, 800, .inl f_12))]) [0, 1] (by decide) rfl
  refine W.widen (k := 0) (n := 0) (by omega) (by omega) ?_
  exact W.vret hx hb hr (fun t ht hW => ⟨⟨(fun k => [].getD k 0, fun k => [f_12].getD k (fun _ => 0), fun k => [].getD k (fun _ => 0)), rfl, trivial, ⟨by rw [ht]; exact hP9, hD9⟩⟩, hS.F ht⟩) hS.2.2 dX7_bytes_38

set_option maxHeartbeats 4000000 in
set_option maxRecDepth 100000 in
theorem c_X7_bytes_1 (l : Launch) (D : va_G) (c : Nat → ClassId) (ts : Nat × Nat) (sz : Nat) (q : Nat → Nat) (h0 : Nat) (f0 : Nat → Int32) (a1 : Int32) (i_a1 : Int) (hi_a1 : a1.toInt = i_a1) : Met l yX7_bytes wsX7_bytes ({ frames := 0, cells := 0, slots := 0, locals := 0 }) (va_Pc [.ref h0, .int a1] (Pre0 D c ts [(h0, .inr (7, o7 q (upd v0 2 4) w0)), (q 1, .inl (c 0, 800, .inl f0))] sz)) (va_Qv (fun (u : (Nat → Nat) × (Nat → Nat → Int32) × (Nat → Nat → Int64)) => True) (fun u t => va_P D vwCl [(h0, .inr (7, o7 q (upd v0 2 8) w0)), (q 1, .inl (c 0, 800, .inl (u.2.1 0)))] t.heap ∧ va_D (va_A [(h0, .inr (7, o7 q (upd v0 2 4) w0)), (q 1, .inl (c 0, 800, .inl f0))] sz) [(h0, .inr (7, o7 q (upd v0 2 8) w0)), (q 1, .inl (c 0, 800, .inl (u.2.1 0)))]) (va_A [(h0, .inr (7, o7 q (upd v0 2 4) w0)), (q 1, .inl (c 0, 800, .inl f0))] sz)) 0 0 (va_A [(h0, .inr (7, o7 q (upd v0 2 4) w0)), (q 1, .inl (c 0, 800, .inl f0))] sz) := by
  refine Met.ofW (cc := cX7_bytes) (maxL := 3) (ret := none) (by decide) rfl ?_
  intro p e s m args below meth cd s₁ B hml hv
  obtain ⟨rfl, hsz, hP, hD0, hAm, hSt⟩ := hv
  have hx := B.exec
  have hb := B.bytes
  have hr := B.returns
  have hts := atoms_spec (ws := wsX7_bytes) B.pre
  have hown : s.vm.findClass RX7 = some m.cls := findClass_of_methodNamed B.named
  have hlocks := B.notSynchronized
  subst hsz
  have hK := hAm.1
  have hD := hD0.self (sz := s.heap.size)
  generalize hAe : va_A [(h0, .inr (7, o7 q (upd v0 2 4) w0)), (q 1, .inl (c 0, 800, .inl f0))] s.heap.size = A at hD hSt ⊢
  have hA : ∀ q : Nat, s.heap.size ≤ q → A q := fun q h => by rw [← hAe]; exact Or.inr h
  have hS : va_S A s.heap s.heap [] := va_S.rf
  clear hD0 hAe
  have hl := lv_entry ([.ref h0, .int a1]) (n := 3) (Nat.le_of_ble_eq_true rfl)
  rw [lg_entry_eq]
  generalize (lg_sl ([.ref h0, .int a1]) ++ List.replicate (3 - (lg_sl ([.ref h0, .int a1])).length) Slot.unset).toArray = ls at hl ⊢
  have hl : lv_has ls 3 [(0, .ref h0), (1, .int a1)] := hl
  refine lv_iconst (v := 3) hx hb dX7_bytes_0 (by decide) ?_
  refine lv_istore_n (lv' := [(2, .int 3), (0, .ref h0), (1, .int a1)]) hx hb dX7_bytes_1 rfl hl (by decide) rfl (fun ls hl => ?_)
  refine lv_iload_n hx hb dX7_bytes_2 rfl (lv_at hl 0 rfl) ?_
  refine iif_ltF (a := 3) (tgt := 38) hx hb (by decide) dX7_bytes_3 (by decide) (by decide) ?_
  refine lv_aload_n hx hb dX7_bytes_6 rfl (lv_at hl 1 rfl) ?_
  refine va_get (D := D) (ci := 7) (v := .ref (q 1)) (C := RX7) (T := TX7) (N := 56) hx hb hts (fun _ h => List.mem_cons_of_mem _ (List.mem_append_right _ h)) hown hK hP 0 rfl rfl 1 (by decide) (hts (.fieldLink RX7 7 "CrownTableModel" "tape" "[B") (mem_i 1 rfl)) (fun _ h9 => h9) rfl dX7_bytes_7 ?_
  refine lv_aload_n hx hb dX7_bytes_10 rfl (lv_at hl 1 rfl) ?_
  refine va_get (D := D) (ci := 7) (v := .int 4) (C := RX7) (T := TX7) (N := 56) hx hb hts (fun _ h => List.mem_cons_of_mem _ (List.mem_append_right _ h)) hown hK hP 0 rfl rfl 2 (by decide) (hts (.fieldLink RX7 125 "CrownTableModel" "taped" "I") (mem_i 2 rfl)) (fun _ h9 => h9) rfl dX7_bytes_11 ?_
  refine lv_iload_n hx hb dX7_bytes_14 rfl (lv_at hl 2 rfl) ?_
  refine lv_bipush (v := 8) hx hb dX7_bytes_15 (by decide) ?_
  refine lv_iload_n hx hb dX7_bytes_17 rfl (lv_at hl 0 rfl) ?_
  refine lv_imul hx hb dX7_bytes_18 ?_
  refine lk_i (y := 24) (by decide) ?_
  refine lv_ishr hx hb dX7_bytes_19 ?_
  refine lv_topi (fun x_1 ex_1 => ?_)
  refine lv_i2b hx hb dX7_bytes_20 rfl ?_
  refine lv_topi (fun x_2 ex_2 => ?_)
  refine va_bast hx hb hK hP hD hS 1 0 rfl rfl (vin (a := 4) (by decide) (by decide) (by decide)) dX7_bytes_21 (fun H locs hP hD hS => ?_)
  obtain ⟨f_3, hP, hD⟩ : ∃ f_3 : Nat → Int32, va_P D vwCl [(h0, .inr (7, o7 q (upd v0 2 4) w0)), (q 1, .inl (c 0, 800, .inl f_3))] H ∧ va_D A [(h0, .inr (7, o7 q (upd v0 2 4) w0)), (q 1, .inl (c 0, 800, .inl f_3))] := ⟨_, hP, hD⟩
  refine lv_aload_n hx hb dX7_bytes_22 rfl (lv_at hl 1 rfl) ?_
  refine lv_dup hx hb dX7_bytes_23 rfl ?_
  refine va_get (D := D) (ci := 7) (v := .int 4) (C := RX7) (T := TX7) (N := 56) hx hb hts (fun _ h => List.mem_cons_of_mem _ (List.mem_append_right _ h)) hown hK hP 0 rfl rfl 2 (by decide) (hts (.fieldLink RX7 125 "CrownTableModel" "taped" "I") (mem_i 2 rfl)) (fun _ h9 => h9) rfl dX7_bytes_24 ?_
  refine lv_iconst (v := 1) hx hb dX7_bytes_27 (by decide) ?_
  refine lv_iadd hx hb dX7_bytes_28 ?_
  refine lk_i (y := 5) (by decide) ?_
  refine va_put (D := D) (ci := 7) (v := .int 5) (ty := .int) (C := RX7) (T := TX7) (N := 56) hx hb hts (fun _ h => List.mem_cons_of_mem _ (List.mem_append_right _ h)) tyX7 tyX7_ok nmX7 hown hK hP hD hS 0 rfl rfl 2 (by decide) (hts (.fieldLink RX7 125 "CrownTableModel" "taped" "I") (mem_i 2 rfl)) (fun _ h9 => h9) rfl (by decide +kernel) rfl rfl (Nat.le_of_ble_eq_true rfl) dX7_bytes_29 (fun H locs hP hD hS => ?_)
  have hP : va_P D vwCl [(h0, .inr (7, o7 q (upd v0 2 5) w0)), (q 1, .inl (c 0, 800, .inl f_3))] H := hP
  have hD : va_D A [(h0, .inr (7, o7 q (upd v0 2 5) w0)), (q 1, .inl (c 0, 800, .inl f_3))] := hD
  refine lv_iinc (v := 2) (lv' := [(2, .int 2), (0, .ref h0), (1, .int a1)]) hx hb dX7_bytes_32 hl (k := 0) rfl (by decide) (by decide) rfl (fun ls hl => ?_)
  refine lv_goto (tgt := 2) hx hb dX7_bytes_35 (by decide) ?_
  refine lv_iload_n hx hb dX7_bytes_2 rfl (lv_at hl 0 rfl) ?_
  refine iif_ltF (a := 2) (tgt := 38) hx hb (by decide) dX7_bytes_3 (by decide) (by decide) ?_
  refine lv_aload_n hx hb dX7_bytes_6 rfl (lv_at hl 1 rfl) ?_
  refine va_get (D := D) (ci := 7) (v := .ref (q 1)) (C := RX7) (T := TX7) (N := 56) hx hb hts (fun _ h => List.mem_cons_of_mem _ (List.mem_append_right _ h)) hown hK hP 0 rfl rfl 1 (by decide) (hts (.fieldLink RX7 7 "CrownTableModel" "tape" "[B") (mem_i 1 rfl)) (fun _ h9 => h9) rfl dX7_bytes_7 ?_
  refine lv_aload_n hx hb dX7_bytes_10 rfl (lv_at hl 1 rfl) ?_
  refine va_get (D := D) (ci := 7) (v := .int 5) (C := RX7) (T := TX7) (N := 56) hx hb hts (fun _ h => List.mem_cons_of_mem _ (List.mem_append_right _ h)) hown hK hP 0 rfl rfl 2 (by decide) (hts (.fieldLink RX7 125 "CrownTableModel" "taped" "I") (mem_i 2 rfl)) (fun _ h9 => h9) rfl dX7_bytes_11 ?_
  refine lv_iload_n hx hb dX7_bytes_14 rfl (lv_at hl 2 rfl) ?_
  refine lv_bipush (v := 8) hx hb dX7_bytes_15 (by decide) ?_
  refine lv_iload_n hx hb dX7_bytes_17 rfl (lv_at hl 0 rfl) ?_
  refine lv_imul hx hb dX7_bytes_18 ?_
  refine lk_i (y := 16) (by decide) ?_
  refine lv_ishr hx hb dX7_bytes_19 ?_
  refine lv_topi (fun x_4 ex_4 => ?_)
  refine lv_i2b hx hb dX7_bytes_20 rfl ?_
  refine lv_topi (fun x_5 ex_5 => ?_)
  refine va_bast hx hb hK hP hD hS 1 0 rfl rfl (vin (a := 5) (by decide) (by decide) (by decide)) dX7_bytes_21 (fun H locs hP hD hS => ?_)
  obtain ⟨f_6, hP, hD⟩ : ∃ f_6 : Nat → Int32, va_P D vwCl [(h0, .inr (7, o7 q (upd v0 2 5) w0)), (q 1, .inl (c 0, 800, .inl f_6))] H ∧ va_D A [(h0, .inr (7, o7 q (upd v0 2 5) w0)), (q 1, .inl (c 0, 800, .inl f_6))] := ⟨_, hP, hD⟩
  refine lv_aload_n hx hb dX7_bytes_22 rfl (lv_at hl 1 rfl) ?_
  refine lv_dup hx hb dX7_bytes_23 rfl ?_
  refine va_get (D := D) (ci := 7) (v := .int 5) (C := RX7) (T := TX7) (N := 56) hx hb hts (fun _ h => List.mem_cons_of_mem _ (List.mem_append_right _ h)) hown hK hP 0 rfl rfl 2 (by decide) (hts (.fieldLink RX7 125 "CrownTableModel" "taped" "I") (mem_i 2 rfl)) (fun _ h9 => h9) rfl dX7_bytes_24 ?_
  refine lv_iconst (v := 1) hx hb dX7_bytes_27 (by decide) ?_
  refine lv_iadd hx hb dX7_bytes_28 ?_
  refine lk_i (y := 6) (by decide) ?_
  refine va_put (D := D) (ci := 7) (v := .int 6) (ty := .int) (C := RX7) (T := TX7) (N := 56) hx hb hts (fun _ h => List.mem_cons_of_mem _ (List.mem_append_right _ h)) tyX7 tyX7_ok nmX7 hown hK hP hD hS 0 rfl rfl 2 (by decide) (hts (.fieldLink RX7 125 "CrownTableModel" "taped" "I") (mem_i 2 rfl)) (fun _ h9 => h9) rfl (by decide +kernel) rfl rfl (Nat.le_of_ble_eq_true rfl) dX7_bytes_29 (fun H locs hP hD hS => ?_)
  have hP : va_P D vwCl [(h0, .inr (7, o7 q (upd v0 2 6) w0)), (q 1, .inl (c 0, 800, .inl f_6))] H := hP
  have hD : va_D A [(h0, .inr (7, o7 q (upd v0 2 6) w0)), (q 1, .inl (c 0, 800, .inl f_6))] := hD
  refine lv_iinc (v := 1) (lv' := [(2, .int 1), (0, .ref h0), (1, .int a1)]) hx hb dX7_bytes_32 hl (k := 0) rfl (by decide) (by decide) rfl (fun ls hl => ?_)
  refine lv_goto (tgt := 2) hx hb dX7_bytes_35 (by decide) ?_
  refine lv_iload_n hx hb dX7_bytes_2 rfl (lv_at hl 0 rfl) ?_
  refine iif_ltF (a := 1) (tgt := 38) hx hb (by decide) dX7_bytes_3 (by decide) (by decide) ?_
  refine lv_aload_n hx hb dX7_bytes_6 rfl (lv_at hl 1 rfl) ?_
  refine va_get (D := D) (ci := 7) (v := .ref (q 1)) (C := RX7) (T := TX7) (N := 56) hx hb hts (fun _ h => List.mem_cons_of_mem _ (List.mem_append_right _ h)) hown hK hP 0 rfl rfl 1 (by decide) (hts (.fieldLink RX7 7 "CrownTableModel" "tape" "[B") (mem_i 1 rfl)) (fun _ h9 => h9) rfl dX7_bytes_7 ?_
  refine lv_aload_n hx hb dX7_bytes_10 rfl (lv_at hl 1 rfl) ?_
  refine va_get (D := D) (ci := 7) (v := .int 6) (C := RX7) (T := TX7) (N := 56) hx hb hts (fun _ h => List.mem_cons_of_mem _ (List.mem_append_right _ h)) hown hK hP 0 rfl rfl 2 (by decide) (hts (.fieldLink RX7 125 "CrownTableModel" "taped" "I") (mem_i 2 rfl)) (fun _ h9 => h9) rfl dX7_bytes_11 ?_
  refine lv_iload_n hx hb dX7_bytes_14 rfl (lv_at hl 2 rfl) ?_
  refine lv_bipush (v := 8) hx hb dX7_bytes_15 (by decide) ?_
  refine lv_iload_n hx hb dX7_bytes_17 rfl (lv_at hl 0 rfl) ?_
  refine lv_imul hx hb dX7_bytes_18 ?_
  refine lk_i (y := 8) (by decide) ?_
  refine lv_ishr hx hb dX7_bytes_19 ?_
  refine lv_topi (fun x_7 ex_7 => ?_)
  refine lv_i2b hx hb dX7_bytes_20 rfl ?_
  refine lv_topi (fun x_8 ex_8 => ?_)
  refine va_bast hx hb hK hP hD hS 1 0 rfl rfl (vin (a := 6) (by decide) (by decide) (by decide)) dX7_bytes_21 (fun H locs hP hD hS => ?_)
  obtain ⟨f_9, hP, hD⟩ : ∃ f_9 : Nat → Int32, va_P D vwCl [(h0, .inr (7, o7 q (upd v0 2 6) w0)), (q 1, .inl (c 0, 800, .inl f_9))] H ∧ va_D A [(h0, .inr (7, o7 q (upd v0 2 6) w0)), (q 1, .inl (c 0, 800, .inl f_9))] := ⟨_, hP, hD⟩
  refine lv_aload_n hx hb dX7_bytes_22 rfl (lv_at hl 1 rfl) ?_
  refine lv_dup hx hb dX7_bytes_23 rfl ?_
  refine va_get (D := D) (ci := 7) (v := .int 6) (C := RX7) (T := TX7) (N := 56) hx hb hts (fun _ h => List.mem_cons_of_mem _ (List.mem_append_right _ h)) hown hK hP 0 rfl rfl 2 (by decide) (hts (.fieldLink RX7 125 "CrownTableModel" "taped" "I") (mem_i 2 rfl)) (fun _ h9 => h9) rfl dX7_bytes_24 ?_
  refine lv_iconst (v := 1) hx hb dX7_bytes_27 (by decide) ?_
  refine lv_iadd hx hb dX7_bytes_28 ?_
  refine lk_i (y := 7) (by decide) ?_
  refine va_put (D := D) (ci := 7) (v := .int 7) (ty := .int) (C := RX7) (T := TX7) (N := 56) hx hb hts (fun _ h => List.mem_cons_of_mem _ (List.mem_append_right _ h)) tyX7 tyX7_ok nmX7 hown hK hP hD hS 0 rfl rfl 2 (by decide) (hts (.fieldLink RX7 125 "CrownTableModel" "taped" "I") (mem_i 2 rfl)) (fun _ h9 => h9) rfl (by decide +kernel) rfl rfl (Nat.le_of_ble_eq_true rfl) dX7_bytes_29 (fun H locs hP hD hS => ?_)
  have hP : va_P D vwCl [(h0, .inr (7, o7 q (upd v0 2 7) w0)), (q 1, .inl (c 0, 800, .inl f_9))] H := hP
  have hD : va_D A [(h0, .inr (7, o7 q (upd v0 2 7) w0)), (q 1, .inl (c 0, 800, .inl f_9))] := hD
  refine lv_iinc (v := 0) (lv' := [(2, .int 0), (0, .ref h0), (1, .int a1)]) hx hb dX7_bytes_32 hl (k := 0) rfl (by decide) (by decide) rfl (fun ls hl => ?_)
  refine lv_goto (tgt := 2) hx hb dX7_bytes_35 (by decide) ?_
  refine lv_iload_n hx hb dX7_bytes_2 rfl (lv_at hl 0 rfl) ?_
  refine iif_ltF (a := 0) (tgt := 38) hx hb (by decide) dX7_bytes_3 (by decide) (by decide) ?_
  refine lv_aload_n hx hb dX7_bytes_6 rfl (lv_at hl 1 rfl) ?_
  refine va_get (D := D) (ci := 7) (v := .ref (q 1)) (C := RX7) (T := TX7) (N := 56) hx hb hts (fun _ h => List.mem_cons_of_mem _ (List.mem_append_right _ h)) hown hK hP 0 rfl rfl 1 (by decide) (hts (.fieldLink RX7 7 "CrownTableModel" "tape" "[B") (mem_i 1 rfl)) (fun _ h9 => h9) rfl dX7_bytes_7 ?_
  refine lv_aload_n hx hb dX7_bytes_10 rfl (lv_at hl 1 rfl) ?_
  refine va_get (D := D) (ci := 7) (v := .int 7) (C := RX7) (T := TX7) (N := 56) hx hb hts (fun _ h => List.mem_cons_of_mem _ (List.mem_append_right _ h)) hown hK hP 0 rfl rfl 2 (by decide) (hts (.fieldLink RX7 125 "CrownTableModel" "taped" "I") (mem_i 2 rfl)) (fun _ h9 => h9) rfl dX7_bytes_11 ?_
  refine lv_iload_n hx hb dX7_bytes_14 rfl (lv_at hl 2 rfl) ?_
  refine lv_bipush (v := 8) hx hb dX7_bytes_15 (by decide) ?_
  refine lv_iload_n hx hb dX7_bytes_17 rfl (lv_at hl 0 rfl) ?_
  refine lv_imul hx hb dX7_bytes_18 ?_
  refine lk_i (y := 0) (by decide) ?_
  refine lv_ishr hx hb dX7_bytes_19 ?_
  refine lv_topi (fun x_10 ex_10 => ?_)
  refine lv_i2b hx hb dX7_bytes_20 rfl ?_
  refine lv_topi (fun x_11 ex_11 => ?_)
  refine va_bast hx hb hK hP hD hS 1 0 rfl rfl (vin (a := 7) (by decide) (by decide) (by decide)) dX7_bytes_21 (fun H locs hP hD hS => ?_)
  obtain ⟨f_12, hP, hD⟩ : ∃ f_12 : Nat → Int32, va_P D vwCl [(h0, .inr (7, o7 q (upd v0 2 7) w0)), (q 1, .inl (c 0, 800, .inl f_12))] H ∧ va_D A [(h0, .inr (7, o7 q (upd v0 2 7) w0)), (q 1, .inl (c 0, 800, .inl f_12))] := ⟨_, hP, hD⟩
  refine lv_aload_n hx hb dX7_bytes_22 rfl (lv_at hl 1 rfl) ?_
  refine lv_dup hx hb dX7_bytes_23 rfl ?_
  refine va_get (D := D) (ci := 7) (v := .int 7) (C := RX7) (T := TX7) (N := 56) hx hb hts (fun _ h => List.mem_cons_of_mem _ (List.mem_append_right _ h)) hown hK hP 0 rfl rfl 2 (by decide) (hts (.fieldLink RX7 125 "CrownTableModel" "taped" "I") (mem_i 2 rfl)) (fun _ h9 => h9) rfl dX7_bytes_24 ?_
  refine lv_iconst (v := 1) hx hb dX7_bytes_27 (by decide) ?_
  refine lv_iadd hx hb dX7_bytes_28 ?_
  refine lk_i (y := 8) (by decide) ?_
  refine va_put (D := D) (ci := 7) (v := .int 8) (ty := .int) (C := RX7) (T := TX7) (N := 56) hx hb hts (fun _ h => List.mem_cons_of_mem _ (List.mem_append_right _ h)) tyX7 tyX7_ok nmX7 hown hK hP hD hS 0 rfl rfl 2 (by decide) (hts (.fieldLink RX7 125 "CrownTableModel" "taped" "I") (mem_i 2 rfl)) (fun _ h9 => h9) rfl (by decide +kernel) rfl rfl (Nat.le_of_ble_eq_true rfl) dX7_bytes_29 (fun H locs hP hD hS => ?_)
  have hP : va_P D vwCl [(h0, .inr (7, o7 q (upd v0 2 8) w0)), (q 1, .inl (c 0, 800, .inl f_12))] H := hP
  have hD : va_D A [(h0, .inr (7, o7 q (upd v0 2 8) w0)), (q 1, .inl (c 0, 800, .inl f_12))] := hD
  refine lv_iinc (v := (-1)) (lv' := [(2, .int (-1)), (0, .ref h0), (1, .int a1)]) hx hb dX7_bytes_32 hl (k := 0) rfl (by decide) (by decide) rfl (fun ls hl => ?_)
  refine lv_goto (tgt := 2) hx hb dX7_bytes_35 (by decide) ?_
  refine lv_iload_n hx hb dX7_bytes_2 rfl (lv_at hl 0 rfl) ?_
  refine iif_ltT (a := (-1)) (tgt := 38) hx hb (by decide) dX7_bytes_3 (by decide) (by decide) ?_
  have hP9 := hP.sub (ws' := [(h0, .inr (7, o7 q (upd v0 2 8) w0)), (q 1, .inl (c 0, 800, .inl f_12))]) [0, 1] rfl
  have hD9 := hD.sub (ws' := [(h0, .inr (7, o7 q (upd v0 2 8) w0)), (q 1, .inl (c 0, 800, .inl f_12))]) [0, 1] (by decide) rfl
  refine W.widen (k := 0) (n := 0) (by omega) (by omega) ?_
  exact W.vret hx hb hr (fun t ht hW => ⟨⟨(fun k => [].getD k 0, fun k => [f_12].getD k (fun _ => 0), fun k => [].getD k (fun _ => 0)), rfl, trivial, ⟨by rw [ht]; exact hP9, hD9⟩⟩, hS.F ht⟩) hS.2.2 dX7_bytes_38

set_option maxHeartbeats 4000000 in
set_option maxRecDepth 100000 in
theorem c_X7_bytes_2 (l : Launch) (D : va_G) (c : Nat → ClassId) (ts : Nat × Nat) (sz : Nat) (q : Nat → Nat) (h0 : Nat) (f0 : Nat → Int32) (a1 : Int32) (i_a1 : Int) (hi_a1 : a1.toInt = i_a1) : Met l yX7_bytes wsX7_bytes ({ frames := 0, cells := 0, slots := 0, locals := 0 }) (va_Pc [.ref h0, .int a1] (Pre0 D c ts [(h0, .inr (7, o7 q (upd v0 2 8) w0)), (q 1, .inl (c 0, 800, .inl f0))] sz)) (va_Qv (fun (u : (Nat → Nat) × (Nat → Nat → Int32) × (Nat → Nat → Int64)) => True) (fun u t => va_P D vwCl [(h0, .inr (7, o7 q (upd v0 2 12) w0)), (q 1, .inl (c 0, 800, .inl (u.2.1 0)))] t.heap ∧ va_D (va_A [(h0, .inr (7, o7 q (upd v0 2 8) w0)), (q 1, .inl (c 0, 800, .inl f0))] sz) [(h0, .inr (7, o7 q (upd v0 2 12) w0)), (q 1, .inl (c 0, 800, .inl (u.2.1 0)))]) (va_A [(h0, .inr (7, o7 q (upd v0 2 8) w0)), (q 1, .inl (c 0, 800, .inl f0))] sz)) 0 0 (va_A [(h0, .inr (7, o7 q (upd v0 2 8) w0)), (q 1, .inl (c 0, 800, .inl f0))] sz) := by
  refine Met.ofW (cc := cX7_bytes) (maxL := 3) (ret := none) (by decide) rfl ?_
  intro p e s m args below meth cd s₁ B hml hv
  obtain ⟨rfl, hsz, hP, hD0, hAm, hSt⟩ := hv
  have hx := B.exec
  have hb := B.bytes
  have hr := B.returns
  have hts := atoms_spec (ws := wsX7_bytes) B.pre
  have hown : s.vm.findClass RX7 = some m.cls := findClass_of_methodNamed B.named
  have hlocks := B.notSynchronized
  subst hsz
  have hK := hAm.1
  have hD := hD0.self (sz := s.heap.size)
  generalize hAe : va_A [(h0, .inr (7, o7 q (upd v0 2 8) w0)), (q 1, .inl (c 0, 800, .inl f0))] s.heap.size = A at hD hSt ⊢
  have hA : ∀ q : Nat, s.heap.size ≤ q → A q := fun q h => by rw [← hAe]; exact Or.inr h
  have hS : va_S A s.heap s.heap [] := va_S.rf
  clear hD0 hAe
  have hl := lv_entry ([.ref h0, .int a1]) (n := 3) (Nat.le_of_ble_eq_true rfl)
  rw [lg_entry_eq]
  generalize (lg_sl ([.ref h0, .int a1]) ++ List.replicate (3 - (lg_sl ([.ref h0, .int a1])).length) Slot.unset).toArray = ls at hl ⊢
  have hl : lv_has ls 3 [(0, .ref h0), (1, .int a1)] := hl
  refine lv_iconst (v := 3) hx hb dX7_bytes_0 (by decide) ?_
  refine lv_istore_n (lv' := [(2, .int 3), (0, .ref h0), (1, .int a1)]) hx hb dX7_bytes_1 rfl hl (by decide) rfl (fun ls hl => ?_)
  refine lv_iload_n hx hb dX7_bytes_2 rfl (lv_at hl 0 rfl) ?_
  refine iif_ltF (a := 3) (tgt := 38) hx hb (by decide) dX7_bytes_3 (by decide) (by decide) ?_
  refine lv_aload_n hx hb dX7_bytes_6 rfl (lv_at hl 1 rfl) ?_
  refine va_get (D := D) (ci := 7) (v := .ref (q 1)) (C := RX7) (T := TX7) (N := 56) hx hb hts (fun _ h => List.mem_cons_of_mem _ (List.mem_append_right _ h)) hown hK hP 0 rfl rfl 1 (by decide) (hts (.fieldLink RX7 7 "CrownTableModel" "tape" "[B") (mem_i 1 rfl)) (fun _ h9 => h9) rfl dX7_bytes_7 ?_
  refine lv_aload_n hx hb dX7_bytes_10 rfl (lv_at hl 1 rfl) ?_
  refine va_get (D := D) (ci := 7) (v := .int 8) (C := RX7) (T := TX7) (N := 56) hx hb hts (fun _ h => List.mem_cons_of_mem _ (List.mem_append_right _ h)) hown hK hP 0 rfl rfl 2 (by decide) (hts (.fieldLink RX7 125 "CrownTableModel" "taped" "I") (mem_i 2 rfl)) (fun _ h9 => h9) rfl dX7_bytes_11 ?_
  refine lv_iload_n hx hb dX7_bytes_14 rfl (lv_at hl 2 rfl) ?_
  refine lv_bipush (v := 8) hx hb dX7_bytes_15 (by decide) ?_
  refine lv_iload_n hx hb dX7_bytes_17 rfl (lv_at hl 0 rfl) ?_
  refine lv_imul hx hb dX7_bytes_18 ?_
  refine lk_i (y := 24) (by decide) ?_
  refine lv_ishr hx hb dX7_bytes_19 ?_
  refine lv_topi (fun x_1 ex_1 => ?_)
  refine lv_i2b hx hb dX7_bytes_20 rfl ?_
  refine lv_topi (fun x_2 ex_2 => ?_)
  refine va_bast hx hb hK hP hD hS 1 0 rfl rfl (vin (a := 8) (by decide) (by decide) (by decide)) dX7_bytes_21 (fun H locs hP hD hS => ?_)
  obtain ⟨f_3, hP, hD⟩ : ∃ f_3 : Nat → Int32, va_P D vwCl [(h0, .inr (7, o7 q (upd v0 2 8) w0)), (q 1, .inl (c 0, 800, .inl f_3))] H ∧ va_D A [(h0, .inr (7, o7 q (upd v0 2 8) w0)), (q 1, .inl (c 0, 800, .inl f_3))] := ⟨_, hP, hD⟩
  refine lv_aload_n hx hb dX7_bytes_22 rfl (lv_at hl 1 rfl) ?_
  refine lv_dup hx hb dX7_bytes_23 rfl ?_
  refine va_get (D := D) (ci := 7) (v := .int 8) (C := RX7) (T := TX7) (N := 56) hx hb hts (fun _ h => List.mem_cons_of_mem _ (List.mem_append_right _ h)) hown hK hP 0 rfl rfl 2 (by decide) (hts (.fieldLink RX7 125 "CrownTableModel" "taped" "I") (mem_i 2 rfl)) (fun _ h9 => h9) rfl dX7_bytes_24 ?_
  refine lv_iconst (v := 1) hx hb dX7_bytes_27 (by decide) ?_
  refine lv_iadd hx hb dX7_bytes_28 ?_
  refine lk_i (y := 9) (by decide) ?_
  refine va_put (D := D) (ci := 7) (v := .int 9) (ty := .int) (C := RX7) (T := TX7) (N := 56) hx hb hts (fun _ h => List.mem_cons_of_mem _ (List.mem_append_right _ h)) tyX7 tyX7_ok nmX7 hown hK hP hD hS 0 rfl rfl 2 (by decide) (hts (.fieldLink RX7 125 "CrownTableModel" "taped" "I") (mem_i 2 rfl)) (fun _ h9 => h9) rfl (by decide +kernel) rfl rfl (Nat.le_of_ble_eq_true rfl) dX7_bytes_29 (fun H locs hP hD hS => ?_)
  have hP : va_P D vwCl [(h0, .inr (7, o7 q (upd v0 2 9) w0)), (q 1, .inl (c 0, 800, .inl f_3))] H := hP
  have hD : va_D A [(h0, .inr (7, o7 q (upd v0 2 9) w0)), (q 1, .inl (c 0, 800, .inl f_3))] := hD
  refine lv_iinc (v := 2) (lv' := [(2, .int 2), (0, .ref h0), (1, .int a1)]) hx hb dX7_bytes_32 hl (k := 0) rfl (by decide) (by decide) rfl (fun ls hl => ?_)
  refine lv_goto (tgt := 2) hx hb dX7_bytes_35 (by decide) ?_
  refine lv_iload_n hx hb dX7_bytes_2 rfl (lv_at hl 0 rfl) ?_
  refine iif_ltF (a := 2) (tgt := 38) hx hb (by decide) dX7_bytes_3 (by decide) (by decide) ?_
  refine lv_aload_n hx hb dX7_bytes_6 rfl (lv_at hl 1 rfl) ?_
  refine va_get (D := D) (ci := 7) (v := .ref (q 1)) (C := RX7) (T := TX7) (N := 56) hx hb hts (fun _ h => List.mem_cons_of_mem _ (List.mem_append_right _ h)) hown hK hP 0 rfl rfl 1 (by decide) (hts (.fieldLink RX7 7 "CrownTableModel" "tape" "[B") (mem_i 1 rfl)) (fun _ h9 => h9) rfl dX7_bytes_7 ?_
  refine lv_aload_n hx hb dX7_bytes_10 rfl (lv_at hl 1 rfl) ?_
  refine va_get (D := D) (ci := 7) (v := .int 9) (C := RX7) (T := TX7) (N := 56) hx hb hts (fun _ h => List.mem_cons_of_mem _ (List.mem_append_right _ h)) hown hK hP 0 rfl rfl 2 (by decide) (hts (.fieldLink RX7 125 "CrownTableModel" "taped" "I") (mem_i 2 rfl)) (fun _ h9 => h9) rfl dX7_bytes_11 ?_
  refine lv_iload_n hx hb dX7_bytes_14 rfl (lv_at hl 2 rfl) ?_
  refine lv_bipush (v := 8) hx hb dX7_bytes_15 (by decide) ?_
  refine lv_iload_n hx hb dX7_bytes_17 rfl (lv_at hl 0 rfl) ?_
  refine lv_imul hx hb dX7_bytes_18 ?_
  refine lk_i (y := 16) (by decide) ?_
  refine lv_ishr hx hb dX7_bytes_19 ?_
  refine lv_topi (fun x_4 ex_4 => ?_)
  refine lv_i2b hx hb dX7_bytes_20 rfl ?_
  refine lv_topi (fun x_5 ex_5 => ?_)
  refine va_bast hx hb hK hP hD hS 1 0 rfl rfl (vin (a := 9) (by decide) (by decide) (by decide)) dX7_bytes_21 (fun H locs hP hD hS => ?_)
  obtain ⟨f_6, hP, hD⟩ : ∃ f_6 : Nat → Int32, va_P D vwCl [(h0, .inr (7, o7 q (upd v0 2 9) w0)), (q 1, .inl (c 0, 800, .inl f_6))] H ∧ va_D A [(h0, .inr (7, o7 q (upd v0 2 9) w0)), (q 1, .inl (c 0, 800, .inl f_6))] := ⟨_, hP, hD⟩
  refine lv_aload_n hx hb dX7_bytes_22 rfl (lv_at hl 1 rfl) ?_
  refine lv_dup hx hb dX7_bytes_23 rfl ?_
  refine va_get (D := D) (ci := 7) (v := .int 9) (C := RX7) (T := TX7) (N := 56) hx hb hts (fun _ h => List.mem_cons_of_mem _ (List.mem_append_right _ h)) hown hK hP 0 rfl rfl 2 (by decide) (hts (.fieldLink RX7 125 "CrownTableModel" "taped" "I") (mem_i 2 rfl)) (fun _ h9 => h9) rfl dX7_bytes_24 ?_
  refine lv_iconst (v := 1) hx hb dX7_bytes_27 (by decide) ?_
  refine lv_iadd hx hb dX7_bytes_28 ?_
  refine lk_i (y := 10) (by decide) ?_
  refine va_put (D := D) (ci := 7) (v := .int 10) (ty := .int) (C := RX7) (T := TX7) (N := 56) hx hb hts (fun _ h => List.mem_cons_of_mem _ (List.mem_append_right _ h)) tyX7 tyX7_ok nmX7 hown hK hP hD hS 0 rfl rfl 2 (by decide) (hts (.fieldLink RX7 125 "CrownTableModel" "taped" "I") (mem_i 2 rfl)) (fun _ h9 => h9) rfl (by decide +kernel) rfl rfl (Nat.le_of_ble_eq_true rfl) dX7_bytes_29 (fun H locs hP hD hS => ?_)
  have hP : va_P D vwCl [(h0, .inr (7, o7 q (upd v0 2 10) w0)), (q 1, .inl (c 0, 800, .inl f_6))] H := hP
  have hD : va_D A [(h0, .inr (7, o7 q (upd v0 2 10) w0)), (q 1, .inl (c 0, 800, .inl f_6))] := hD
  refine lv_iinc (v := 1) (lv' := [(2, .int 1), (0, .ref h0), (1, .int a1)]) hx hb dX7_bytes_32 hl (k := 0) rfl (by decide) (by decide) rfl (fun ls hl => ?_)
  refine lv_goto (tgt := 2) hx hb dX7_bytes_35 (by decide) ?_
  refine lv_iload_n hx hb dX7_bytes_2 rfl (lv_at hl 0 rfl) ?_
  refine iif_ltF (a := 1) (tgt := 38) hx hb (by decide) dX7_bytes_3 (by decide) (by decide) ?_
  refine lv_aload_n hx hb dX7_bytes_6 rfl (lv_at hl 1 rfl) ?_
  refine va_get (D := D) (ci := 7) (v := .ref (q 1)) (C := RX7) (T := TX7) (N := 56) hx hb hts (fun _ h => List.mem_cons_of_mem _ (List.mem_append_right _ h)) hown hK hP 0 rfl rfl 1 (by decide) (hts (.fieldLink RX7 7 "CrownTableModel" "tape" "[B") (mem_i 1 rfl)) (fun _ h9 => h9) rfl dX7_bytes_7 ?_
  refine lv_aload_n hx hb dX7_bytes_10 rfl (lv_at hl 1 rfl) ?_
  refine va_get (D := D) (ci := 7) (v := .int 10) (C := RX7) (T := TX7) (N := 56) hx hb hts (fun _ h => List.mem_cons_of_mem _ (List.mem_append_right _ h)) hown hK hP 0 rfl rfl 2 (by decide) (hts (.fieldLink RX7 125 "CrownTableModel" "taped" "I") (mem_i 2 rfl)) (fun _ h9 => h9) rfl dX7_bytes_11 ?_
  refine lv_iload_n hx hb dX7_bytes_14 rfl (lv_at hl 2 rfl) ?_
  refine lv_bipush (v := 8) hx hb dX7_bytes_15 (by decide) ?_
  refine lv_iload_n hx hb dX7_bytes_17 rfl (lv_at hl 0 rfl) ?_
  refine lv_imul hx hb dX7_bytes_18 ?_
  refine lk_i (y := 8) (by decide) ?_
  refine lv_ishr hx hb dX7_bytes_19 ?_
  refine lv_topi (fun x_7 ex_7 => ?_)
  refine lv_i2b hx hb dX7_bytes_20 rfl ?_
  refine lv_topi (fun x_8 ex_8 => ?_)
  refine va_bast hx hb hK hP hD hS 1 0 rfl rfl (vin (a := 10) (by decide) (by decide) (by decide)) dX7_bytes_21 (fun H locs hP hD hS => ?_)
  obtain ⟨f_9, hP, hD⟩ : ∃ f_9 : Nat → Int32, va_P D vwCl [(h0, .inr (7, o7 q (upd v0 2 10) w0)), (q 1, .inl (c 0, 800, .inl f_9))] H ∧ va_D A [(h0, .inr (7, o7 q (upd v0 2 10) w0)), (q 1, .inl (c 0, 800, .inl f_9))] := ⟨_, hP, hD⟩
  refine lv_aload_n hx hb dX7_bytes_22 rfl (lv_at hl 1 rfl) ?_
  refine lv_dup hx hb dX7_bytes_23 rfl ?_
  refine va_get (D := D) (ci := 7) (v := .int 10) (C := RX7) (T := TX7) (N := 56) hx hb hts (fun _ h => List.mem_cons_of_mem _ (List.mem_append_right _ h)) hown hK hP 0 rfl rfl 2 (by decide) (hts (.fieldLink RX7 125 "CrownTableModel" "taped" "I") (mem_i 2 rfl)) (fun _ h9 => h9) rfl dX7_bytes_24 ?_
  refine lv_iconst (v := 1) hx hb dX7_bytes_27 (by decide) ?_
  refine lv_iadd hx hb dX7_bytes_28 ?_
  refine lk_i (y := 11) (by decide) ?_
  refine va_put (D := D) (ci := 7) (v := .int 11) (ty := .int) (C := RX7) (T := TX7) (N := 56) hx hb hts (fun _ h => List.mem_cons_of_mem _ (List.mem_append_right _ h)) tyX7 tyX7_ok nmX7 hown hK hP hD hS 0 rfl rfl 2 (by decide) (hts (.fieldLink RX7 125 "CrownTableModel" "taped" "I") (mem_i 2 rfl)) (fun _ h9 => h9) rfl (by decide +kernel) rfl rfl (Nat.le_of_ble_eq_true rfl) dX7_bytes_29 (fun H locs hP hD hS => ?_)
  have hP : va_P D vwCl [(h0, .inr (7, o7 q (upd v0 2 11) w0)), (q 1, .inl (c 0, 800, .inl f_9))] H := hP
  have hD : va_D A [(h0, .inr (7, o7 q (upd v0 2 11) w0)), (q 1, .inl (c 0, 800, .inl f_9))] := hD
  refine lv_iinc (v := 0) (lv' := [(2, .int 0), (0, .ref h0), (1, .int a1)]) hx hb dX7_bytes_32 hl (k := 0) rfl (by decide) (by decide) rfl (fun ls hl => ?_)
  refine lv_goto (tgt := 2) hx hb dX7_bytes_35 (by decide) ?_
  refine lv_iload_n hx hb dX7_bytes_2 rfl (lv_at hl 0 rfl) ?_
  refine iif_ltF (a := 0) (tgt := 38) hx hb (by decide) dX7_bytes_3 (by decide) (by decide) ?_
  refine lv_aload_n hx hb dX7_bytes_6 rfl (lv_at hl 1 rfl) ?_
  refine va_get (D := D) (ci := 7) (v := .ref (q 1)) (C := RX7) (T := TX7) (N := 56) hx hb hts (fun _ h => List.mem_cons_of_mem _ (List.mem_append_right _ h)) hown hK hP 0 rfl rfl 1 (by decide) (hts (.fieldLink RX7 7 "CrownTableModel" "tape" "[B") (mem_i 1 rfl)) (fun _ h9 => h9) rfl dX7_bytes_7 ?_
  refine lv_aload_n hx hb dX7_bytes_10 rfl (lv_at hl 1 rfl) ?_
  refine va_get (D := D) (ci := 7) (v := .int 11) (C := RX7) (T := TX7) (N := 56) hx hb hts (fun _ h => List.mem_cons_of_mem _ (List.mem_append_right _ h)) hown hK hP 0 rfl rfl 2 (by decide) (hts (.fieldLink RX7 125 "CrownTableModel" "taped" "I") (mem_i 2 rfl)) (fun _ h9 => h9) rfl dX7_bytes_11 ?_
  refine lv_iload_n hx hb dX7_bytes_14 rfl (lv_at hl 2 rfl) ?_
  refine lv_bipush (v := 8) hx hb dX7_bytes_15 (by decide) ?_
  refine lv_iload_n hx hb dX7_bytes_17 rfl (lv_at hl 0 rfl) ?_
  refine lv_imul hx hb dX7_bytes_18 ?_
  refine lk_i (y := 0) (by decide) ?_
  refine lv_ishr hx hb dX7_bytes_19 ?_
  refine lv_topi (fun x_10 ex_10 => ?_)
  refine lv_i2b hx hb dX7_bytes_20 rfl ?_
  refine lv_topi (fun x_11 ex_11 => ?_)
  refine va_bast hx hb hK hP hD hS 1 0 rfl rfl (vin (a := 11) (by decide) (by decide) (by decide)) dX7_bytes_21 (fun H locs hP hD hS => ?_)
  obtain ⟨f_12, hP, hD⟩ : ∃ f_12 : Nat → Int32, va_P D vwCl [(h0, .inr (7, o7 q (upd v0 2 11) w0)), (q 1, .inl (c 0, 800, .inl f_12))] H ∧ va_D A [(h0, .inr (7, o7 q (upd v0 2 11) w0)), (q 1, .inl (c 0, 800, .inl f_12))] := ⟨_, hP, hD⟩
  refine lv_aload_n hx hb dX7_bytes_22 rfl (lv_at hl 1 rfl) ?_
  refine lv_dup hx hb dX7_bytes_23 rfl ?_
  refine va_get (D := D) (ci := 7) (v := .int 11) (C := RX7) (T := TX7) (N := 56) hx hb hts (fun _ h => List.mem_cons_of_mem _ (List.mem_append_right _ h)) hown hK hP 0 rfl rfl 2 (by decide) (hts (.fieldLink RX7 125 "CrownTableModel" "taped" "I") (mem_i 2 rfl)) (fun _ h9 => h9) rfl dX7_bytes_24 ?_
  refine lv_iconst (v := 1) hx hb dX7_bytes_27 (by decide) ?_
  refine lv_iadd hx hb dX7_bytes_28 ?_
  refine lk_i (y := 12) (by decide) ?_
  refine va_put (D := D) (ci := 7) (v := .int 12) (ty := .int) (C := RX7) (T := TX7) (N := 56) hx hb hts (fun _ h => List.mem_cons_of_mem _ (List.mem_append_right _ h)) tyX7 tyX7_ok nmX7 hown hK hP hD hS 0 rfl rfl 2 (by decide) (hts (.fieldLink RX7 125 "CrownTableModel" "taped" "I") (mem_i 2 rfl)) (fun _ h9 => h9) rfl (by decide +kernel) rfl rfl (Nat.le_of_ble_eq_true rfl) dX7_bytes_29 (fun H locs hP hD hS => ?_)
  have hP : va_P D vwCl [(h0, .inr (7, o7 q (upd v0 2 12) w0)), (q 1, .inl (c 0, 800, .inl f_12))] H := hP
  have hD : va_D A [(h0, .inr (7, o7 q (upd v0 2 12) w0)), (q 1, .inl (c 0, 800, .inl f_12))] := hD
  refine lv_iinc (v := (-1)) (lv' := [(2, .int (-1)), (0, .ref h0), (1, .int a1)]) hx hb dX7_bytes_32 hl (k := 0) rfl (by decide) (by decide) rfl (fun ls hl => ?_)
  refine lv_goto (tgt := 2) hx hb dX7_bytes_35 (by decide) ?_
  refine lv_iload_n hx hb dX7_bytes_2 rfl (lv_at hl 0 rfl) ?_
  refine iif_ltT (a := (-1)) (tgt := 38) hx hb (by decide) dX7_bytes_3 (by decide) (by decide) ?_
  have hP9 := hP.sub (ws' := [(h0, .inr (7, o7 q (upd v0 2 12) w0)), (q 1, .inl (c 0, 800, .inl f_12))]) [0, 1] rfl
  have hD9 := hD.sub (ws' := [(h0, .inr (7, o7 q (upd v0 2 12) w0)), (q 1, .inl (c 0, 800, .inl f_12))]) [0, 1] (by decide) rfl
  refine W.widen (k := 0) (n := 0) (by omega) (by omega) ?_
  exact W.vret hx hb hr (fun t ht hW => ⟨⟨(fun k => [].getD k 0, fun k => [f_12].getD k (fun _ => 0), fun k => [].getD k (fun _ => 0)), rfl, trivial, ⟨by rw [ht]; exact hP9, hD9⟩⟩, hS.F ht⟩) hS.2.2 dX7_bytes_38

set_option maxHeartbeats 4000000 in
set_option maxRecDepth 100000 in
theorem c_X7_bytes_3 (l : Launch) (D : va_G) (c : Nat → ClassId) (ts : Nat × Nat) (sz : Nat) (q : Nat → Nat) (h0 : Nat) (f0 : Nat → Int32) (a1 : Int32) (i_a1 : Int) (hi_a1 : a1.toInt = i_a1) : Met l yX7_bytes wsX7_bytes ({ frames := 0, cells := 0, slots := 0, locals := 0 }) (va_Pc [.ref h0, .int a1] (Pre0 D c ts [(h0, .inr (7, o7 q (upd v0 2 12) w0)), (q 1, .inl (c 0, 800, .inl f0))] sz)) (va_Qv (fun (u : (Nat → Nat) × (Nat → Nat → Int32) × (Nat → Nat → Int64)) => True) (fun u t => va_P D vwCl [(h0, .inr (7, o7 q (upd v0 2 16) w0)), (q 1, .inl (c 0, 800, .inl (u.2.1 0)))] t.heap ∧ va_D (va_A [(h0, .inr (7, o7 q (upd v0 2 12) w0)), (q 1, .inl (c 0, 800, .inl f0))] sz) [(h0, .inr (7, o7 q (upd v0 2 16) w0)), (q 1, .inl (c 0, 800, .inl (u.2.1 0)))]) (va_A [(h0, .inr (7, o7 q (upd v0 2 12) w0)), (q 1, .inl (c 0, 800, .inl f0))] sz)) 0 0 (va_A [(h0, .inr (7, o7 q (upd v0 2 12) w0)), (q 1, .inl (c 0, 800, .inl f0))] sz) := by
  refine Met.ofW (cc := cX7_bytes) (maxL := 3) (ret := none) (by decide) rfl ?_
  intro p e s m args below meth cd s₁ B hml hv
  obtain ⟨rfl, hsz, hP, hD0, hAm, hSt⟩ := hv
  have hx := B.exec
  have hb := B.bytes
  have hr := B.returns
  have hts := atoms_spec (ws := wsX7_bytes) B.pre
  have hown : s.vm.findClass RX7 = some m.cls := findClass_of_methodNamed B.named
  have hlocks := B.notSynchronized
  subst hsz
  have hK := hAm.1
  have hD := hD0.self (sz := s.heap.size)
  generalize hAe : va_A [(h0, .inr (7, o7 q (upd v0 2 12) w0)), (q 1, .inl (c 0, 800, .inl f0))] s.heap.size = A at hD hSt ⊢
  have hA : ∀ q : Nat, s.heap.size ≤ q → A q := fun q h => by rw [← hAe]; exact Or.inr h
  have hS : va_S A s.heap s.heap [] := va_S.rf
  clear hD0 hAe
  have hl := lv_entry ([.ref h0, .int a1]) (n := 3) (Nat.le_of_ble_eq_true rfl)
  rw [lg_entry_eq]
  generalize (lg_sl ([.ref h0, .int a1]) ++ List.replicate (3 - (lg_sl ([.ref h0, .int a1])).length) Slot.unset).toArray = ls at hl ⊢
  have hl : lv_has ls 3 [(0, .ref h0), (1, .int a1)] := hl
  refine lv_iconst (v := 3) hx hb dX7_bytes_0 (by decide) ?_
  refine lv_istore_n (lv' := [(2, .int 3), (0, .ref h0), (1, .int a1)]) hx hb dX7_bytes_1 rfl hl (by decide) rfl (fun ls hl => ?_)
  refine lv_iload_n hx hb dX7_bytes_2 rfl (lv_at hl 0 rfl) ?_
  refine iif_ltF (a := 3) (tgt := 38) hx hb (by decide) dX7_bytes_3 (by decide) (by decide) ?_
  refine lv_aload_n hx hb dX7_bytes_6 rfl (lv_at hl 1 rfl) ?_
  refine va_get (D := D) (ci := 7) (v := .ref (q 1)) (C := RX7) (T := TX7) (N := 56) hx hb hts (fun _ h => List.mem_cons_of_mem _ (List.mem_append_right _ h)) hown hK hP 0 rfl rfl 1 (by decide) (hts (.fieldLink RX7 7 "CrownTableModel" "tape" "[B") (mem_i 1 rfl)) (fun _ h9 => h9) rfl dX7_bytes_7 ?_
  refine lv_aload_n hx hb dX7_bytes_10 rfl (lv_at hl 1 rfl) ?_
  refine va_get (D := D) (ci := 7) (v := .int 12) (C := RX7) (T := TX7) (N := 56) hx hb hts (fun _ h => List.mem_cons_of_mem _ (List.mem_append_right _ h)) hown hK hP 0 rfl rfl 2 (by decide) (hts (.fieldLink RX7 125 "CrownTableModel" "taped" "I") (mem_i 2 rfl)) (fun _ h9 => h9) rfl dX7_bytes_11 ?_
  refine lv_iload_n hx hb dX7_bytes_14 rfl (lv_at hl 2 rfl) ?_
  refine lv_bipush (v := 8) hx hb dX7_bytes_15 (by decide) ?_
  refine lv_iload_n hx hb dX7_bytes_17 rfl (lv_at hl 0 rfl) ?_
  refine lv_imul hx hb dX7_bytes_18 ?_
  refine lk_i (y := 24) (by decide) ?_
  refine lv_ishr hx hb dX7_bytes_19 ?_
  refine lv_topi (fun x_1 ex_1 => ?_)
  refine lv_i2b hx hb dX7_bytes_20 rfl ?_
  refine lv_topi (fun x_2 ex_2 => ?_)
  refine va_bast hx hb hK hP hD hS 1 0 rfl rfl (vin (a := 12) (by decide) (by decide) (by decide)) dX7_bytes_21 (fun H locs hP hD hS => ?_)
  obtain ⟨f_3, hP, hD⟩ : ∃ f_3 : Nat → Int32, va_P D vwCl [(h0, .inr (7, o7 q (upd v0 2 12) w0)), (q 1, .inl (c 0, 800, .inl f_3))] H ∧ va_D A [(h0, .inr (7, o7 q (upd v0 2 12) w0)), (q 1, .inl (c 0, 800, .inl f_3))] := ⟨_, hP, hD⟩
  refine lv_aload_n hx hb dX7_bytes_22 rfl (lv_at hl 1 rfl) ?_
  refine lv_dup hx hb dX7_bytes_23 rfl ?_
  refine va_get (D := D) (ci := 7) (v := .int 12) (C := RX7) (T := TX7) (N := 56) hx hb hts (fun _ h => List.mem_cons_of_mem _ (List.mem_append_right _ h)) hown hK hP 0 rfl rfl 2 (by decide) (hts (.fieldLink RX7 125 "CrownTableModel" "taped" "I") (mem_i 2 rfl)) (fun _ h9 => h9) rfl dX7_bytes_24 ?_
  refine lv_iconst (v := 1) hx hb dX7_bytes_27 (by decide) ?_
  refine lv_iadd hx hb dX7_bytes_28 ?_
  refine lk_i (y := 13) (by decide) ?_
  refine va_put (D := D) (ci := 7) (v := .int 13) (ty := .int) (C := RX7) (T := TX7) (N := 56) hx hb hts (fun _ h => List.mem_cons_of_mem _ (List.mem_append_right _ h)) tyX7 tyX7_ok nmX7 hown hK hP hD hS 0 rfl rfl 2 (by decide) (hts (.fieldLink RX7 125 "CrownTableModel" "taped" "I") (mem_i 2 rfl)) (fun _ h9 => h9) rfl (by decide +kernel) rfl rfl (Nat.le_of_ble_eq_true rfl) dX7_bytes_29 (fun H locs hP hD hS => ?_)
  have hP : va_P D vwCl [(h0, .inr (7, o7 q (upd v0 2 13) w0)), (q 1, .inl (c 0, 800, .inl f_3))] H := hP
  have hD : va_D A [(h0, .inr (7, o7 q (upd v0 2 13) w0)), (q 1, .inl (c 0, 800, .inl f_3))] := hD
  refine lv_iinc (v := 2) (lv' := [(2, .int 2), (0, .ref h0), (1, .int a1)]) hx hb dX7_bytes_32 hl (k := 0) rfl (by decide) (by decide) rfl (fun ls hl => ?_)
  refine lv_goto (tgt := 2) hx hb dX7_bytes_35 (by decide) ?_
  refine lv_iload_n hx hb dX7_bytes_2 rfl (lv_at hl 0 rfl) ?_
  refine iif_ltF (a := 2) (tgt := 38) hx hb (by decide) dX7_bytes_3 (by decide) (by decide) ?_
  refine lv_aload_n hx hb dX7_bytes_6 rfl (lv_at hl 1 rfl) ?_
  refine va_get (D := D) (ci := 7) (v := .ref (q 1)) (C := RX7) (T := TX7) (N := 56) hx hb hts (fun _ h => List.mem_cons_of_mem _ (List.mem_append_right _ h)) hown hK hP 0 rfl rfl 1 (by decide) (hts (.fieldLink RX7 7 "CrownTableModel" "tape" "[B") (mem_i 1 rfl)) (fun _ h9 => h9) rfl dX7_bytes_7 ?_
  refine lv_aload_n hx hb dX7_bytes_10 rfl (lv_at hl 1 rfl) ?_
  refine va_get (D := D) (ci := 7) (v := .int 13) (C := RX7) (T := TX7) (N := 56) hx hb hts (fun _ h => List.mem_cons_of_mem _ (List.mem_append_right _ h)) hown hK hP 0 rfl rfl 2 (by decide) (hts (.fieldLink RX7 125 "CrownTableModel" "taped" "I") (mem_i 2 rfl)) (fun _ h9 => h9) rfl dX7_bytes_11 ?_
  refine lv_iload_n hx hb dX7_bytes_14 rfl (lv_at hl 2 rfl) ?_
  refine lv_bipush (v := 8) hx hb dX7_bytes_15 (by decide) ?_
  refine lv_iload_n hx hb dX7_bytes_17 rfl (lv_at hl 0 rfl) ?_
  refine lv_imul hx hb dX7_bytes_18 ?_
  refine lk_i (y := 16) (by decide) ?_
  refine lv_ishr hx hb dX7_bytes_19 ?_
  refine lv_topi (fun x_4 ex_4 => ?_)
  refine lv_i2b hx hb dX7_bytes_20 rfl ?_
  refine lv_topi (fun x_5 ex_5 => ?_)
  refine va_bast hx hb hK hP hD hS 1 0 rfl rfl (vin (a := 13) (by decide) (by decide) (by decide)) dX7_bytes_21 (fun H locs hP hD hS => ?_)
  obtain ⟨f_6, hP, hD⟩ : ∃ f_6 : Nat → Int32, va_P D vwCl [(h0, .inr (7, o7 q (upd v0 2 13) w0)), (q 1, .inl (c 0, 800, .inl f_6))] H ∧ va_D A [(h0, .inr (7, o7 q (upd v0 2 13) w0)), (q 1, .inl (c 0, 800, .inl f_6))] := ⟨_, hP, hD⟩
  refine lv_aload_n hx hb dX7_bytes_22 rfl (lv_at hl 1 rfl) ?_
  refine lv_dup hx hb dX7_bytes_23 rfl ?_
  refine va_get (D := D) (ci := 7) (v := .int 13) (C := RX7) (T := TX7) (N := 56) hx hb hts (fun _ h => List.mem_cons_of_mem _ (List.mem_append_right _ h)) hown hK hP 0 rfl rfl 2 (by decide) (hts (.fieldLink RX7 125 "CrownTableModel" "taped" "I") (mem_i 2 rfl)) (fun _ h9 => h9) rfl dX7_bytes_24 ?_
  refine lv_iconst (v := 1) hx hb dX7_bytes_27 (by decide) ?_
  refine lv_iadd hx hb dX7_bytes_28 ?_
  refine lk_i (y := 14) (by decide) ?_
  refine va_put (D := D) (ci := 7) (v := .int 14) (ty := .int) (C := RX7) (T := TX7) (N := 56) hx hb hts (fun _ h => List.mem_cons_of_mem _ (List.mem_append_right _ h)) tyX7 tyX7_ok nmX7 hown hK hP hD hS 0 rfl rfl 2 (by decide) (hts (.fieldLink RX7 125 "CrownTableModel" "taped" "I") (mem_i 2 rfl)) (fun _ h9 => h9) rfl (by decide +kernel) rfl rfl (Nat.le_of_ble_eq_true rfl) dX7_bytes_29 (fun H locs hP hD hS => ?_)
  have hP : va_P D vwCl [(h0, .inr (7, o7 q (upd v0 2 14) w0)), (q 1, .inl (c 0, 800, .inl f_6))] H := hP
  have hD : va_D A [(h0, .inr (7, o7 q (upd v0 2 14) w0)), (q 1, .inl (c 0, 800, .inl f_6))] := hD
  refine lv_iinc (v := 1) (lv' := [(2, .int 1), (0, .ref h0), (1, .int a1)]) hx hb dX7_bytes_32 hl (k := 0) rfl (by decide) (by decide) rfl (fun ls hl => ?_)
  refine lv_goto (tgt := 2) hx hb dX7_bytes_35 (by decide) ?_
  refine lv_iload_n hx hb dX7_bytes_2 rfl (lv_at hl 0 rfl) ?_
  refine iif_ltF (a := 1) (tgt := 38) hx hb (by decide) dX7_bytes_3 (by decide) (by decide) ?_
  refine lv_aload_n hx hb dX7_bytes_6 rfl (lv_at hl 1 rfl) ?_
  refine va_get (D := D) (ci := 7) (v := .ref (q 1)) (C := RX7) (T := TX7) (N := 56) hx hb hts (fun _ h => List.mem_cons_of_mem _ (List.mem_append_right _ h)) hown hK hP 0 rfl rfl 1 (by decide) (hts (.fieldLink RX7 7 "CrownTableModel" "tape" "[B") (mem_i 1 rfl)) (fun _ h9 => h9) rfl dX7_bytes_7 ?_
  refine lv_aload_n hx hb dX7_bytes_10 rfl (lv_at hl 1 rfl) ?_
  refine va_get (D := D) (ci := 7) (v := .int 14) (C := RX7) (T := TX7) (N := 56) hx hb hts (fun _ h => List.mem_cons_of_mem _ (List.mem_append_right _ h)) hown hK hP 0 rfl rfl 2 (by decide) (hts (.fieldLink RX7 125 "CrownTableModel" "taped" "I") (mem_i 2 rfl)) (fun _ h9 => h9) rfl dX7_bytes_11 ?_
  refine lv_iload_n hx hb dX7_bytes_14 rfl (lv_at hl 2 rfl) ?_
  refine lv_bipush (v := 8) hx hb dX7_bytes_15 (by decide) ?_
  refine lv_iload_n hx hb dX7_bytes_17 rfl (lv_at hl 0 rfl) ?_
  refine lv_imul hx hb dX7_bytes_18 ?_
  refine lk_i (y := 8) (by decide) ?_
  refine lv_ishr hx hb dX7_bytes_19 ?_
  refine lv_topi (fun x_7 ex_7 => ?_)
  refine lv_i2b hx hb dX7_bytes_20 rfl ?_
  refine lv_topi (fun x_8 ex_8 => ?_)
  refine va_bast hx hb hK hP hD hS 1 0 rfl rfl (vin (a := 14) (by decide) (by decide) (by decide)) dX7_bytes_21 (fun H locs hP hD hS => ?_)
  obtain ⟨f_9, hP, hD⟩ : ∃ f_9 : Nat → Int32, va_P D vwCl [(h0, .inr (7, o7 q (upd v0 2 14) w0)), (q 1, .inl (c 0, 800, .inl f_9))] H ∧ va_D A [(h0, .inr (7, o7 q (upd v0 2 14) w0)), (q 1, .inl (c 0, 800, .inl f_9))] := ⟨_, hP, hD⟩
  refine lv_aload_n hx hb dX7_bytes_22 rfl (lv_at hl 1 rfl) ?_
  refine lv_dup hx hb dX7_bytes_23 rfl ?_
  refine va_get (D := D) (ci := 7) (v := .int 14) (C := RX7) (T := TX7) (N := 56) hx hb hts (fun _ h => List.mem_cons_of_mem _ (List.mem_append_right _ h)) hown hK hP 0 rfl rfl 2 (by decide) (hts (.fieldLink RX7 125 "CrownTableModel" "taped" "I") (mem_i 2 rfl)) (fun _ h9 => h9) rfl dX7_bytes_24 ?_
  refine lv_iconst (v := 1) hx hb dX7_bytes_27 (by decide) ?_
  refine lv_iadd hx hb dX7_bytes_28 ?_
  refine lk_i (y := 15) (by decide) ?_
  refine va_put (D := D) (ci := 7) (v := .int 15) (ty := .int) (C := RX7) (T := TX7) (N := 56) hx hb hts (fun _ h => List.mem_cons_of_mem _ (List.mem_append_right _ h)) tyX7 tyX7_ok nmX7 hown hK hP hD hS 0 rfl rfl 2 (by decide) (hts (.fieldLink RX7 125 "CrownTableModel" "taped" "I") (mem_i 2 rfl)) (fun _ h9 => h9) rfl (by decide +kernel) rfl rfl (Nat.le_of_ble_eq_true rfl) dX7_bytes_29 (fun H locs hP hD hS => ?_)
  have hP : va_P D vwCl [(h0, .inr (7, o7 q (upd v0 2 15) w0)), (q 1, .inl (c 0, 800, .inl f_9))] H := hP
  have hD : va_D A [(h0, .inr (7, o7 q (upd v0 2 15) w0)), (q 1, .inl (c 0, 800, .inl f_9))] := hD
  refine lv_iinc (v := 0) (lv' := [(2, .int 0), (0, .ref h0), (1, .int a1)]) hx hb dX7_bytes_32 hl (k := 0) rfl (by decide) (by decide) rfl (fun ls hl => ?_)
  refine lv_goto (tgt := 2) hx hb dX7_bytes_35 (by decide) ?_
  refine lv_iload_n hx hb dX7_bytes_2 rfl (lv_at hl 0 rfl) ?_
  refine iif_ltF (a := 0) (tgt := 38) hx hb (by decide) dX7_bytes_3 (by decide) (by decide) ?_
  refine lv_aload_n hx hb dX7_bytes_6 rfl (lv_at hl 1 rfl) ?_
  refine va_get (D := D) (ci := 7) (v := .ref (q 1)) (C := RX7) (T := TX7) (N := 56) hx hb hts (fun _ h => List.mem_cons_of_mem _ (List.mem_append_right _ h)) hown hK hP 0 rfl rfl 1 (by decide) (hts (.fieldLink RX7 7 "CrownTableModel" "tape" "[B") (mem_i 1 rfl)) (fun _ h9 => h9) rfl dX7_bytes_7 ?_
  refine lv_aload_n hx hb dX7_bytes_10 rfl (lv_at hl 1 rfl) ?_
  refine va_get (D := D) (ci := 7) (v := .int 15) (C := RX7) (T := TX7) (N := 56) hx hb hts (fun _ h => List.mem_cons_of_mem _ (List.mem_append_right _ h)) hown hK hP 0 rfl rfl 2 (by decide) (hts (.fieldLink RX7 125 "CrownTableModel" "taped" "I") (mem_i 2 rfl)) (fun _ h9 => h9) rfl dX7_bytes_11 ?_
  refine lv_iload_n hx hb dX7_bytes_14 rfl (lv_at hl 2 rfl) ?_
  refine lv_bipush (v := 8) hx hb dX7_bytes_15 (by decide) ?_
  refine lv_iload_n hx hb dX7_bytes_17 rfl (lv_at hl 0 rfl) ?_
  refine lv_imul hx hb dX7_bytes_18 ?_
  refine lk_i (y := 0) (by decide) ?_
  refine lv_ishr hx hb dX7_bytes_19 ?_
  refine lv_topi (fun x_10 ex_10 => ?_)
  refine lv_i2b hx hb dX7_bytes_20 rfl ?_
  refine lv_topi (fun x_11 ex_11 => ?_)
  refine va_bast hx hb hK hP hD hS 1 0 rfl rfl (vin (a := 15) (by decide) (by decide) (by decide)) dX7_bytes_21 (fun H locs hP hD hS => ?_)
  obtain ⟨f_12, hP, hD⟩ : ∃ f_12 : Nat → Int32, va_P D vwCl [(h0, .inr (7, o7 q (upd v0 2 15) w0)), (q 1, .inl (c 0, 800, .inl f_12))] H ∧ va_D A [(h0, .inr (7, o7 q (upd v0 2 15) w0)), (q 1, .inl (c 0, 800, .inl f_12))] := ⟨_, hP, hD⟩
  refine lv_aload_n hx hb dX7_bytes_22 rfl (lv_at hl 1 rfl) ?_
  refine lv_dup hx hb dX7_bytes_23 rfl ?_
  refine va_get (D := D) (ci := 7) (v := .int 15) (C := RX7) (T := TX7) (N := 56) hx hb hts (fun _ h => List.mem_cons_of_mem _ (List.mem_append_right _ h)) hown hK hP 0 rfl rfl 2 (by decide) (hts (.fieldLink RX7 125 "CrownTableModel" "taped" "I") (mem_i 2 rfl)) (fun _ h9 => h9) rfl dX7_bytes_24 ?_
  refine lv_iconst (v := 1) hx hb dX7_bytes_27 (by decide) ?_
  refine lv_iadd hx hb dX7_bytes_28 ?_
  refine lk_i (y := 16) (by decide) ?_
  refine va_put (D := D) (ci := 7) (v := .int 16) (ty := .int) (C := RX7) (T := TX7) (N := 56) hx hb hts (fun _ h => List.mem_cons_of_mem _ (List.mem_append_right _ h)) tyX7 tyX7_ok nmX7 hown hK hP hD hS 0 rfl rfl 2 (by decide) (hts (.fieldLink RX7 125 "CrownTableModel" "taped" "I") (mem_i 2 rfl)) (fun _ h9 => h9) rfl (by decide +kernel) rfl rfl (Nat.le_of_ble_eq_true rfl) dX7_bytes_29 (fun H locs hP hD hS => ?_)
  have hP : va_P D vwCl [(h0, .inr (7, o7 q (upd v0 2 16) w0)), (q 1, .inl (c 0, 800, .inl f_12))] H := hP
  have hD : va_D A [(h0, .inr (7, o7 q (upd v0 2 16) w0)), (q 1, .inl (c 0, 800, .inl f_12))] := hD
  refine lv_iinc (v := (-1)) (lv' := [(2, .int (-1)), (0, .ref h0), (1, .int a1)]) hx hb dX7_bytes_32 hl (k := 0) rfl (by decide) (by decide) rfl (fun ls hl => ?_)
  refine lv_goto (tgt := 2) hx hb dX7_bytes_35 (by decide) ?_
  refine lv_iload_n hx hb dX7_bytes_2 rfl (lv_at hl 0 rfl) ?_
  refine iif_ltT (a := (-1)) (tgt := 38) hx hb (by decide) dX7_bytes_3 (by decide) (by decide) ?_
  have hP9 := hP.sub (ws' := [(h0, .inr (7, o7 q (upd v0 2 16) w0)), (q 1, .inl (c 0, 800, .inl f_12))]) [0, 1] rfl
  have hD9 := hD.sub (ws' := [(h0, .inr (7, o7 q (upd v0 2 16) w0)), (q 1, .inl (c 0, 800, .inl f_12))]) [0, 1] (by decide) rfl
  refine W.widen (k := 0) (n := 0) (by omega) (by omega) ?_
  exact W.vret hx hb hr (fun t ht hW => ⟨⟨(fun k => [].getD k 0, fun k => [f_12].getD k (fun _ => 0), fun k => [].getD k (fun _ => 0)), rfl, trivial, ⟨by rw [ht]; exact hP9, hD9⟩⟩, hS.F ht⟩) hS.2.2 dX7_bytes_38

set_option maxHeartbeats 4000000 in
set_option maxRecDepth 100000 in
theorem c_X7_bytes_4 (l : Launch) (D : va_G) (c : Nat → ClassId) (ts : Nat × Nat) (sz : Nat) (q : Nat → Nat) (h0 : Nat) (f0 : Nat → Int32) (a1 : Int32) (i_a1 : Int) (hi_a1 : a1.toInt = i_a1) : Met l yX7_bytes wsX7_bytes ({ frames := 0, cells := 0, slots := 0, locals := 0 }) (va_Pc [.ref h0, .int a1] (Pre0 D c ts [(h0, .inr (7, o7 q (upd v0 2 16) w0)), (q 1, .inl (c 0, 800, .inl f0))] sz)) (va_Qv (fun (u : (Nat → Nat) × (Nat → Nat → Int32) × (Nat → Nat → Int64)) => True) (fun u t => va_P D vwCl [(h0, .inr (7, o7 q (upd v0 2 20) w0)), (q 1, .inl (c 0, 800, .inl (u.2.1 0)))] t.heap ∧ va_D (va_A [(h0, .inr (7, o7 q (upd v0 2 16) w0)), (q 1, .inl (c 0, 800, .inl f0))] sz) [(h0, .inr (7, o7 q (upd v0 2 20) w0)), (q 1, .inl (c 0, 800, .inl (u.2.1 0)))]) (va_A [(h0, .inr (7, o7 q (upd v0 2 16) w0)), (q 1, .inl (c 0, 800, .inl f0))] sz)) 0 0 (va_A [(h0, .inr (7, o7 q (upd v0 2 16) w0)), (q 1, .inl (c 0, 800, .inl f0))] sz) := by
  refine Met.ofW (cc := cX7_bytes) (maxL := 3) (ret := none) (by decide) rfl ?_
  intro p e s m args below meth cd s₁ B hml hv
  obtain ⟨rfl, hsz, hP, hD0, hAm, hSt⟩ := hv
  have hx := B.exec
  have hb := B.bytes
  have hr := B.returns
  have hts := atoms_spec (ws := wsX7_bytes) B.pre
  have hown : s.vm.findClass RX7 = some m.cls := findClass_of_methodNamed B.named
  have hlocks := B.notSynchronized
  subst hsz
  have hK := hAm.1
  have hD := hD0.self (sz := s.heap.size)
  generalize hAe : va_A [(h0, .inr (7, o7 q (upd v0 2 16) w0)), (q 1, .inl (c 0, 800, .inl f0))] s.heap.size = A at hD hSt ⊢
  have hA : ∀ q : Nat, s.heap.size ≤ q → A q := fun q h => by rw [← hAe]; exact Or.inr h
  have hS : va_S A s.heap s.heap [] := va_S.rf
  clear hD0 hAe
  have hl := lv_entry ([.ref h0, .int a1]) (n := 3) (Nat.le_of_ble_eq_true rfl)
  rw [lg_entry_eq]
  generalize (lg_sl ([.ref h0, .int a1]) ++ List.replicate (3 - (lg_sl ([.ref h0, .int a1])).length) Slot.unset).toArray = ls at hl ⊢
  have hl : lv_has ls 3 [(0, .ref h0), (1, .int a1)] := hl
  refine lv_iconst (v := 3) hx hb dX7_bytes_0 (by decide) ?_
  refine lv_istore_n (lv' := [(2, .int 3), (0, .ref h0), (1, .int a1)]) hx hb dX7_bytes_1 rfl hl (by decide) rfl (fun ls hl => ?_)
  refine lv_iload_n hx hb dX7_bytes_2 rfl (lv_at hl 0 rfl) ?_
  refine iif_ltF (a := 3) (tgt := 38) hx hb (by decide) dX7_bytes_3 (by decide) (by decide) ?_
  refine lv_aload_n hx hb dX7_bytes_6 rfl (lv_at hl 1 rfl) ?_
  refine va_get (D := D) (ci := 7) (v := .ref (q 1)) (C := RX7) (T := TX7) (N := 56) hx hb hts (fun _ h => List.mem_cons_of_mem _ (List.mem_append_right _ h)) hown hK hP 0 rfl rfl 1 (by decide) (hts (.fieldLink RX7 7 "CrownTableModel" "tape" "[B") (mem_i 1 rfl)) (fun _ h9 => h9) rfl dX7_bytes_7 ?_
  refine lv_aload_n hx hb dX7_bytes_10 rfl (lv_at hl 1 rfl) ?_
  refine va_get (D := D) (ci := 7) (v := .int 16) (C := RX7) (T := TX7) (N := 56) hx hb hts (fun _ h => List.mem_cons_of_mem _ (List.mem_append_right _ h)) hown hK hP 0 rfl rfl 2 (by decide) (hts (.fieldLink RX7 125 "CrownTableModel" "taped" "I") (mem_i 2 rfl)) (fun _ h9 => h9) rfl dX7_bytes_11 ?_
  refine lv_iload_n hx hb dX7_bytes_14 rfl (lv_at hl 2 rfl) ?_
  refine lv_bipush (v := 8) hx hb dX7_bytes_15 (by decide) ?_
  refine lv_iload_n hx hb dX7_bytes_17 rfl (lv_at hl 0 rfl) ?_
  refine lv_imul hx hb dX7_bytes_18 ?_
  refine lk_i (y := 24) (by decide) ?_
  refine lv_ishr hx hb dX7_bytes_19 ?_
  refine lv_topi (fun x_1 ex_1 => ?_)
  refine lv_i2b hx hb dX7_bytes_20 rfl ?_
  refine lv_topi (fun x_2 ex_2 => ?_)
  refine va_bast hx hb hK hP hD hS 1 0 rfl rfl (vin (a := 16) (by decide) (by decide) (by decide)) dX7_bytes_21 (fun H locs hP hD hS => ?_)
  obtain ⟨f_3, hP, hD⟩ : ∃ f_3 : Nat → Int32, va_P D vwCl [(h0, .inr (7, o7 q (upd v0 2 16) w0)), (q 1, .inl (c 0, 800, .inl f_3))] H ∧ va_D A [(h0, .inr (7, o7 q (upd v0 2 16) w0)), (q 1, .inl (c 0, 800, .inl f_3))] := ⟨_, hP, hD⟩
  refine lv_aload_n hx hb dX7_bytes_22 rfl (lv_at hl 1 rfl) ?_
  refine lv_dup hx hb dX7_bytes_23 rfl ?_
  refine va_get (D := D) (ci := 7) (v := .int 16) (C := RX7) (T := TX7) (N := 56) hx hb hts (fun _ h => List.mem_cons_of_mem _ (List.mem_append_right _ h)) hown hK hP 0 rfl rfl 2 (by decide) (hts (.fieldLink RX7 125 "CrownTableModel" "taped" "I") (mem_i 2 rfl)) (fun _ h9 => h9) rfl dX7_bytes_24 ?_
  refine lv_iconst (v := 1) hx hb dX7_bytes_27 (by decide) ?_
  refine lv_iadd hx hb dX7_bytes_28 ?_
  refine lk_i (y := 17) (by decide) ?_
  refine va_put (D := D) (ci := 7) (v := .int 17) (ty := .int) (C := RX7) (T := TX7) (N := 56) hx hb hts (fun _ h => List.mem_cons_of_mem _ (List.mem_append_right _ h)) tyX7 tyX7_ok nmX7 hown hK hP hD hS 0 rfl rfl 2 (by decide) (hts (.fieldLink RX7 125 "CrownTableModel" "taped" "I") (mem_i 2 rfl)) (fun _ h9 => h9) rfl (by decide +kernel) rfl rfl (Nat.le_of_ble_eq_true rfl) dX7_bytes_29 (fun H locs hP hD hS => ?_)
  have hP : va_P D vwCl [(h0, .inr (7, o7 q (upd v0 2 17) w0)), (q 1, .inl (c 0, 800, .inl f_3))] H := hP
  have hD : va_D A [(h0, .inr (7, o7 q (upd v0 2 17) w0)), (q 1, .inl (c 0, 800, .inl f_3))] := hD
  refine lv_iinc (v := 2) (lv' := [(2, .int 2), (0, .ref h0), (1, .int a1)]) hx hb dX7_bytes_32 hl (k := 0) rfl (by decide) (by decide) rfl (fun ls hl => ?_)
  refine lv_goto (tgt := 2) hx hb dX7_bytes_35 (by decide) ?_
  refine lv_iload_n hx hb dX7_bytes_2 rfl (lv_at hl 0 rfl) ?_
  refine iif_ltF (a := 2) (tgt := 38) hx hb (by decide) dX7_bytes_3 (by decide) (by decide) ?_
  refine lv_aload_n hx hb dX7_bytes_6 rfl (lv_at hl 1 rfl) ?_
  refine va_get (D := D) (ci := 7) (v := .ref (q 1)) (C := RX7) (T := TX7) (N := 56) hx hb hts (fun _ h => List.mem_cons_of_mem _ (List.mem_append_right _ h)) hown hK hP 0 rfl rfl 1 (by decide) (hts (.fieldLink RX7 7 "CrownTableModel" "tape" "[B") (mem_i 1 rfl)) (fun _ h9 => h9) rfl dX7_bytes_7 ?_
  refine lv_aload_n hx hb dX7_bytes_10 rfl (lv_at hl 1 rfl) ?_
  refine va_get (D := D) (ci := 7) (v := .int 17) (C := RX7) (T := TX7) (N := 56) hx hb hts (fun _ h => List.mem_cons_of_mem _ (List.mem_append_right _ h)) hown hK hP 0 rfl rfl 2 (by decide) (hts (.fieldLink RX7 125 "CrownTableModel" "taped" "I") (mem_i 2 rfl)) (fun _ h9 => h9) rfl dX7_bytes_11 ?_
  refine lv_iload_n hx hb dX7_bytes_14 rfl (lv_at hl 2 rfl) ?_
  refine lv_bipush (v := 8) hx hb dX7_bytes_15 (by decide) ?_
  refine lv_iload_n hx hb dX7_bytes_17 rfl (lv_at hl 0 rfl) ?_
  refine lv_imul hx hb dX7_bytes_18 ?_
  refine lk_i (y := 16) (by decide) ?_
  refine lv_ishr hx hb dX7_bytes_19 ?_
  refine lv_topi (fun x_4 ex_4 => ?_)
  refine lv_i2b hx hb dX7_bytes_20 rfl ?_
  refine lv_topi (fun x_5 ex_5 => ?_)
  refine va_bast hx hb hK hP hD hS 1 0 rfl rfl (vin (a := 17) (by decide) (by decide) (by decide)) dX7_bytes_21 (fun H locs hP hD hS => ?_)
  obtain ⟨f_6, hP, hD⟩ : ∃ f_6 : Nat → Int32, va_P D vwCl [(h0, .inr (7, o7 q (upd v0 2 17) w0)), (q 1, .inl (c 0, 800, .inl f_6))] H ∧ va_D A [(h0, .inr (7, o7 q (upd v0 2 17) w0)), (q 1, .inl (c 0, 800, .inl f_6))] := ⟨_, hP, hD⟩
  refine lv_aload_n hx hb dX7_bytes_22 rfl (lv_at hl 1 rfl) ?_
  refine lv_dup hx hb dX7_bytes_23 rfl ?_
  refine va_get (D := D) (ci := 7) (v := .int 17) (C := RX7) (T := TX7) (N := 56) hx hb hts (fun _ h => List.mem_cons_of_mem _ (List.mem_append_right _ h)) hown hK hP 0 rfl rfl 2 (by decide) (hts (.fieldLink RX7 125 "CrownTableModel" "taped" "I") (mem_i 2 rfl)) (fun _ h9 => h9) rfl dX7_bytes_24 ?_
  refine lv_iconst (v := 1) hx hb dX7_bytes_27 (by decide) ?_
  refine lv_iadd hx hb dX7_bytes_28 ?_
  refine lk_i (y := 18) (by decide) ?_
  refine va_put (D := D) (ci := 7) (v := .int 18) (ty := .int) (C := RX7) (T := TX7) (N := 56) hx hb hts (fun _ h => List.mem_cons_of_mem _ (List.mem_append_right _ h)) tyX7 tyX7_ok nmX7 hown hK hP hD hS 0 rfl rfl 2 (by decide) (hts (.fieldLink RX7 125 "CrownTableModel" "taped" "I") (mem_i 2 rfl)) (fun _ h9 => h9) rfl (by decide +kernel) rfl rfl (Nat.le_of_ble_eq_true rfl) dX7_bytes_29 (fun H locs hP hD hS => ?_)
  have hP : va_P D vwCl [(h0, .inr (7, o7 q (upd v0 2 18) w0)), (q 1, .inl (c 0, 800, .inl f_6))] H := hP
  have hD : va_D A [(h0, .inr (7, o7 q (upd v0 2 18) w0)), (q 1, .inl (c 0, 800, .inl f_6))] := hD
  refine lv_iinc (v := 1) (lv' := [(2, .int 1), (0, .ref h0), (1, .int a1)]) hx hb dX7_bytes_32 hl (k := 0) rfl (by decide) (by decide) rfl (fun ls hl => ?_)
  refine lv_goto (tgt := 2) hx hb dX7_bytes_35 (by decide) ?_
  refine lv_iload_n hx hb dX7_bytes_2 rfl (lv_at hl 0 rfl) ?_
  refine iif_ltF (a := 1) (tgt := 38) hx hb (by decide) dX7_bytes_3 (by decide) (by decide) ?_
  refine lv_aload_n hx hb dX7_bytes_6 rfl (lv_at hl 1 rfl) ?_
  refine va_get (D := D) (ci := 7) (v := .ref (q 1)) (C := RX7) (T := TX7) (N := 56) hx hb hts (fun _ h => List.mem_cons_of_mem _ (List.mem_append_right _ h)) hown hK hP 0 rfl rfl 1 (by decide) (hts (.fieldLink RX7 7 "CrownTableModel" "tape" "[B") (mem_i 1 rfl)) (fun _ h9 => h9) rfl dX7_bytes_7 ?_
  refine lv_aload_n hx hb dX7_bytes_10 rfl (lv_at hl 1 rfl) ?_
  refine va_get (D := D) (ci := 7) (v := .int 18) (C := RX7) (T := TX7) (N := 56) hx hb hts (fun _ h => List.mem_cons_of_mem _ (List.mem_append_right _ h)) hown hK hP 0 rfl rfl 2 (by decide) (hts (.fieldLink RX7 125 "CrownTableModel" "taped" "I") (mem_i 2 rfl)) (fun _ h9 => h9) rfl dX7_bytes_11 ?_
  refine lv_iload_n hx hb dX7_bytes_14 rfl (lv_at hl 2 rfl) ?_
  refine lv_bipush (v := 8) hx hb dX7_bytes_15 (by decide) ?_
  refine lv_iload_n hx hb dX7_bytes_17 rfl (lv_at hl 0 rfl) ?_
  refine lv_imul hx hb dX7_bytes_18 ?_
  refine lk_i (y := 8) (by decide) ?_
  refine lv_ishr hx hb dX7_bytes_19 ?_
  refine lv_topi (fun x_7 ex_7 => ?_)
  refine lv_i2b hx hb dX7_bytes_20 rfl ?_
  refine lv_topi (fun x_8 ex_8 => ?_)
  refine va_bast hx hb hK hP hD hS 1 0 rfl rfl (vin (a := 18) (by decide) (by decide) (by decide)) dX7_bytes_21 (fun H locs hP hD hS => ?_)
  obtain ⟨f_9, hP, hD⟩ : ∃ f_9 : Nat → Int32, va_P D vwCl [(h0, .inr (7, o7 q (upd v0 2 18) w0)), (q 1, .inl (c 0, 800, .inl f_9))] H ∧ va_D A [(h0, .inr (7, o7 q (upd v0 2 18) w0)), (q 1, .inl (c 0, 800, .inl f_9))] := ⟨_, hP, hD⟩
  refine lv_aload_n hx hb dX7_bytes_22 rfl (lv_at hl 1 rfl) ?_
  refine lv_dup hx hb dX7_bytes_23 rfl ?_
  refine va_get (D := D) (ci := 7) (v := .int 18) (C := RX7) (T := TX7) (N := 56) hx hb hts (fun _ h => List.mem_cons_of_mem _ (List.mem_append_right _ h)) hown hK hP 0 rfl rfl 2 (by decide) (hts (.fieldLink RX7 125 "CrownTableModel" "taped" "I") (mem_i 2 rfl)) (fun _ h9 => h9) rfl dX7_bytes_24 ?_
  refine lv_iconst (v := 1) hx hb dX7_bytes_27 (by decide) ?_
  refine lv_iadd hx hb dX7_bytes_28 ?_
  refine lk_i (y := 19) (by decide) ?_
  refine va_put (D := D) (ci := 7) (v := .int 19) (ty := .int) (C := RX7) (T := TX7) (N := 56) hx hb hts (fun _ h => List.mem_cons_of_mem _ (List.mem_append_right _ h)) tyX7 tyX7_ok nmX7 hown hK hP hD hS 0 rfl rfl 2 (by decide) (hts (.fieldLink RX7 125 "CrownTableModel" "taped" "I") (mem_i 2 rfl)) (fun _ h9 => h9) rfl (by decide +kernel) rfl rfl (Nat.le_of_ble_eq_true rfl) dX7_bytes_29 (fun H locs hP hD hS => ?_)
  have hP : va_P D vwCl [(h0, .inr (7, o7 q (upd v0 2 19) w0)), (q 1, .inl (c 0, 800, .inl f_9))] H := hP
  have hD : va_D A [(h0, .inr (7, o7 q (upd v0 2 19) w0)), (q 1, .inl (c 0, 800, .inl f_9))] := hD
  refine lv_iinc (v := 0) (lv' := [(2, .int 0), (0, .ref h0), (1, .int a1)]) hx hb dX7_bytes_32 hl (k := 0) rfl (by decide) (by decide) rfl (fun ls hl => ?_)
  refine lv_goto (tgt := 2) hx hb dX7_bytes_35 (by decide) ?_
  refine lv_iload_n hx hb dX7_bytes_2 rfl (lv_at hl 0 rfl) ?_
  refine iif_ltF (a := 0) (tgt := 38) hx hb (by decide) dX7_bytes_3 (by decide) (by decide) ?_
  refine lv_aload_n hx hb dX7_bytes_6 rfl (lv_at hl 1 rfl) ?_
  refine va_get (D := D) (ci := 7) (v := .ref (q 1)) (C := RX7) (T := TX7) (N := 56) hx hb hts (fun _ h => List.mem_cons_of_mem _ (List.mem_append_right _ h)) hown hK hP 0 rfl rfl 1 (by decide) (hts (.fieldLink RX7 7 "CrownTableModel" "tape" "[B") (mem_i 1 rfl)) (fun _ h9 => h9) rfl dX7_bytes_7 ?_
  refine lv_aload_n hx hb dX7_bytes_10 rfl (lv_at hl 1 rfl) ?_
  refine va_get (D := D) (ci := 7) (v := .int 19) (C := RX7) (T := TX7) (N := 56) hx hb hts (fun _ h => List.mem_cons_of_mem _ (List.mem_append_right _ h)) hown hK hP 0 rfl rfl 2 (by decide) (hts (.fieldLink RX7 125 "CrownTableModel" "taped" "I") (mem_i 2 rfl)) (fun _ h9 => h9) rfl dX7_bytes_11 ?_
  refine lv_iload_n hx hb dX7_bytes_14 rfl (lv_at hl 2 rfl) ?_
  refine lv_bipush (v := 8) hx hb dX7_bytes_15 (by decide) ?_
  refine lv_iload_n hx hb dX7_bytes_17 rfl (lv_at hl 0 rfl) ?_
  refine lv_imul hx hb dX7_bytes_18 ?_
  refine lk_i (y := 0) (by decide) ?_
  refine lv_ishr hx hb dX7_bytes_19 ?_
  refine lv_topi (fun x_10 ex_10 => ?_)
  refine lv_i2b hx hb dX7_bytes_20 rfl ?_
  refine lv_topi (fun x_11 ex_11 => ?_)
  refine va_bast hx hb hK hP hD hS 1 0 rfl rfl (vin (a := 19) (by decide) (by decide) (by decide)) dX7_bytes_21 (fun H locs hP hD hS => ?_)
  obtain ⟨f_12, hP, hD⟩ : ∃ f_12 : Nat → Int32, va_P D vwCl [(h0, .inr (7, o7 q (upd v0 2 19) w0)), (q 1, .inl (c 0, 800, .inl f_12))] H ∧ va_D A [(h0, .inr (7, o7 q (upd v0 2 19) w0)), (q 1, .inl (c 0, 800, .inl f_12))] := ⟨_, hP, hD⟩
  refine lv_aload_n hx hb dX7_bytes_22 rfl (lv_at hl 1 rfl) ?_
  refine lv_dup hx hb dX7_bytes_23 rfl ?_
  refine va_get (D := D) (ci := 7) (v := .int 19) (C := RX7) (T := TX7) (N := 56) hx hb hts (fun _ h => List.mem_cons_of_mem _ (List.mem_append_right _ h)) hown hK hP 0 rfl rfl 2 (by decide) (hts (.fieldLink RX7 125 "CrownTableModel" "taped" "I") (mem_i 2 rfl)) (fun _ h9 => h9) rfl dX7_bytes_24 ?_
  refine lv_iconst (v := 1) hx hb dX7_bytes_27 (by decide) ?_
  refine lv_iadd hx hb dX7_bytes_28 ?_
  refine lk_i (y := 20) (by decide) ?_
  refine va_put (D := D) (ci := 7) (v := .int 20) (ty := .int) (C := RX7) (T := TX7) (N := 56) hx hb hts (fun _ h => List.mem_cons_of_mem _ (List.mem_append_right _ h)) tyX7 tyX7_ok nmX7 hown hK hP hD hS 0 rfl rfl 2 (by decide) (hts (.fieldLink RX7 125 "CrownTableModel" "taped" "I") (mem_i 2 rfl)) (fun _ h9 => h9) rfl (by decide +kernel) rfl rfl (Nat.le_of_ble_eq_true rfl) dX7_bytes_29 (fun H locs hP hD hS => ?_)
  have hP : va_P D vwCl [(h0, .inr (7, o7 q (upd v0 2 20) w0)), (q 1, .inl (c 0, 800, .inl f_12))] H := hP
  have hD : va_D A [(h0, .inr (7, o7 q (upd v0 2 20) w0)), (q 1, .inl (c 0, 800, .inl f_12))] := hD
  refine lv_iinc (v := (-1)) (lv' := [(2, .int (-1)), (0, .ref h0), (1, .int a1)]) hx hb dX7_bytes_32 hl (k := 0) rfl (by decide) (by decide) rfl (fun ls hl => ?_)
  refine lv_goto (tgt := 2) hx hb dX7_bytes_35 (by decide) ?_
  refine lv_iload_n hx hb dX7_bytes_2 rfl (lv_at hl 0 rfl) ?_
  refine iif_ltT (a := (-1)) (tgt := 38) hx hb (by decide) dX7_bytes_3 (by decide) (by decide) ?_
  have hP9 := hP.sub (ws' := [(h0, .inr (7, o7 q (upd v0 2 20) w0)), (q 1, .inl (c 0, 800, .inl f_12))]) [0, 1] rfl
  have hD9 := hD.sub (ws' := [(h0, .inr (7, o7 q (upd v0 2 20) w0)), (q 1, .inl (c 0, 800, .inl f_12))]) [0, 1] (by decide) rfl
  refine W.widen (k := 0) (n := 0) (by omega) (by omega) ?_
  exact W.vret hx hb hr (fun t ht hW => ⟨⟨(fun k => [].getD k 0, fun k => [f_12].getD k (fun _ => 0), fun k => [].getD k (fun _ => 0)), rfl, trivial, ⟨by rw [ht]; exact hP9, hD9⟩⟩, hS.F ht⟩) hS.2.2 dX7_bytes_38

set_option maxHeartbeats 4000000 in
set_option maxRecDepth 100000 in
theorem c_X7_feed (l : Launch) (D : va_G) (c : Nat → ClassId) (ts : Nat × Nat) (sz : Nat) (q : Nat → Nat) (h0 : Nat) (a1 : Int32) (i_a1 : Int) (hi_a1 : a1.toInt = i_a1) (a2 : Int32) (i_a2 : Int) (hi_a2 : a2.toInt = i_a2) (a3 : Int32) (i_a3 : Int) (hi_a3 : a3.toInt = i_a3) (a4 : Int32) (i_a4 : Int) (hi_a4 : a4.toInt = i_a4) (a5 : Int32) (i_a5 : Int) (hi_a5 : a5.toInt = i_a5) : Met l yX7_feed wsX7_feed ({ frames := 1, cells := 0, slots := 0, locals := 22 }) (va_Pc [.ref h0, .int a1, .int a2, .int a3, .int a4, .int a5] (Pre0 D c ts [(h0, .inr (7, o7 q v0 w0)), (q 1, .inl (c 0, 800, .inl (fun _ => 0)))] sz)) (va_Qi (fun (r : Int32) (u : Unit) => r = 20) (fun _ _ => True) (va_A [(h0, .inr (7, o7 q v0 w0)), (q 1, .inl (c 0, 800, .inl (fun _ => 0)))] sz)) 0 0 (va_A [(h0, .inr (7, o7 q v0 w0)), (q 1, .inl (c 0, 800, .inl (fun _ => 0)))] sz) := by
  refine Met.ofW (cc := cX7_feed) (maxL := 6) (ret := (some .int)) (by decide) rfl ?_
  intro p e s m args below meth cd s₁ B hml hv
  obtain ⟨rfl, hsz, hP, hD0, hAm, hSt⟩ := hv
  have hx := B.exec
  have hb := B.bytes
  have hr := B.returns
  have hts := atoms_spec (ws := wsX7_feed) B.pre
  have hown : s.vm.findClass RX7 = some m.cls := findClass_of_methodNamed B.named
  have hlocks := B.notSynchronized
  subst hsz
  have hK := hAm.1
  have hD := hD0.self (sz := s.heap.size)
  generalize hAe : va_A [(h0, .inr (7, o7 q v0 w0)), (q 1, .inl (c 0, 800, .inl (fun _ => 0)))] s.heap.size = A at hD hSt ⊢
  have hA : ∀ q : Nat, s.heap.size ≤ q → A q := fun q h => by rw [← hAe]; exact Or.inr h
  have hS : va_S A s.heap s.heap [] := va_S.rf
  clear hD0 hAe
  have hl := lv_entry ([.ref h0, .int a1, .int a2, .int a3, .int a4, .int a5]) (n := 6) (Nat.le_of_ble_eq_true rfl)
  rw [lg_entry_eq]
  generalize (lg_sl ([.ref h0, .int a1, .int a2, .int a3, .int a4, .int a5]) ++ List.replicate (6 - (lg_sl ([.ref h0, .int a1, .int a2, .int a3, .int a4, .int a5])).length) Slot.unset).toArray = ls at hl ⊢
  have hl : lv_has ls 6 [(0, .ref h0), (1, .int a1), (2, .int a2), (3, .int a3), (4, .int a4), (5, .int a5)] := hl
  refine lv_aload_n hx hb dX7_feed_0 rfl (lv_at hl 0 rfl) ?_
  refine va_get (D := D) (ci := 7) (v := .int 0) (C := RX7) (T := TX7) (N := 56) hx hb hts (fun _ h => List.mem_cons_of_mem _ (List.mem_append_right _ h)) hown hK hP 0 rfl rfl 2 (by decide) (hts (.fieldLink RX7 125 "CrownTableModel" "taped" "I") (mem_i 1 rfl)) (fun _ h9 => h9) rfl dX7_feed_1 ?_
  refine lv_bipush (v := 20) hx hb dX7_feed_4 (by decide) ?_
  refine lv_iadd hx hb dX7_feed_6 ?_
  refine lk_i (y := 20) (by decide) ?_
  refine lv_sipush (v := 800) hx hb dX7_feed_7 (by decide) ?_
  refine iicmp_leT (a := 20) (b := 800) (tgt := 16) hx hb (by decide) (by decide) dX7_feed_10 (by decide) (by decide) ?_
  refine lv_aload_n hx hb dX7_feed_16 rfl (lv_at hl 0 rfl) ?_
  refine lv_iload_n hx hb dX7_feed_17 rfl (lv_at hl 1 rfl) ?_
  have hPc := hP.sub (ws' := [(h0, .inr (7, o7 q v0 w0)), (q 1, .inl (c 0, 800, .inl (fun _ => 0)))]) [0, 1] rfl
  have hDc := hD.sub (ws' := [(h0, .inr (7, o7 q v0 w0)), (q 1, .inl (c 0, 800, .inl (fun _ => 0)))]) [0, 1] (by decide) rfl
  have hFc := va_free (wc := [(h0, .inr (7, o7 q v0 w0)), (q 1, .inl (c 0, 800, .inl (fun _ => 0)))]) hD hS hA [0, 1] rfl
  refine va_callv (va_runV (As := [.int a1]) (rest := []) ⟨hx, hb, hml, hown, hts⟩ (c_X7_bytes l D c ts s.heap.size q h0 a1 i_a1 hi_a1) (cwV 1 hts gX7_feed_X7_bytes rfl rfl rfl ⟨rfl, hdX7_bytes⟩ ⟨(show 0 + 1 ≤ 1 by decide), (show 8 + (3 + 11) + 0 ≤ 22 by decide)⟩) ⟨Pre0.blind, va_recv hK hPc (ci := 7) (q0 := 0) rfl rfl, Pre0.at hPc hDc hAm hSt hS hFc⟩ rfl rfl hl.1 rfl (lv_room (Nat.le_of_ble_eq_true rfl)) dX7_feed_18 ⟨(show 0 + 0 ≤ 0 by decide), (show 0 + 0 ≤ 0 by decide)⟩) hS (fun q _ h => hFc q h) hFc (fun u_3 t1 H locs ht hvm hw_1 hB hz1 hk1 hS => ?_)
  obtain ⟨hP1, hD1⟩ := hB
  rw [ht] at hP1
  obtain ⟨hP, hD⟩ := va_join (wr := []) (w1 := [(h0, .inr (7, o7 q (upd v0 2 4) w0)), (q 1, .inl (c 0, 800, .inl (u_3.2.1 0)))]) hP hD [0, 1] [] rfl rfl (by decide) (by decide) hk1 hFc hP1 hD1
  have hP : va_P D vwCl [(h0, .inr (7, o7 q (upd v0 2 4) w0)), (q 1, .inl (c 0, 800, .inl (u_3.2.1 0)))] H := hP
  have hD : va_D A [(h0, .inr (7, o7 q (upd v0 2 4) w0)), (q 1, .inl (c 0, 800, .inl (u_3.2.1 0)))] := hD
  refine W.widen (k := 0) (n := 0) (by omega) (by omega) ?_
  refine lv_aload_n hx hb dX7_feed_21 rfl (lv_at hl 0 rfl) ?_
  refine lv_iload_n hx hb dX7_feed_22 rfl (lv_at hl 2 rfl) ?_
  have hPc := hP.sub (ws' := [(h0, .inr (7, o7 q (upd v0 2 4) w0)), (q 1, .inl (c 0, 800, .inl (u_3.2.1 0)))]) [0, 1] rfl
  have hDc := hD.sub (ws' := [(h0, .inr (7, o7 q (upd v0 2 4) w0)), (q 1, .inl (c 0, 800, .inl (u_3.2.1 0)))]) [0, 1] (by decide) rfl
  have hFc := va_free (wc := [(h0, .inr (7, o7 q (upd v0 2 4) w0)), (q 1, .inl (c 0, 800, .inl (u_3.2.1 0)))]) hD hS hA [0, 1] rfl
  refine va_callv (va_runV (As := [.int a2]) (rest := []) ⟨hx, hb, hml, hown, hts⟩ (c_X7_bytes_1 l D c ts H.size q h0 (u_3.2.1 0) a2 i_a2 hi_a2) (cwV 1 hts gX7_feed_X7_bytes rfl rfl rfl ⟨rfl, hdX7_bytes⟩ ⟨(show 0 + 1 ≤ 1 by decide), (show 8 + (3 + 11) + 0 ≤ 22 by decide)⟩) ⟨Pre0.blind, va_recv hK hPc (ci := 7) (q0 := 0) rfl rfl, Pre0.at hPc hDc hAm hSt hS hFc⟩ rfl rfl hl.1 rfl (lv_room (Nat.le_of_ble_eq_true rfl)) dX7_feed_23 ⟨(show 0 + 0 ≤ 0 by decide), (show 0 + 0 ≤ 0 by decide)⟩) hS (fun q _ h => hFc q h) hFc (fun u_6 t1 H locs ht hvm hw_4 hB hz1 hk1 hS => ?_)
  obtain ⟨hP1, hD1⟩ := hB
  rw [ht] at hP1
  obtain ⟨hP, hD⟩ := va_join (wr := []) (w1 := [(h0, .inr (7, o7 q (upd v0 2 8) w0)), (q 1, .inl (c 0, 800, .inl (u_6.2.1 0)))]) hP hD [0, 1] [] rfl rfl (by decide) (by decide) hk1 hFc hP1 hD1
  have hP : va_P D vwCl [(h0, .inr (7, o7 q (upd v0 2 8) w0)), (q 1, .inl (c 0, 800, .inl (u_6.2.1 0)))] H := hP
  have hD : va_D A [(h0, .inr (7, o7 q (upd v0 2 8) w0)), (q 1, .inl (c 0, 800, .inl (u_6.2.1 0)))] := hD
  refine W.widen (k := 0) (n := 0) (by omega) (by omega) ?_
  refine lv_aload_n hx hb dX7_feed_26 rfl (lv_at hl 0 rfl) ?_
  refine lv_iload_n hx hb dX7_feed_27 rfl (lv_at hl 3 rfl) ?_
  have hPc := hP.sub (ws' := [(h0, .inr (7, o7 q (upd v0 2 8) w0)), (q 1, .inl (c 0, 800, .inl (u_6.2.1 0)))]) [0, 1] rfl
  have hDc := hD.sub (ws' := [(h0, .inr (7, o7 q (upd v0 2 8) w0)), (q 1, .inl (c 0, 800, .inl (u_6.2.1 0)))]) [0, 1] (by decide) rfl
  have hFc := va_free (wc := [(h0, .inr (7, o7 q (upd v0 2 8) w0)), (q 1, .inl (c 0, 800, .inl (u_6.2.1 0)))]) hD hS hA [0, 1] rfl
  refine va_callv (va_runV (As := [.int a3]) (rest := []) ⟨hx, hb, hml, hown, hts⟩ (c_X7_bytes_2 l D c ts H.size q h0 (u_6.2.1 0) a3 i_a3 hi_a3) (cwV 1 hts gX7_feed_X7_bytes rfl rfl rfl ⟨rfl, hdX7_bytes⟩ ⟨(show 0 + 1 ≤ 1 by decide), (show 8 + (3 + 11) + 0 ≤ 22 by decide)⟩) ⟨Pre0.blind, va_recv hK hPc (ci := 7) (q0 := 0) rfl rfl, Pre0.at hPc hDc hAm hSt hS hFc⟩ rfl rfl hl.1 rfl (lv_room (Nat.le_of_ble_eq_true rfl)) dX7_feed_28 ⟨(show 0 + 0 ≤ 0 by decide), (show 0 + 0 ≤ 0 by decide)⟩) hS (fun q _ h => hFc q h) hFc (fun u_9 t1 H locs ht hvm hw_7 hB hz1 hk1 hS => ?_)
  obtain ⟨hP1, hD1⟩ := hB
  rw [ht] at hP1
  obtain ⟨hP, hD⟩ := va_join (wr := []) (w1 := [(h0, .inr (7, o7 q (upd v0 2 12) w0)), (q 1, .inl (c 0, 800, .inl (u_9.2.1 0)))]) hP hD [0, 1] [] rfl rfl (by decide) (by decide) hk1 hFc hP1 hD1
  have hP : va_P D vwCl [(h0, .inr (7, o7 q (upd v0 2 12) w0)), (q 1, .inl (c 0, 800, .inl (u_9.2.1 0)))] H := hP
  have hD : va_D A [(h0, .inr (7, o7 q (upd v0 2 12) w0)), (q 1, .inl (c 0, 800, .inl (u_9.2.1 0)))] := hD
  refine W.widen (k := 0) (n := 0) (by omega) (by omega) ?_
  refine lv_aload_n hx hb dX7_feed_31 rfl (lv_at hl 0 rfl) ?_
  refine lv_iload hx hb dX7_feed_32 (lv_at hl 4 rfl) ?_
  have hPc := hP.sub (ws' := [(h0, .inr (7, o7 q (upd v0 2 12) w0)), (q 1, .inl (c 0, 800, .inl (u_9.2.1 0)))]) [0, 1] rfl
  have hDc := hD.sub (ws' := [(h0, .inr (7, o7 q (upd v0 2 12) w0)), (q 1, .inl (c 0, 800, .inl (u_9.2.1 0)))]) [0, 1] (by decide) rfl
  have hFc := va_free (wc := [(h0, .inr (7, o7 q (upd v0 2 12) w0)), (q 1, .inl (c 0, 800, .inl (u_9.2.1 0)))]) hD hS hA [0, 1] rfl
  refine va_callv (va_runV (As := [.int a4]) (rest := []) ⟨hx, hb, hml, hown, hts⟩ (c_X7_bytes_3 l D c ts H.size q h0 (u_9.2.1 0) a4 i_a4 hi_a4) (cwV 1 hts gX7_feed_X7_bytes rfl rfl rfl ⟨rfl, hdX7_bytes⟩ ⟨(show 0 + 1 ≤ 1 by decide), (show 8 + (3 + 11) + 0 ≤ 22 by decide)⟩) ⟨Pre0.blind, va_recv hK hPc (ci := 7) (q0 := 0) rfl rfl, Pre0.at hPc hDc hAm hSt hS hFc⟩ rfl rfl hl.1 rfl (lv_room (Nat.le_of_ble_eq_true rfl)) dX7_feed_34 ⟨(show 0 + 0 ≤ 0 by decide), (show 0 + 0 ≤ 0 by decide)⟩) hS (fun q _ h => hFc q h) hFc (fun u_12 t1 H locs ht hvm hw_10 hB hz1 hk1 hS => ?_)
  obtain ⟨hP1, hD1⟩ := hB
  rw [ht] at hP1
  obtain ⟨hP, hD⟩ := va_join (wr := []) (w1 := [(h0, .inr (7, o7 q (upd v0 2 16) w0)), (q 1, .inl (c 0, 800, .inl (u_12.2.1 0)))]) hP hD [0, 1] [] rfl rfl (by decide) (by decide) hk1 hFc hP1 hD1
  have hP : va_P D vwCl [(h0, .inr (7, o7 q (upd v0 2 16) w0)), (q 1, .inl (c 0, 800, .inl (u_12.2.1 0)))] H := hP
  have hD : va_D A [(h0, .inr (7, o7 q (upd v0 2 16) w0)), (q 1, .inl (c 0, 800, .inl (u_12.2.1 0)))] := hD
  refine W.widen (k := 0) (n := 0) (by omega) (by omega) ?_
  refine lv_aload_n hx hb dX7_feed_37 rfl (lv_at hl 0 rfl) ?_
  refine lv_iload hx hb dX7_feed_38 (lv_at hl 5 rfl) ?_
  have hPc := hP.sub (ws' := [(h0, .inr (7, o7 q (upd v0 2 16) w0)), (q 1, .inl (c 0, 800, .inl (u_12.2.1 0)))]) [0, 1] rfl
  have hDc := hD.sub (ws' := [(h0, .inr (7, o7 q (upd v0 2 16) w0)), (q 1, .inl (c 0, 800, .inl (u_12.2.1 0)))]) [0, 1] (by decide) rfl
  have hFc := va_free (wc := [(h0, .inr (7, o7 q (upd v0 2 16) w0)), (q 1, .inl (c 0, 800, .inl (u_12.2.1 0)))]) hD hS hA [0, 1] rfl
  refine va_callv (va_runV (As := [.int a5]) (rest := []) ⟨hx, hb, hml, hown, hts⟩ (c_X7_bytes_4 l D c ts H.size q h0 (u_12.2.1 0) a5 i_a5 hi_a5) (cwV 1 hts gX7_feed_X7_bytes rfl rfl rfl ⟨rfl, hdX7_bytes⟩ ⟨(show 0 + 1 ≤ 1 by decide), (show 8 + (3 + 11) + 0 ≤ 22 by decide)⟩) ⟨Pre0.blind, va_recv hK hPc (ci := 7) (q0 := 0) rfl rfl, Pre0.at hPc hDc hAm hSt hS hFc⟩ rfl rfl hl.1 rfl (lv_room (Nat.le_of_ble_eq_true rfl)) dX7_feed_40 ⟨(show 0 + 0 ≤ 0 by decide), (show 0 + 0 ≤ 0 by decide)⟩) hS (fun q _ h => hFc q h) hFc (fun u_15 t1 H locs ht hvm hw_13 hB hz1 hk1 hS => ?_)
  obtain ⟨hP1, hD1⟩ := hB
  rw [ht] at hP1
  obtain ⟨hP, hD⟩ := va_join (wr := []) (w1 := [(h0, .inr (7, o7 q (upd v0 2 20) w0)), (q 1, .inl (c 0, 800, .inl (u_15.2.1 0)))]) hP hD [0, 1] [] rfl rfl (by decide) (by decide) hk1 hFc hP1 hD1
  have hP : va_P D vwCl [(h0, .inr (7, o7 q (upd v0 2 20) w0)), (q 1, .inl (c 0, 800, .inl (u_15.2.1 0)))] H := hP
  have hD : va_D A [(h0, .inr (7, o7 q (upd v0 2 20) w0)), (q 1, .inl (c 0, 800, .inl (u_15.2.1 0)))] := hD
  refine W.widen (k := 0) (n := 0) (by omega) (by omega) ?_
  refine lv_aload_n hx hb dX7_feed_43 rfl (lv_at hl 0 rfl) ?_
  refine va_get (D := D) (ci := 7) (v := .int 20) (C := RX7) (T := TX7) (N := 56) hx hb hts (fun _ h => List.mem_cons_of_mem _ (List.mem_append_right _ h)) hown hK hP 0 rfl rfl 2 (by decide) (hts (.fieldLink RX7 125 "CrownTableModel" "taped" "I") (mem_i 1 rfl)) (fun _ h9 => h9) rfl dX7_feed_44 ?_
  refine W.widen (k := 0) (n := 0) (by omega) (by omega) ?_
  exact W.iret (v := 20) hx hb hr (fun t ht hW => ⟨⟨_, (), rfl, rfl, trivial⟩, hS.F ht⟩) hS.2.2 dX7_feed_47
