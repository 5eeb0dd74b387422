set_option maxHeartbeats 4000000 in
set_option maxRecDepth 100000 in
theorem c_X0_notches (l : Launch) (D : va_G) (c : Nat → ClassId) (ts : Nat × Nat) (sz : Nat)  (a0 : Int32) (i_a0 : Int) (hi_a0 : a0.toInt = i_a0) (hp0 : 1 ≤ i_a0 ∧ i_a0 ≤ 1000000) : Met l yX0_notches wsX0_notches ({ frames := 0, cells := 0, slots := 0, locals := 0 }) (va_Pc [.int a0, .int 0] (Pre0 D c ts [] sz)) (vp_Si (fun r : Int32 => r.toInt = (i_a0 % 12))) 0 0 (fun _ => False) := by
  refine Met.ofW (cc := cX0_notches) (maxL := 2) (ret := (some .int)) (by decide) rfl ?_
  intro p e s m args below meth cd s₁ B hml hv
  obtain ⟨rfl, hsz, hP, hD0, hAm, hSt⟩ := hv
  have hx := B.exec
  have hb := B.bytes
  have hr := B.returns
  have hts := atoms_spec (ws := wsX0_notches) B.pre
  have hown : s.vm.findClass RX0 = some m.cls := findClass_of_methodNamed B.named
  have hlocks := B.notSynchronized
  subst hsz
  have hK := hAm.1
  have hD := hD0.self (sz := s.heap.size)
  generalize hAe : va_A [] s.heap.size = A at hD hSt
  have hA : ∀ q : Nat, s.heap.size ≤ q → A q := fun q h => by rw [← hAe]; exact Or.inr h
  have hS : va_S A s.heap s.heap [] := va_S.rf
  clear hD0 hAe
  have hl := lv_entry ([.int a0, .int 0]) (n := 2) (Nat.le_of_ble_eq_true rfl)
  rw [lg_entry_eq]
  generalize (lg_sl ([.int a0, .int 0]) ++ List.replicate (2 - (lg_sl ([.int a0, .int 0])).length) Slot.unset).toArray = ls at hl ⊢
  have hl : lv_has ls 2 [(0, .int a0), (1, .int 0)] := hl
  refine lv_iload_n hx hb dX0_notches_0 rfl (lv_at hl 1 rfl) ?_
  refine lv_tableIn (tgt := 40) hx hb dX0_notches_1 (by decide) (by decide) rfl (by decide) ?_
  refine lv_iload_n hx hb dX0_notches_40 rfl (lv_at hl 0 rfl) ?_
  refine lv_bipush (v := 12) hx hb dX0_notches_41 (by decide) ?_
  refine lv_irem hx hb dX0_notches_43 (by decide) ?_
  refine lv_topi (fun x_1 ex_1 => ?_)
  have tx_1 : x_1.toInt = (i_a0 % 12) := by rw [ex_1]; exact rem_ti (a := i_a0) (b := 12) hi_a0 (by decide) (by omega) (by omega) (by decide) (by decide)
  exact W.iret (v := x_1) hx hb hr (fun t ht hW => ⟨_, rfl, tx_1, ht⟩) (fun _ h => by cases h) dX0_notches_44

set_option maxHeartbeats 4000000 in
set_option maxRecDepth 100000 in
theorem c_X0_notches_1 (l : Launch) (D : va_G) (c : Nat → ClassId) (ts : Nat × Nat) (sz : Nat)  (a0 : Int32) (i_a0 : Int) (hi_a0 : a0.toInt = i_a0) (hp0 : 1 ≤ i_a0 ∧ i_a0 ≤ 1000000) : Met l yX0_notches wsX0_notches ({ frames := 0, cells := 0, slots := 0, locals := 0 }) (va_Pc [.int a0, .int 1] (Pre0 D c ts [] sz)) (vp_Si (fun r : Int32 => r.toInt = ((i_a0 / 12) % 20))) 0 0 (fun _ => False) := by
  refine Met.ofW (cc := cX0_notches) (maxL := 2) (ret := (some .int)) (by decide) rfl ?_
  intro p e s m args below meth cd s₁ B hml hv
  obtain ⟨rfl, hsz, hP, hD0, hAm, hSt⟩ := hv
  have hx := B.exec
  have hb := B.bytes
  have hr := B.returns
  have hts := atoms_spec (ws := wsX0_notches) B.pre
  have hown : s.vm.findClass RX0 = some m.cls := findClass_of_methodNamed B.named
  have hlocks := B.notSynchronized
  subst hsz
  have hK := hAm.1
  have hD := hD0.self (sz := s.heap.size)
  generalize hAe : va_A [] s.heap.size = A at hD hSt
  have hA : ∀ q : Nat, s.heap.size ≤ q → A q := fun q h => by rw [← hAe]; exact Or.inr h
  have hS : va_S A s.heap s.heap [] := va_S.rf
  clear hD0 hAe
  have hl := lv_entry ([.int a0, .int 1]) (n := 2) (Nat.le_of_ble_eq_true rfl)
  rw [lg_entry_eq]
  generalize (lg_sl ([.int a0, .int 1]) ++ List.replicate (2 - (lg_sl ([.int a0, .int 1])).length) Slot.unset).toArray = ls at hl ⊢
  have hl : lv_has ls 2 [(0, .int a0), (1, .int 1)] := hl
  refine lv_iload_n hx hb dX0_notches_0 rfl (lv_at hl 1 rfl) ?_
  refine lv_tableIn (tgt := 45) hx hb dX0_notches_1 (by decide) (by decide) rfl (by decide) ?_
  refine lv_iload_n hx hb dX0_notches_45 rfl (lv_at hl 0 rfl) ?_
  refine lv_bipush (v := 12) hx hb dX0_notches_46 (by decide) ?_
  refine lv_idiv hx hb dX0_notches_48 (by decide) ?_
  refine lv_topi (fun x_1 ex_1 => ?_)
  have tx_1 : x_1.toInt = (i_a0 / 12) := by rw [ex_1]; exact div_ti (a := i_a0) (b := 12) hi_a0 (by decide) (by omega) (by omega) (by decide) (by decide)
  refine lv_bipush (v := 20) hx hb dX0_notches_49 (by decide) ?_
  refine lv_irem hx hb dX0_notches_51 (by decide) ?_
  refine lv_topi (fun x_2 ex_2 => ?_)
  have tx_2 : x_2.toInt = ((i_a0 / 12) % 20) := by rw [ex_2]; exact rem_ti (a := (i_a0 / 12)) (b := 20) tx_1 (by decide) (by omega) (by omega) (by decide) (by decide)
  exact W.iret (v := x_2) hx hb hr (fun t ht hW => ⟨_, rfl, tx_2, ht⟩) (fun _ h => by cases h) dX0_notches_52

set_option maxHeartbeats 4000000 in
set_option maxRecDepth 100000 in
theorem c_X0_notches_2 (l : Launch) (D : va_G) (c : Nat → ClassId) (ts : Nat × Nat) (sz : Nat)  (a0 : Int32) (i_a0 : Int) (hi_a0 : a0.toInt = i_a0) (hp0 : 1 ≤ i_a0 ∧ i_a0 ≤ 1000000) : Met l yX0_notches wsX0_notches ({ frames := 0, cells := 0, slots := 0, locals := 0 }) (va_Pc [.int a0, .int 2] (Pre0 D c ts [] sz)) (vp_Si (fun r : Int32 => r.toInt = ((i_a0 / 240) % 20))) 0 0 (fun _ => False) := by
  refine Met.ofW (cc := cX0_notches) (maxL := 2) (ret := (some .int)) (by decide) rfl ?_
  intro p e s m args below meth cd s₁ B hml hv
  obtain ⟨rfl, hsz, hP, hD0, hAm, hSt⟩ := hv
  have hx := B.exec
  have hb := B.bytes
  have hr := B.returns
  have hts := atoms_spec (ws := wsX0_notches) B.pre
  have hown : s.vm.findClass RX0 = some m.cls := findClass_of_methodNamed B.named
  have hlocks := B.notSynchronized
  subst hsz
  have hK := hAm.1
  have hD := hD0.self (sz := s.heap.size)
  generalize hAe : va_A [] s.heap.size = A at hD hSt
  have hA : ∀ q : Nat, s.heap.size ≤ q → A q := fun q h => by rw [← hAe]; exact Or.inr h
  have hS : va_S A s.heap s.heap [] := va_S.rf
  clear hD0 hAe
  have hl := lv_entry ([.int a0, .int 2]) (n := 2) (Nat.le_of_ble_eq_true rfl)
  rw [lg_entry_eq]
  generalize (lg_sl ([.int a0, .int 2]) ++ List.replicate (2 - (lg_sl ([.int a0, .int 2])).length) Slot.unset).toArray = ls at hl ⊢
  have hl : lv_has ls 2 [(0, .int a0), (1, .int 2)] := hl
  refine lv_iload_n hx hb dX0_notches_0 rfl (lv_at hl 1 rfl) ?_
  refine lv_tableIn (tgt := 53) hx hb dX0_notches_1 (by decide) (by decide) rfl (by decide) ?_
  refine lv_iload_n hx hb dX0_notches_53 rfl (lv_at hl 0 rfl) ?_
  refine lv_sipush (v := 240) hx hb dX0_notches_54 (by decide) ?_
  refine lv_idiv hx hb dX0_notches_57 (by decide) ?_
  refine lv_topi (fun x_1 ex_1 => ?_)
  have tx_1 : x_1.toInt = (i_a0 / 240) := by rw [ex_1]; exact div_ti (a := i_a0) (b := 240) hi_a0 (by decide) (by omega) (by omega) (by decide) (by decide)
  refine lv_bipush (v := 20) hx hb dX0_notches_58 (by decide) ?_
  refine lv_irem hx hb dX0_notches_60 (by decide) ?_
  refine lv_topi (fun x_2 ex_2 => ?_)
  have tx_2 : x_2.toInt = ((i_a0 / 240) % 20) := by rw [ex_2]; exact rem_ti (a := (i_a0 / 240)) (b := 20) tx_1 (by decide) (by omega) (by omega) (by decide) (by decide)
  exact W.iret (v := x_2) hx hb hr (fun t ht hW => ⟨_, rfl, tx_2, ht⟩) (fun _ h => by cases h) dX0_notches_61

set_option maxHeartbeats 4000000 in
set_option maxRecDepth 100000 in
theorem c_X0_notches_3 (l : Launch) (D : va_G) (c : Nat → ClassId) (ts : Nat × Nat) (sz : Nat)  (a0 : Int32) (i_a0 : Int) (hi_a0 : a0.toInt = i_a0) (hp0 : 1 ≤ i_a0 ∧ i_a0 ≤ 1000000) : Met l yX0_notches wsX0_notches ({ frames := 0, cells := 0, slots := 0, locals := 0 }) (va_Pc [.int a0, .int 3] (Pre0 D c ts [] sz)) (vp_Si (fun r : Int32 => r.toInt = ((i_a0 / 4800) % 5))) 0 0 (fun _ => False) := by
  refine Met.ofW (cc := cX0_notches) (maxL := 2) (ret := (some .int)) (by decide) rfl ?_
  intro p e s m args below meth cd s₁ B hml hv
  obtain ⟨rfl, hsz, hP, hD0, hAm, hSt⟩ := hv
  have hx := B.exec
  have hb := B.bytes
  have hr := B.returns
  have hts := atoms_spec (ws := wsX0_notches) B.pre
  have hown : s.vm.findClass RX0 = some m.cls := findClass_of_methodNamed B.named
  have hlocks := B.notSynchronized
  subst hsz
  have hK := hAm.1
  have hD := hD0.self (sz := s.heap.size)
  generalize hAe : va_A [] s.heap.size = A at hD hSt
  have hA : ∀ q : Nat, s.heap.size ≤ q → A q := fun q h => by rw [← hAe]; exact Or.inr h
  have hS : va_S A s.heap s.heap [] := va_S.rf
  clear hD0 hAe
  have hl := lv_entry ([.int a0, .int 3]) (n := 2) (Nat.le_of_ble_eq_true rfl)
  rw [lg_entry_eq]
  generalize (lg_sl ([.int a0, .int 3]) ++ List.replicate (2 - (lg_sl ([.int a0, .int 3])).length) Slot.unset).toArray = ls at hl ⊢
  have hl : lv_has ls 2 [(0, .int a0), (1, .int 3)] := hl
  refine lv_iload_n hx hb dX0_notches_0 rfl (lv_at hl 1 rfl) ?_
  refine lv_tableIn (tgt := 62) hx hb dX0_notches_1 (by decide) (by decide) rfl (by decide) ?_
  refine lv_iload_n hx hb dX0_notches_62 rfl (lv_at hl 0 rfl) ?_
  refine lv_sipush (v := 4800) hx hb dX0_notches_63 (by decide) ?_
  refine lv_idiv hx hb dX0_notches_66 (by decide) ?_
  refine lv_topi (fun x_1 ex_1 => ?_)
  have tx_1 : x_1.toInt = (i_a0 / 4800) := by rw [ex_1]; exact div_ti (a := i_a0) (b := 4800) hi_a0 (by decide) (by omega) (by omega) (by decide) (by decide)
  refine lv_iconst (v := 5) hx hb dX0_notches_67 (by decide) ?_
  refine lv_irem hx hb dX0_notches_68 (by decide) ?_
  refine lv_topi (fun x_2 ex_2 => ?_)
  have tx_2 : x_2.toInt = ((i_a0 / 4800) % 5) := by rw [ex_2]; exact rem_ti (a := (i_a0 / 4800)) (b := 5) tx_1 (by decide) (by omega) (by omega) (by decide) (by decide)
  exact W.iret (v := x_2) hx hb hr (fun t ht hW => ⟨_, rfl, tx_2, ht⟩) (fun _ h => by cases h) dX0_notches_69

set_option maxHeartbeats 4000000 in
set_option maxRecDepth 100000 in
theorem c_X0_notches_4 (l : Launch) (D : va_G) (c : Nat → ClassId) (ts : Nat × Nat) (sz : Nat)  (a0 : Int32) (i_a0 : Int) (hi_a0 : a0.toInt = i_a0) (hp0 : 1 ≤ i_a0 ∧ i_a0 ≤ 1000000) : Met l yX0_notches wsX0_notches ({ frames := 0, cells := 0, slots := 0, locals := 0 }) (va_Pc [.int a0, .int 4] (Pre0 D c ts [] sz)) (vp_Si (fun r : Int32 => r.toInt = ((i_a0 / 24000) % 10))) 0 0 (fun _ => False) := by
  refine Met.ofW (cc := cX0_notches) (maxL := 2) (ret := (some .int)) (by decide) rfl ?_
  intro p e s m args below meth cd s₁ B hml hv
  obtain ⟨rfl, hsz, hP, hD0, hAm, hSt⟩ := hv
  have hx := B.exec
  have hb := B.bytes
  have hr := B.returns
  have hts := atoms_spec (ws := wsX0_notches) B.pre
  have hown : s.vm.findClass RX0 = some m.cls := findClass_of_methodNamed B.named
  have hlocks := B.notSynchronized
  subst hsz
  have hK := hAm.1
  have hD := hD0.self (sz := s.heap.size)
  generalize hAe : va_A [] s.heap.size = A at hD hSt
  have hA : ∀ q : Nat, s.heap.size ≤ q → A q := fun q h => by rw [← hAe]; exact Or.inr h
  have hS : va_S A s.heap s.heap [] := va_S.rf
  clear hD0 hAe
  have hl := lv_entry ([.int a0, .int 4]) (n := 2) (Nat.le_of_ble_eq_true rfl)
  rw [lg_entry_eq]
  generalize (lg_sl ([.int a0, .int 4]) ++ List.replicate (2 - (lg_sl ([.int a0, .int 4])).length) Slot.unset).toArray = ls at hl ⊢
  have hl : lv_has ls 2 [(0, .int a0), (1, .int 4)] := hl
  refine lv_iload_n hx hb dX0_notches_0 rfl (lv_at hl 1 rfl) ?_
  refine lv_tableIn (tgt := 70) hx hb dX0_notches_1 (by decide) (by decide) rfl (by decide) ?_
  refine lv_iload_n hx hb dX0_notches_70 rfl (lv_at hl 0 rfl) ?_
  refine lv_sipush (v := 24000) hx hb dX0_notches_71 (by decide) ?_
  refine lv_idiv hx hb dX0_notches_74 (by decide) ?_
  refine lv_topi (fun x_1 ex_1 => ?_)
  have tx_1 : x_1.toInt = (i_a0 / 24000) := by rw [ex_1]; exact div_ti (a := i_a0) (b := 24000) hi_a0 (by decide) (by omega) (by omega) (by decide) (by decide)
  refine lv_bipush (v := 10) hx hb dX0_notches_75 (by decide) ?_
  refine lv_irem hx hb dX0_notches_77 (by decide) ?_
  refine lv_topi (fun x_2 ex_2 => ?_)
  have tx_2 : x_2.toInt = ((i_a0 / 24000) % 10) := by rw [ex_2]; exact rem_ti (a := (i_a0 / 24000)) (b := 10) tx_1 (by decide) (by omega) (by omega) (by decide) (by decide)
  exact W.iret (v := x_2) hx hb hr (fun t ht hW => ⟨_, rfl, tx_2, ht⟩) (fun _ h => by cases h) dX0_notches_78

set_option maxHeartbeats 4000000 in
set_option maxRecDepth 100000 in
theorem c_X0_notches_5 (l : Launch) (D : va_G) (c : Nat → ClassId) (ts : Nat × Nat) (sz : Nat)  (a0 : Int32) (i_a0 : Int) (hi_a0 : a0.toInt = i_a0) (hp0 : 1 ≤ i_a0 ∧ i_a0 ≤ 1000000) : Met l yX0_notches wsX0_notches ({ frames := 0, cells := 0, slots := 0, locals := 0 }) (va_Pc [.int a0, .int 5] (Pre0 D c ts [] sz)) (vp_Si (fun r : Int32 => r.toInt = (i_a0 / 240000))) 0 0 (fun _ => False) := by
  refine Met.ofW (cc := cX0_notches) (maxL := 2) (ret := (some .int)) (by decide) rfl ?_
  intro p e s m args below meth cd s₁ B hml hv
  obtain ⟨rfl, hsz, hP, hD0, hAm, hSt⟩ := hv
  have hx := B.exec
  have hb := B.bytes
  have hr := B.returns
  have hts := atoms_spec (ws := wsX0_notches) B.pre
  have hown : s.vm.findClass RX0 = some m.cls := findClass_of_methodNamed B.named
  have hlocks := B.notSynchronized
  subst hsz
  have hK := hAm.1
  have hD := hD0.self (sz := s.heap.size)
  generalize hAe : va_A [] s.heap.size = A at hD hSt
  have hA : ∀ q : Nat, s.heap.size ≤ q → A q := fun q h => by rw [← hAe]; exact Or.inr h
  have hS : va_S A s.heap s.heap [] := va_S.rf
  clear hD0 hAe
  have hl := lv_entry ([.int a0, .int 5]) (n := 2) (Nat.le_of_ble_eq_true rfl)
  rw [lg_entry_eq]
  generalize (lg_sl ([.int a0, .int 5]) ++ List.replicate (2 - (lg_sl ([.int a0, .int 5])).length) Slot.unset).toArray = ls at hl ⊢
  have hl : lv_has ls 2 [(0, .int a0), (1, .int 5)] := hl
  refine lv_iload_n hx hb dX0_notches_0 rfl (lv_at hl 1 rfl) ?_
  refine lv_tableIn (tgt := 79) hx hb dX0_notches_1 (by decide) (by decide) rfl (by decide) ?_
  refine lv_iload_n hx hb dX0_notches_79 rfl (lv_at hl 0 rfl) ?_
  refine lv_ldc (v := 240000) hx hb hown (hts (.constant RX0 15 (240000)) (mem_i 1 rfl)) dX0_notches_80 ?_
  refine lv_idiv hx hb dX0_notches_82 (by decide) ?_
  refine lv_topi (fun x_1 ex_1 => ?_)
  have tx_1 : x_1.toInt = (i_a0 / 240000) := by rw [ex_1]; exact div_ti (a := i_a0) (b := 240000) hi_a0 (by decide) (by omega) (by omega) (by decide) (by decide)
  exact W.iret (v := x_1) hx hb hr (fun t ht hW => ⟨_, rfl, tx_1, ht⟩) (fun _ h => by cases h) dX0_notches_83

set_option maxHeartbeats 4000000 in
set_option maxRecDepth 100000 in
theorem c_X0_layDown (l : Launch) (D : va_G) (c : Nat → ClassId) (ts : Nat × Nat) (sz : Nat) (h0 : Nat) (h1 : Nat) (a1 : Int32) (i_a1 : Int) (hi_a1 : a1.toInt = i_a1) (hp0 : 1 ≤ i_a1 ∧ i_a1 ≤ 1000000) : Met l yX0_layDown wsX0_layDown ({ frames := 1, cells := 0, slots := 0, locals := 21 }) (va_Pc [.ref h0, .int a1] (Pre0 D c ts [(h0, .inr (0, [.ref h1])), (h1, .inl (c 1, 6, .inl (fun _ => 0)))] sz)) (va_Qi (fun (r : Int32) (u : Unit) => r = 0) (fun _ _ => True) (va_A [(h0, .inr (0, [.ref h1])), (h1, .inl (c 1, 6, .inl (fun _ => 0)))] sz)) 0 0 (va_A [(h0, .inr (0, [.ref h1])), (h1, .inl (c 1, 6, .inl (fun _ => 0)))] sz) := by
  refine Met.ofW (cc := cX0_layDown) (maxL := 4) (ret := (some .int)) (by decide) rfl ?_
  intro p e s m args below meth cd s₁ B hml hv
  obtain ⟨rfl, hsz, hP, hD0, hAm, hSt⟩ := hv
  have hx := B.exec
  have hb := B.bytes
  have hr := B.returns
  have hts := atoms_spec (ws := wsX0_layDown) B.pre
  have hown : s.vm.findClass RX0 = some m.cls := findClass_of_methodNamed B.named
  have hlocks := B.notSynchronized
  subst hsz
  have hK := hAm.1
  have hD := hD0.self (sz := s.heap.size)
  generalize hAe : va_A [(h0, .inr (0, [.ref h1])), (h1, .inl (c 1, 6, .inl (fun _ => 0)))] s.heap.size = A at hD hSt ⊢
  have hA : ∀ q : Nat, s.heap.size ≤ q → A q := fun q h => by rw [← hAe]; exact Or.inr h
  have hS : va_S A s.heap s.heap [] := va_S.rf
  clear hD0 hAe
  have hl := lv_entry ([.ref h0, .int a1]) (n := 4) (Nat.le_of_ble_eq_true rfl)
  rw [lg_entry_eq]
  generalize (lg_sl ([.ref h0, .int a1]) ++ List.replicate (4 - (lg_sl ([.ref h0, .int a1])).length) Slot.unset).toArray = ls at hl ⊢
  have hl : lv_has ls 4 [(0, .ref h0), (1, .int a1)] := hl
  refine lv_iconst (v := 0) hx hb dX0_layDown_0 (by decide) ?_
  refine lv_istore_n (lv' := [(2, .int 0), (0, .ref h0), (1, .int a1)]) hx hb dX0_layDown_1 rfl hl (by decide) rfl (fun ls hl => ?_)
  refine lv_iload_n hx hb dX0_layDown_2 rfl (lv_at hl 0 rfl) ?_
  refine lv_bipush (v := 6) hx hb dX0_layDown_3 (by decide) ?_
  refine iicmp_geF (a := 0) (b := 6) (tgt := 28) hx hb (by decide) (by decide) dX0_layDown_5 (by decide) (by decide) ?_
  refine lv_aload_n hx hb dX0_layDown_8 rfl (lv_at hl 1 rfl) ?_
  refine va_get (D := D) (ci := 0) (v := .ref h1) (C := RX0) (T := TX0) (N := 1) hx hb hts (fun _ h => List.mem_cons_of_mem _ (List.mem_append_right _ h)) hown hK hP 0 rfl rfl 0 (by decide) (hts (.fieldLink RX0 9 "CrownTable$Cloth" "counters" "[I") (mem_i 1 rfl)) (fun _ h9 => h9) rfl dX0_layDown_9 ?_
  refine lv_iload_n hx hb dX0_layDown_12 rfl (lv_at hl 0 rfl) ?_
  refine lv_dup2_11 hx hb dX0_layDown_13 rfl rfl ?_
  refine va_iald hx hb hK hP 1 1 rfl rfl (vin (a := 0) (by decide) (by decide) (by decide)) dX0_layDown_14 ?_
  refine lk_i (y := 0) rfl ?_
  refine lv_iload_n hx hb dX0_layDown_15 rfl (lv_at hl 2 rfl) ?_
  refine lv_iload_n hx hb dX0_layDown_16 rfl (lv_at hl 0 rfl) ?_
  have hPc := hP.sub (ws' := []) [] rfl
  have hDc := hD.sub (ws' := []) [] (by decide) rfl
  have hFc := va_free (wc := []) hD hS hA [] rfl
  refine va_csi (va_runS (As := [.int a1, .int 0]) (rest := [.int 0, .int 0, .ref h1]) ⟨hx, hb, hml, hown, hts⟩ (c_X0_notches l D c ts s.heap.size a1 i_a1 hi_a1 ⟨by omega, by omega⟩) (cwS 2 hts gX0_layDown_X0_notches rfl rfl rfl ⟨rfl, hdX0_notches⟩ ⟨(show 0 + 1 ≤ 1 by decide), (show 8 + (2 + 11) + 0 ≤ 21 by decide)⟩) ⟨Pre0.blind, Pre0.at hPc hDc hAm hSt hS hFc⟩ rfl rfl hl.1 rfl (lv_room (Nat.le_of_ble_eq_true rfl)) dX0_layDown_17 ⟨(show 0 + 0 ≤ 0 by decide), (show 0 + 0 ≤ 0 by decide)⟩) (fun r_2 hw_1 => ?_)
  refine lv_iadd hx hb dX0_layDown_20 ?_
  refine lv_topi (fun x_3 ex_3 => ?_)
  have tx_3 : x_3.toInt = (0 + (i_a1 % 12)) := by rw [ex_3]; exact add_ti (a := 0) (b := (i_a1 % 12)) (by decide) hw_1 (by omega) (by omega)
  refine va_iast hx hb hK hP hD hS 1 1 rfl rfl (vin (a := 0) (by decide) (by decide) (by decide)) dX0_layDown_21 (fun H locs hP hD hS => ?_)
  have hP : va_P D vwCl [(h0, .inr (0, [.ref h1])), (h1, .inl (c 1, 6, .inl (upd (fun _ => 0) 0 x_3)))] H := hP
  have hD : va_D A [(h0, .inr (0, [.ref h1])), (h1, .inl (c 1, 6, .inl (upd (fun _ => 0) 0 x_3)))] := hD
  refine lv_iinc (v := 1) (lv' := [(2, .int 1), (0, .ref h0), (1, .int a1)]) hx hb dX0_layDown_22 hl (k := 0) rfl (by decide) (by decide) rfl (fun ls hl => ?_)
  refine lv_goto (tgt := 2) hx hb dX0_layDown_25 (by decide) ?_
  refine lv_iload_n hx hb dX0_layDown_2 rfl (lv_at hl 0 rfl) ?_
  refine lv_bipush (v := 6) hx hb dX0_layDown_3 (by decide) ?_
  refine iicmp_geF (a := 1) (b := 6) (tgt := 28) hx hb (by decide) (by decide) dX0_layDown_5 (by decide) (by decide) ?_
  refine lv_aload_n hx hb dX0_layDown_8 rfl (lv_at hl 1 rfl) ?_
  refine va_get (D := D) (ci := 0) (v := .ref h1) (C := RX0) (T := TX0) (N := 1) hx hb hts (fun _ h => List.mem_cons_of_mem _ (List.mem_append_right _ h)) hown hK hP 0 rfl rfl 0 (by decide) (hts (.fieldLink RX0 9 "CrownTable$Cloth" "counters" "[I") (mem_i 1 rfl)) (fun _ h9 => h9) rfl dX0_layDown_9 ?_
  refine lv_iload_n hx hb dX0_layDown_12 rfl (lv_at hl 0 rfl) ?_
  refine lv_dup2_11 hx hb dX0_layDown_13 rfl rfl ?_
  refine va_iald hx hb hK hP 1 1 rfl rfl (vin (a := 1) (by decide) (by decide) (by decide)) dX0_layDown_14 ?_
  refine lk_i (y := 0) rfl ?_
  refine lv_iload_n hx hb dX0_layDown_15 rfl (lv_at hl 2 rfl) ?_
  refine lv_iload_n hx hb dX0_layDown_16 rfl (lv_at hl 0 rfl) ?_
  have hPc := hP.sub (ws' := []) [] rfl
  have hDc := hD.sub (ws' := []) [] (by decide) rfl
  have hFc := va_free (wc := []) hD hS hA [] rfl
  refine va_csi (va_runS (As := [.int a1, .int 1]) (rest := [.int 0, .int 1, .ref h1]) ⟨hx, hb, hml, hown, hts⟩ (c_X0_notches_1 l D c ts H.size a1 i_a1 hi_a1 ⟨by omega, by omega⟩) (cwS 2 hts gX0_layDown_X0_notches rfl rfl rfl ⟨rfl, hdX0_notches⟩ ⟨(show 0 + 1 ≤ 1 by decide), (show 8 + (2 + 11) + 0 ≤ 21 by decide)⟩) ⟨Pre0.blind, Pre0.at hPc hDc hAm hSt hS hFc⟩ rfl rfl hl.1 rfl (lv_room (Nat.le_of_ble_eq_true rfl)) dX0_layDown_17 ⟨(show 0 + 0 ≤ 0 by decide), (show 0 + 0 ≤ 0 by decide)⟩) (fun r_5 hw_4 => ?_)
  refine lv_iadd hx hb dX0_layDown_20 ?_
  refine lv_topi (fun x_6 ex_6 => ?_)
  have tx_6 : x_6.toInt = (0 + ((i_a1 / 12) % 20)) := by rw [ex_6]; exact add_ti (a := 0) (b := ((i_a1 / 12) % 20)) (by decide) hw_4 (by omega) (by omega)
  refine va_iast hx hb hK hP hD hS 1 1 rfl rfl (vin (a := 1) (by decide) (by decide) (by decide)) dX0_layDown_21 (fun H locs hP hD hS => ?_)
  have hP : va_P D vwCl [(h0, .inr (0, [.ref h1])), (h1, .inl (c 1, 6, .inl (upd (upd (fun _ => 0) 0 x_3) 1 x_6)))] H := hP
  have hD : va_D A [(h0, .inr (0, [.ref h1])), (h1, .inl (c 1, 6, .inl (upd (upd (fun _ => 0) 0 x_3) 1 x_6)))] := hD
  refine lv_iinc (v := 2) (lv' := [(2, .int 2), (0, .ref h0), (1, .int a1)]) hx hb dX0_layDown_22 hl (k := 0) rfl (by decide) (by decide) rfl (fun ls hl => ?_)
  refine lv_goto (tgt := 2) hx hb dX0_layDown_25 (by decide) ?_
  refine lv_iload_n hx hb dX0_layDown_2 rfl (lv_at hl 0 rfl) ?_
  refine lv_bipush (v := 6) hx hb dX0_layDown_3 (by decide) ?_
  refine iicmp_geF (a := 2) (b := 6) (tgt := 28) hx hb (by decide) (by decide) dX0_layDown_5 (by decide) (by decide) ?_
  refine lv_aload_n hx hb dX0_layDown_8 rfl (lv_at hl 1 rfl) ?_
  refine va_get (D := D) (ci := 0) (v := .ref h1) (C := RX0) (T := TX0) (N := 1) hx hb hts (fun _ h => List.mem_cons_of_mem _ (List.mem_append_right _ h)) hown hK hP 0 rfl rfl 0 (by decide) (hts (.fieldLink RX0 9 "CrownTable$Cloth" "counters" "[I") (mem_i 1 rfl)) (fun _ h9 => h9) rfl dX0_layDown_9 ?_
  refine lv_iload_n hx hb dX0_layDown_12 rfl (lv_at hl 0 rfl) ?_
  refine lv_dup2_11 hx hb dX0_layDown_13 rfl rfl ?_
  refine va_iald hx hb hK hP 1 1 rfl rfl (vin (a := 2) (by decide) (by decide) (by decide)) dX0_layDown_14 ?_
  refine lk_i (y := 0) rfl ?_
  refine lv_iload_n hx hb dX0_layDown_15 rfl (lv_at hl 2 rfl) ?_
  refine lv_iload_n hx hb dX0_layDown_16 rfl (lv_at hl 0 rfl) ?_
  have hPc := hP.sub (ws' := []) [] rfl
  have hDc := hD.sub (ws' := []) [] (by decide) rfl
  have hFc := va_free (wc := []) hD hS hA [] rfl
  refine va_csi (va_runS (As := [.int a1, .int 2]) (rest := [.int 0, .int 2, .ref h1]) ⟨hx, hb, hml, hown, hts⟩ (c_X0_notches_2 l D c ts H.size a1 i_a1 hi_a1 ⟨by omega, by omega⟩) (cwS 2 hts gX0_layDown_X0_notches rfl rfl rfl ⟨rfl, hdX0_notches⟩ ⟨(show 0 + 1 ≤ 1 by decide), (show 8 + (2 + 11) + 0 ≤ 21 by decide)⟩) ⟨Pre0.blind, Pre0.at hPc hDc hAm hSt hS hFc⟩ rfl rfl hl.1 rfl (lv_room (Nat.le_of_ble_eq_true rfl)) dX0_layDown_17 ⟨(show 0 + 0 ≤ 0 by decide), (show 0 + 0 ≤ 0 by decide)⟩) (fun r_8 hw_7 => ?_)
  refine lv_iadd hx hb dX0_layDown_20 ?_
  refine lv_topi (fun x_9 ex_9 => ?_)
  have tx_9 : x_9.toInt = (0 + ((i_a1 / 240) % 20)) := by rw [ex_9]; exact add_ti (a := 0) (b := ((i_a1 / 240) % 20)) (by decide) hw_7 (by omega) (by omega)
  refine va_iast hx hb hK hP hD hS 1 1 rfl rfl (vin (a := 2) (by decide) (by decide) (by decide)) dX0_layDown_21 (fun H locs hP hD hS => ?_)
  have hP : va_P D vwCl [(h0, .inr (0, [.ref h1])), (h1, .inl (c 1, 6, .inl (upd (upd (upd (fun _ => 0) 0 x_3) 1 x_6) 2 x_9)))] H := hP
  have hD : va_D A [(h0, .inr (0, [.ref h1])), (h1, .inl (c 1, 6, .inl (upd (upd (upd (fun _ => 0) 0 x_3) 1 x_6) 2 x_9)))] := hD
  refine lv_iinc (v := 3) (lv' := [(2, .int 3), (0, .ref h0), (1, .int a1)]) hx hb dX0_layDown_22 hl (k := 0) rfl (by decide) (by decide) rfl (fun ls hl => ?_)
  refine lv_goto (tgt := 2) hx hb dX0_layDown_25 (by decide) ?_
  refine lv_iload_n hx hb dX0_layDown_2 rfl (lv_at hl 0 rfl) ?_
  refine lv_bipush (v := 6) hx hb dX0_layDown_3 (by decide) ?_
  refine iicmp_geF (a := 3) (b := 6) (tgt := 28) hx hb (by decide) (by decide) dX0_layDown_5 (by decide) (by decide) ?_
  refine lv_aload_n hx hb dX0_layDown_8 rfl (lv_at hl 1 rfl) ?_
  refine va_get (D := D) (ci := 0) (v := .ref h1) (C := RX0) (T := TX0) (N := 1) hx hb hts (fun _ h => List.mem_cons_of_mem _ (List.mem_append_right _ h)) hown hK hP 0 rfl rfl 0 (by decide) (hts (.fieldLink RX0 9 "CrownTable$Cloth" "counters" "[I") (mem_i 1 rfl)) (fun _ h9 => h9) rfl dX0_layDown_9 ?_
  refine lv_iload_n hx hb dX0_layDown_12 rfl (lv_at hl 0 rfl) ?_
  refine lv_dup2_11 hx hb dX0_layDown_13 rfl rfl ?_
  refine va_iald hx hb hK hP 1 1 rfl rfl (vin (a := 3) (by decide) (by decide) (by decide)) dX0_layDown_14 ?_
  refine lk_i (y := 0) rfl ?_
  refine lv_iload_n hx hb dX0_layDown_15 rfl (lv_at hl 2 rfl) ?_
  refine lv_iload_n hx hb dX0_layDown_16 rfl (lv_at hl 0 rfl) ?_
  have hPc := hP.sub (ws' := []) [] rfl
  have hDc := hD.sub (ws' := []) [] (by decide) rfl
  have hFc := va_free (wc := []) hD hS hA [] rfl
  refine va_csi (va_runS (As := [.int a1, .int 3]) (rest := [.int 0, .int 3, .ref h1]) ⟨hx, hb, hml, hown, hts⟩ (c_X0_notches_3 l D c ts H.size a1 i_a1 hi_a1 ⟨by omega, by omega⟩) (cwS 2 hts gX0_layDown_X0_notches rfl rfl rfl ⟨rfl, hdX0_notches⟩ ⟨(show 0 + 1 ≤ 1 by decide), (show 8 + (2 + 11) + 0 ≤ 21 by decide)⟩) ⟨Pre0.blind, Pre0.at hPc hDc hAm hSt hS hFc⟩ rfl rfl hl.1 rfl (lv_room (Nat.le_of_ble_eq_true rfl)) dX0_layDown_17 ⟨(show 0 + 0 ≤ 0 by decide), (show 0 + 0 ≤ 0 by decide)⟩) (fun r_11 hw_10 => ?_)
  refine lv_iadd hx hb dX0_layDown_20 ?_
  refine lv_topi (fun x_12 ex_12 => ?_)
  have tx_12 : x_12.toInt = (0 + ((i_a1 / 4800) % 5)) := by rw [ex_12]; exact add_ti (a := 0) (b := ((i_a1 / 4800) % 5)) (by decide) hw_10 (by omega) (by omega)
  refine va_iast hx hb hK hP hD hS 1 1 rfl rfl (vin (a := 3) (by decide) (by decide) (by decide)) dX0_layDown_21 (fun H locs hP hD hS => ?_)
  have hP : va_P D vwCl [(h0, .inr (0, [.ref h1])), (h1, .inl (c 1, 6, .inl (upd (upd (upd (upd (fun _ => 0) 0 x_3) 1 x_6) 2 x_9) 3 x_12)))] H := hP
  have hD : va_D A [(h0, .inr (0, [.ref h1])), (h1, .inl (c 1, 6, .inl (upd (upd (upd (upd (fun _ => 0) 0 x_3) 1 x_6) 2 x_9) 3 x_12)))] := hD
  refine lv_iinc (v := 4) (lv' := [(2, .int 4), (0, .ref h0), (1, .int a1)]) hx hb dX0_layDown_22 hl (k := 0) rfl (by decide) (by decide) rfl (fun ls hl => ?_)
  refine lv_goto (tgt := 2) hx hb dX0_layDown_25 (by decide) ?_
  refine lv_iload_n hx hb dX0_layDown_2 rfl (lv_at hl 0 rfl) ?_
  refine lv_bipush (v := 6) hx hb dX0_layDown_3 (by decide) ?_
  refine iicmp_geF (a := 4) (b := 6) (tgt := 28) hx hb (by decide) (by decide) dX0_layDown_5 (by decide) (by decide) ?_
  refine lv_aload_n hx hb dX0_layDown_8 rfl (lv_at hl 1 rfl) ?_
  refine va_get (D := D) (ci := 0) (v := .ref h1) (C := RX0) (T := TX0) (N := 1) hx hb hts (fun _ h => List.mem_cons_of_mem _ (List.mem_append_right _ h)) hown hK hP 0 rfl rfl 0 (by decide) (hts (.fieldLink RX0 9 "CrownTable$Cloth" "counters" "[I") (mem_i 1 rfl)) (fun _ h9 => h9) rfl dX0_layDown_9 ?_
  refine lv_iload_n hx hb dX0_layDown_12 rfl (lv_at hl 0 rfl) ?_
  refine lv_dup2_11 hx hb dX0_layDown_13 rfl rfl ?_
  refine va_iald hx hb hK hP 1 1 rfl rfl (vin (a := 4) (by decide) (by decide) (by decide)) dX0_layDown_14 ?_
  refine lk_i (y := 0) rfl ?_
  refine lv_iload_n hx hb dX0_layDown_15 rfl (lv_at hl 2 rfl) ?_
  refine lv_iload_n hx hb dX0_layDown_16 rfl (lv_at hl 0 rfl) ?_
  have hPc := hP.sub (ws' := []) [] rfl
  have hDc := hD.sub (ws' := []) [] (by decide) rfl
  have hFc := va_free (wc := []) hD hS hA [] rfl
  refine va_csi (va_runS (As := [.int a1, .int 4]) (rest := [.int 0, .int 4, .ref h1]) ⟨hx, hb, hml, hown, hts⟩ (c_X0_notches_4 l D c ts H.size a1 i_a1 hi_a1 ⟨by omega, by omega⟩) (cwS 2 hts gX0_layDown_X0_notches rfl rfl rfl ⟨rfl, hdX0_notches⟩ ⟨(show 0 + 1 ≤ 1 by decide), (show 8 + (2 + 11) + 0 ≤ 21 by decide)⟩) ⟨Pre0.blind, Pre0.at hPc hDc hAm hSt hS hFc⟩ rfl rfl hl.1 rfl (lv_room (Nat.le_of_ble_eq_true rfl)) dX0_layDown_17 ⟨(show 0 + 0 ≤ 0 by decide), (show 0 + 0 ≤ 0 by decide)⟩) (fun r_14 hw_13 => ?_)
  refine lv_iadd hx hb dX0_layDown_20 ?_
  refine lv_topi (fun x_15 ex_15 => ?_)
  have tx_15 : x_15.toInt = (0 + ((i_a1 / 24000) % 10)) := by rw [ex_15]; exact add_ti (a := 0) (b := ((i_a1 / 24000) % 10)) (by decide) hw_13 (by omega) (by omega)
  refine va_iast hx hb hK hP hD hS 1 1 rfl rfl (vin (a := 4) (by decide) (by decide) (by decide)) dX0_layDown_21 (fun H locs hP hD hS => ?_)
  have hP : va_P D vwCl [(h0, .inr (0, [.ref h1])), (h1, .inl (c 1, 6, .inl (upd (upd (upd (upd (upd (fun _ => 0) 0 x_3) 1 x_6) 2 x_9) 3 x_12) 4 x_15)))] H := hP
  have hD : va_D A [(h0, .inr (0, [.ref h1])), (h1, .inl (c 1, 6, .inl (upd (upd (upd (upd (upd (fun _ => 0) 0 x_3) 1 x_6) 2 x_9) 3 x_12) 4 x_15)))] := hD
  refine lv_iinc (v := 5) (lv' := [(2, .int 5), (0, .ref h0), (1, .int a1)]) hx hb dX0_layDown_22 hl (k := 0) rfl (by decide) (by decide) rfl (fun ls hl => ?_)
  refine lv_goto (tgt := 2) hx hb dX0_layDown_25 (by decide) ?_
  refine lv_iload_n hx hb dX0_layDown_2 rfl (lv_at hl 0 rfl) ?_
  refine lv_bipush (v := 6) hx hb dX0_layDown_3 (by decide) ?_
  refine iicmp_geF (a := 5) (b := 6) (tgt := 28) hx hb (by decide) (by decide) dX0_layDown_5 (by decide) (by decide) ?_
  refine lv_aload_n hx hb dX0_layDown_8 rfl (lv_at hl 1 rfl) ?_
  refine va_get (D := D) (ci := 0) (v := .ref h1) (C := RX0) (T := TX0) (N := 1) hx hb hts (fun _ h => List.mem_cons_of_mem _ (List.mem_append_right _ h)) hown hK hP 0 rfl rfl 0 (by decide) (hts (.fieldLink RX0 9 "CrownTable$Cloth" "counters" "[I") (mem_i 1 rfl)) (fun _ h9 => h9) rfl dX0_layDown_9 ?_
  refine lv_iload_n hx hb dX0_layDown_12 rfl (lv_at hl 0 rfl) ?_
  refine lv_dup2_11 hx hb dX0_layDown_13 rfl rfl ?_
  refine va_iald hx hb hK hP 1 1 rfl rfl (vin (a := 5) (by decide) (by decide) (by decide)) dX0_layDown_14 ?_
  refine lk_i (y := 0) rfl ?_
  refine lv_iload_n hx hb dX0_layDown_15 rfl (lv_at hl 2 rfl) ?_
  refine lv_iload_n hx hb dX0_layDown_16 rfl (lv_at hl 0 rfl) ?_
  have hPc := hP.sub (ws' := []) [] rfl
  have hDc := hD.sub (ws' := []) [] (by decide) rfl
  have hFc := va_free (wc := []) hD hS hA [] rfl
  refine va_csi (va_runS (As := [.int a1, .int 5]) (rest := [.int 0, .int 5, .ref h1]) ⟨hx, hb, hml, hown, hts⟩ (c_X0_notches_5 l D c ts H.size a1 i_a1 hi_a1 ⟨by omega, by omega⟩) (cwS 2 hts gX0_layDown_X0_notches rfl rfl rfl ⟨rfl, hdX0_notches⟩ ⟨(show 0 + 1 ≤ 1 by decide), (show 8 + (2 + 11) + 0 ≤ 21 by decide)⟩) ⟨Pre0.blind, Pre0.at hPc hDc hAm hSt hS hFc⟩ rfl rfl hl.1 rfl (lv_room (Nat.le_of_ble_eq_true rfl)) dX0_layDown_17 ⟨(show 0 + 0 ≤ 0 by decide), (show 0 + 0 ≤ 0 by decide)⟩) (fun r_17 hw_16 => ?_)
  refine lv_iadd hx hb dX0_layDown_20 ?_
  refine lv_topi (fun x_18 ex_18 => ?_)
  have tx_18 : x_18.toInt = (0 + (i_a1 / 240000)) := by rw [ex_18]; exact add_ti (a := 0) (b := (i_a1 / 240000)) (by decide) hw_16 (by omega) (by omega)
  refine va_iast hx hb hK hP hD hS 1 1 rfl rfl (vin (a := 5) (by decide) (by decide) (by decide)) dX0_layDown_21 (fun H locs hP hD hS => ?_)
  have hP : va_P D vwCl [(h0, .inr (0, [.ref h1])), (h1, .inl (c 1, 6, .inl (upd (upd (upd (upd (upd (upd (fun _ => 0) 0 x_3) 1 x_6) 2 x_9) 3 x_12) 4 x_15) 5 x_18)))] H := hP
  have hD : va_D A [(h0, .inr (0, [.ref h1])), (h1, .inl (c 1, 6, .inl (upd (upd (upd (upd (upd (upd (fun _ => 0) 0 x_3) 1 x_6) 2 x_9) 3 x_12) 4 x_15) 5 x_18)))] := hD
  refine lv_iinc (v := 6) (lv' := [(2, .int 6), (0, .ref h0), (1, .int a1)]) hx hb dX0_layDown_22 hl (k := 0) rfl (by decide) (by decide) rfl (fun ls hl => ?_)
  refine lv_goto (tgt := 2) hx hb dX0_layDown_25 (by decide) ?_
  refine lv_iload_n hx hb dX0_layDown_2 rfl (lv_at hl 0 rfl) ?_
  refine lv_bipush (v := 6) hx hb dX0_layDown_3 (by decide) ?_
  refine iicmp_geT (a := 6) (b := 6) (tgt := 28) hx hb (by decide) (by decide) dX0_layDown_5 (by decide) (by decide) ?_
  refine lv_iconst (v := 0) hx hb dX0_layDown_28 (by decide) ?_
  refine lv_istore_n (lv' := [(2, .int 0), (0, .ref h0), (1, .int a1)]) hx hb dX0_layDown_29 rfl hl (by decide) rfl (fun ls hl => ?_)
  refine lv_iconst (v := 0) hx hb dX0_layDown_30 (by decide) ?_
  refine lv_istore_n (lv' := [(3, .int 0), (2, .int 0), (0, .ref h0), (1, .int a1)]) hx hb dX0_layDown_31 rfl hl (by decide) rfl (fun ls hl => ?_)
  refine lv_iload_n hx hb dX0_layDown_32 rfl (lv_at hl 0 rfl) ?_
  refine va_gets hx hb hSt.2.2.1 hS hown (hts (.fieldLink RX0 23 "CrownTable$Cloth" "OF_THE_NEXT" "[I") (mem_i 2 rfl)) (fun _ h9 => h9) dX0_layDown_33 ?_
  refine va_tlen (v := 5) hx hb hSt.2.2.2 hS (by decide) dX0_layDown_36 ?_
  refine iicmp_geF (a := 0) (b := 5) (tgt := 89) hx hb (by decide) (by decide) dX0_layDown_37 (by decide) (by decide) ?_
  refine lv_aload_n hx hb dX0_layDown_40 rfl (lv_at hl 2 rfl) ?_
  refine va_get (D := D) (ci := 0) (v := .ref h1) (C := RX0) (T := TX0) (N := 1) hx hb hts (fun _ h => List.mem_cons_of_mem _ (List.mem_append_right _ h)) hown hK hP 0 rfl rfl 0 (by decide) (hts (.fieldLink RX0 9 "CrownTable$Cloth" "counters" "[I") (mem_i 1 rfl)) (fun _ h9 => h9) rfl dX0_layDown_41 ?_
  refine lv_iload_n hx hb dX0_layDown_44 rfl (lv_at hl 0 rfl) ?_
  refine va_iald hx hb hK hP 1 1 rfl rfl (vin (a := 0) (by decide) (by decide) (by decide)) dX0_layDown_45 ?_
  refine lk_i (y := x_3) rfl ?_
  refine va_gets hx hb hSt.2.2.1 hS hown (hts (.fieldLink RX0 23 "CrownTable$Cloth" "OF_THE_NEXT" "[I") (mem_i 2 rfl)) (fun _ h9 => h9) dX0_layDown_46 ?_
  refine lv_iload_n hx hb dX0_layDown_49 rfl (lv_at hl 0 rfl) ?_
  refine va_ti (v := .int 12) hx hb hSt.2.2.2 hS (vin (a := 0) (by decide) (by decide) (by decide)) rfl dX0_layDown_50 ?_
  refine iicmp_ltT (a := (0 + (i_a1 % 12))) (b := 12) (tgt := 83) hx hb tx_3 (by decide) dX0_layDown_51 (by decide) (by omega) ?_
  refine lv_iinc (v := 1) (lv' := [(3, .int 1), (2, .int 0), (0, .ref h0), (1, .int a1)]) hx hb dX0_layDown_83 hl (k := 0) rfl (by decide) (by decide) rfl (fun ls hl => ?_)
  refine lv_goto (tgt := 32) hx hb dX0_layDown_86 (by decide) ?_
  refine lv_iload_n hx hb dX0_layDown_32 rfl (lv_at hl 0 rfl) ?_
  refine va_gets hx hb hSt.2.2.1 hS hown (hts (.fieldLink RX0 23 "CrownTable$Cloth" "OF_THE_NEXT" "[I") (mem_i 2 rfl)) (fun _ h9 => h9) dX0_layDown_33 ?_
  refine va_tlen (v := 5) hx hb hSt.2.2.2 hS (by decide) dX0_layDown_36 ?_
  refine iicmp_geF (a := 1) (b := 5) (tgt := 89) hx hb (by decide) (by decide) dX0_layDown_37 (by decide) (by decide) ?_
  refine lv_aload_n hx hb dX0_layDown_40 rfl (lv_at hl 2 rfl) ?_
  refine va_get (D := D) (ci := 0) (v := .ref h1) (C := RX0) (T := TX0) (N := 1) hx hb hts (fun _ h => List.mem_cons_of_mem _ (List.mem_append_right _ h)) hown hK hP 0 rfl rfl 0 (by decide) (hts (.fieldLink RX0 9 "CrownTable$Cloth" "counters" "[I") (mem_i 1 rfl)) (fun _ h9 => h9) rfl dX0_layDown_41 ?_
  refine lv_iload_n hx hb dX0_layDown_44 rfl (lv_at hl 0 rfl) ?_
  refine va_iald hx hb hK hP 1 1 rfl rfl (vin (a := 1) (by decide) (by decide) (by decide)) dX0_layDown_45 ?_
  refine lk_i (y := x_6) rfl ?_
  refine va_gets hx hb hSt.2.2.1 hS hown (hts (.fieldLink RX0 23 "CrownTable$Cloth" "OF_THE_NEXT" "[I") (mem_i 2 rfl)) (fun _ h9 => h9) dX0_layDown_46 ?_
  refine lv_iload_n hx hb dX0_layDown_49 rfl (lv_at hl 0 rfl) ?_
  refine va_ti (v := .int 20) hx hb hSt.2.2.2 hS (vin (a := 1) (by decide) (by decide) (by decide)) rfl dX0_layDown_50 ?_
  refine iicmp_ltT (a := (0 + ((i_a1 / 12) % 20))) (b := 20) (tgt := 83) hx hb tx_6 (by decide) dX0_layDown_51 (by decide) (by omega) ?_
  refine lv_iinc (v := 2) (lv' := [(3, .int 2), (2, .int 0), (0, .ref h0), (1, .int a1)]) hx hb dX0_layDown_83 hl (k := 0) rfl (by decide) (by decide) rfl (fun ls hl => ?_)
  refine lv_goto (tgt := 32) hx hb dX0_layDown_86 (by decide) ?_
  refine lv_iload_n hx hb dX0_layDown_32 rfl (lv_at hl 0 rfl) ?_
  refine va_gets hx hb hSt.2.2.1 hS hown (hts (.fieldLink RX0 23 "CrownTable$Cloth" "OF_THE_NEXT" "[I") (mem_i 2 rfl)) (fun _ h9 => h9) dX0_layDown_33 ?_
  refine va_tlen (v := 5) hx hb hSt.2.2.2 hS (by decide) dX0_layDown_36 ?_
  refine iicmp_geF (a := 2) (b := 5) (tgt := 89) hx hb (by decide) (by decide) dX0_layDown_37 (by decide) (by decide) ?_
  refine lv_aload_n hx hb dX0_layDown_40 rfl (lv_at hl 2 rfl) ?_
  refine va_get (D := D) (ci := 0) (v := .ref h1) (C := RX0) (T := TX0) (N := 1) hx hb hts (fun _ h => List.mem_cons_of_mem _ (List.mem_append_right _ h)) hown hK hP 0 rfl rfl 0 (by decide) (hts (.fieldLink RX0 9 "CrownTable$Cloth" "counters" "[I") (mem_i 1 rfl)) (fun _ h9 => h9) rfl dX0_layDown_41 ?_
  refine lv_iload_n hx hb dX0_layDown_44 rfl (lv_at hl 0 rfl) ?_
  refine va_iald hx hb hK hP 1 1 rfl rfl (vin (a := 2) (by decide) (by decide) (by decide)) dX0_layDown_45 ?_
  refine lk_i (y := x_9) rfl ?_
  refine va_gets hx hb hSt.2.2.1 hS hown (hts (.fieldLink RX0 23 "CrownTable$Cloth" "OF_THE_NEXT" "[I") (mem_i 2 rfl)) (fun _ h9 => h9) dX0_layDown_46 ?_
  refine lv_iload_n hx hb dX0_layDown_49 rfl (lv_at hl 0 rfl) ?_
  refine va_ti (v := .int 20) hx hb hSt.2.2.2 hS (vin (a := 2) (by decide) (by decide) (by decide)) rfl dX0_layDown_50 ?_
  refine iicmp_ltT (a := (0 + ((i_a1 / 240) % 20))) (b := 20) (tgt := 83) hx hb tx_9 (by decide) dX0_layDown_51 (by decide) (by omega) ?_
  refine lv_iinc (v := 3) (lv' := [(3, .int 3), (2, .int 0), (0, .ref h0), (1, .int a1)]) hx hb dX0_layDown_83 hl (k := 0) rfl (by decide) (by decide) rfl (fun ls hl => ?_)
  refine lv_goto (tgt := 32) hx hb dX0_layDown_86 (by decide) ?_
  refine lv_iload_n hx hb dX0_layDown_32 rfl (lv_at hl 0 rfl) ?_
  refine va_gets hx hb hSt.2.2.1 hS hown (hts (.fieldLink RX0 23 "CrownTable$Cloth" "OF_THE_NEXT" "[I") (mem_i 2 rfl)) (fun _ h9 => h9) dX0_layDown_33 ?_
  refine va_tlen (v := 5) hx hb hSt.2.2.2 hS (by decide) dX0_layDown_36 ?_
  refine iicmp_geF (a := 3) (b := 5) (tgt := 89) hx hb (by decide) (by decide) dX0_layDown_37 (by decide) (by decide) ?_
  refine lv_aload_n hx hb dX0_layDown_40 rfl (lv_at hl 2 rfl) ?_
  refine va_get (D := D) (ci := 0) (v := .ref h1) (C := RX0) (T := TX0) (N := 1) hx hb hts (fun _ h => List.mem_cons_of_mem _ (List.mem_append_right _ h)) hown hK hP 0 rfl rfl 0 (by decide) (hts (.fieldLink RX0 9 "CrownTable$Cloth" "counters" "[I") (mem_i 1 rfl)) (fun _ h9 => h9) rfl dX0_layDown_41 ?_
  refine lv_iload_n hx hb dX0_layDown_44 rfl (lv_at hl 0 rfl) ?_
  refine va_iald hx hb hK hP 1 1 rfl rfl (vin (a := 3) (by decide) (by decide) (by decide)) dX0_layDown_45 ?_
  refine lk_i (y := x_12) rfl ?_
  refine va_gets hx hb hSt.2.2.1 hS hown (hts (.fieldLink RX0 23 "CrownTable$Cloth" "OF_THE_NEXT" "[I") (mem_i 2 rfl)) (fun _ h9 => h9) dX0_layDown_46 ?_
  refine lv_iload_n hx hb dX0_layDown_49 rfl (lv_at hl 0 rfl) ?_
  refine va_ti (v := .int 5) hx hb hSt.2.2.2 hS (vin (a := 3) (by decide) (by decide) (by decide)) rfl dX0_layDown_50 ?_
  refine iicmp_ltT (a := (0 + ((i_a1 / 4800) % 5))) (b := 5) (tgt := 83) hx hb tx_12 (by decide) dX0_layDown_51 (by decide) (by omega) ?_
  refine lv_iinc (v := 4) (lv' := [(3, .int 4), (2, .int 0), (0, .ref h0), (1, .int a1)]) hx hb dX0_layDown_83 hl (k := 0) rfl (by decide) (by decide) rfl (fun ls hl => ?_)
  refine lv_goto (tgt := 32) hx hb dX0_layDown_86 (by decide) ?_
  refine lv_iload_n hx hb dX0_layDown_32 rfl (lv_at hl 0 rfl) ?_
  refine va_gets hx hb hSt.2.2.1 hS hown (hts (.fieldLink RX0 23 "CrownTable$Cloth" "OF_THE_NEXT" "[I") (mem_i 2 rfl)) (fun _ h9 => h9) dX0_layDown_33 ?_
  refine va_tlen (v := 5) hx hb hSt.2.2.2 hS (by decide) dX0_layDown_36 ?_
  refine iicmp_geF (a := 4) (b := 5) (tgt := 89) hx hb (by decide) (by decide) dX0_layDown_37 (by decide) (by decide) ?_
  refine lv_aload_n hx hb dX0_layDown_40 rfl (lv_at hl 2 rfl) ?_
  refine va_get (D := D) (ci := 0) (v := .ref h1) (C := RX0) (T := TX0) (N := 1) hx hb hts (fun _ h => List.mem_cons_of_mem _ (List.mem_append_right _ h)) hown hK hP 0 rfl rfl 0 (by decide) (hts (.fieldLink RX0 9 "CrownTable$Cloth" "counters" "[I") (mem_i 1 rfl)) (fun _ h9 => h9) rfl dX0_layDown_41 ?_
  refine lv_iload_n hx hb dX0_layDown_44 rfl (lv_at hl 0 rfl) ?_
  refine va_iald hx hb hK hP 1 1 rfl rfl (vin (a := 4) (by decide) (by decide) (by decide)) dX0_layDown_45 ?_
  refine lk_i (y := x_15) rfl ?_
  refine va_gets hx hb hSt.2.2.1 hS hown (hts (.fieldLink RX0 23 "CrownTable$Cloth" "OF_THE_NEXT" "[I") (mem_i 2 rfl)) (fun _ h9 => h9) dX0_layDown_46 ?_
  refine lv_iload_n hx hb dX0_layDown_49 rfl (lv_at hl 0 rfl) ?_
  refine va_ti (v := .int 10) hx hb hSt.2.2.2 hS (vin (a := 4) (by decide) (by decide) (by decide)) rfl dX0_layDown_50 ?_
  refine iicmp_ltT (a := (0 + ((i_a1 / 24000) % 10))) (b := 10) (tgt := 83) hx hb tx_15 (by decide) dX0_layDown_51 (by decide) (by omega) ?_
  refine lv_iinc (v := 5) (lv' := [(3, .int 5), (2, .int 0), (0, .ref h0), (1, .int a1)]) hx hb dX0_layDown_83 hl (k := 0) rfl (by decide) (by decide) rfl (fun ls hl => ?_)
  refine lv_goto (tgt := 32) hx hb dX0_layDown_86 (by decide) ?_
  refine lv_iload_n hx hb dX0_layDown_32 rfl (lv_at hl 0 rfl) ?_
  refine va_gets hx hb hSt.2.2.1 hS hown (hts (.fieldLink RX0 23 "CrownTable$Cloth" "OF_THE_NEXT" "[I") (mem_i 2 rfl)) (fun _ h9 => h9) dX0_layDown_33 ?_
  refine va_tlen (v := 5) hx hb hSt.2.2.2 hS (by decide) dX0_layDown_36 ?_
  refine iicmp_geT (a := 5) (b := 5) (tgt := 89) hx hb (by decide) (by decide) dX0_layDown_37 (by decide) (by decide) ?_
  refine lv_iload_n hx hb dX0_layDown_89 rfl (lv_at hl 1 rfl) ?_
  refine W.widen (k := 0) (n := 0) (by omega) (by omega) ?_
  exact W.iret (v := 0) hx hb hr (fun t ht hW => ⟨⟨_, (), rfl, rfl, trivial⟩, hS.F ht⟩) hS.2.2 dX0_layDown_90

set_option maxHeartbeats 4000000 in
set_option maxRecDepth 100000 in
theorem c_X6_lay (l : Launch) (D : va_G) (c : Nat → ClassId) (ts : Nat × Nat) (sz : Nat) (q : Nat → Nat) (h0 : Nat) (a1 : Int32) (i_a1 : Int) (hi_a1 : a1.toInt = i_a1) : Met l yX6_lay wsX6_lay ({ frames := 2, cells := 0, slots := 0, locals := 44 }) (va_Pc [.ref h0, .int a1] (Pre0 D c ts [(h0, .inr (6, o6 q 0 0 0 0)), (q 25, .inr (0, [.ref (q 26)])), (q 26, .inl (c 1, 6, .inl (fun _ => 0)))] sz)) (va_Qi (fun (r : Int32) (u : Unit) => ((1 ≤ i_a1 ∧ i_a1 ≤ 1000000) ∧ r = 0) ∨ ((¬ (1 ≤ i_a1 ∧ i_a1 ≤ 1000000)) ∧ r = (-1))) (fun _ _ => True) (va_A [(h0, .inr (6, o6 q 0 0 0 0)), (q 25, .inr (0, [.ref (q 26)])), (q 26, .inl (c 1, 6, .inl (fun _ => 0)))] sz)) 0 0 (va_A [(h0, .inr (6, o6 q 0 0 0 0)), (q 25, .inr (0, [.ref (q 26)])), (q 26, .inl (c 1, 6, .inl (fun _ => 0)))] sz) := by
  refine Met.ofW (cc := cX6_lay) (maxL := 2) (ret := (some .int)) (by decide) rfl ?_
  intro p e s m args below meth cd s₁ B hml hv
  obtain ⟨rfl, hsz, hP, hD0, hAm, hSt⟩ := hv
  have hx := B.exec
  have hb := B.bytes
  have hr := B.returns
  have hts := atoms_spec (ws := wsX6_lay) B.pre
  have hown : s.vm.findClass RX6 = some m.cls := findClass_of_methodNamed B.named
  have hlocks := B.notSynchronized
  subst hsz
  have hK := hAm.1
  have hD := hD0.self (sz := s.heap.size)
  generalize hAe : va_A [(h0, .inr (6, o6 q 0 0 0 0)), (q 25, .inr (0, [.ref (q 26)])), (q 26, .inl (c 1, 6, .inl (fun _ => 0)))] s.heap.size = A at hD hSt ⊢
  have hA : ∀ q : Nat, s.heap.size ≤ q → A q := fun q h => by rw [← hAe]; exact Or.inr h
  have hS : va_S A s.heap s.heap [] := va_S.rf
  clear hD0 hAe
  have hl := lv_entry ([.ref h0, .int a1]) (n := 2) (Nat.le_of_ble_eq_true rfl)
  rw [lg_entry_eq]
  generalize (lg_sl ([.ref h0, .int a1]) ++ List.replicate (2 - (lg_sl ([.ref h0, .int a1])).length) Slot.unset).toArray = ls at hl ⊢
  have hl : lv_has ls 2 [(0, .ref h0), (1, .int a1)] := hl
  refine lv_iload_n hx hb dX6_lay_0 rfl (lv_at hl 1 rfl) ?_
  have hPc := hP.sub (ws' := []) [] rfl
  have hDc := hD.sub (ws' := []) [] (by decide) rfl
  have hFc := va_free (wc := []) hD hS hA [] rfl
  refine va_csi (va_runS (As := [.int a1]) (rest := []) ⟨hx, hb, hml, hown, hts⟩ (c_X6_isSum l D c ts s.heap.size a1 i_a1 hi_a1) (cwS 1 hts gX6_lay_X6_isSum rfl rfl rfl ⟨rfl, hdX6_isSum⟩ ⟨(show 0 + 1 ≤ 2 by decide), (show 8 + (1 + 11) + 0 ≤ 44 by decide)⟩) ⟨Pre0.blind, Pre0.at hPc hDc hAm hSt hS hFc⟩ rfl rfl hl.1 rfl (lv_room (Nat.le_of_ble_eq_true rfl)) dX6_lay_1 ⟨(show 0 + 0 ≤ 0 by decide), (show 0 + 0 ≤ 0 by decide)⟩) (fun r_2 hw_1 => ?_)
  rcases hw_1 with ⟨hw_1, rfl⟩ | ⟨hw_1, rfl⟩
  · skip
    refine iif_eqF (a := 1) (tgt := 18) hx hb (by decide) dX6_lay_4 (by decide) (by decide) ?_
    refine lv_aload_n hx hb dX6_lay_7 rfl (lv_at hl 0 rfl) ?_
    refine va_get (D := D) (ci := 6) (v := .ref (q 25)) (C := RX6) (T := TX6) (N := 18) hx hb hts (fun _ h => List.mem_cons_of_mem _ (List.mem_append_left _ (List.mem_append_right _ h))) hown hK hP 0 rfl rfl 14 (by decide) (hts (.fieldLink RX6 77 "CrownTable" "table" "LCrownTable$Cloth;") (mem_i 1 rfl)) (fun _ h9 => h9) rfl dX6_lay_8 ?_
    refine lv_iload_n hx hb dX6_lay_11 rfl (lv_at hl 1 rfl) ?_
    have hPc := hP.sub (ws' := [(q 25, .inr (0, [.ref (q 26)])), (q 26, .inl (c 1, 6, .inl (fun _ => 0)))]) [1, 2] rfl
    have hDc := hD.sub (ws' := [(q 25, .inr (0, [.ref (q 26)])), (q 26, .inl (c 1, 6, .inl (fun _ => 0)))]) [1, 2] (by decide) rfl
    have hFc := va_free (wc := [(q 25, .inr (0, [.ref (q 26)])), (q 26, .inl (c 1, 6, .inl (fun _ => 0)))]) hD hS hA [1, 2] rfl
    refine va_calli (va_runVN (As := [.int a1]) (rest := []) ⟨hx, hb, hml, hown, hts⟩ (c_X0_layDown l D c ts s.heap.size (q 25) (q 26) a1 i_a1 hi_a1 ⟨by omega, by omega⟩) ⟨va_cnB 1 hts gX6_lay_X0_layDown_n239 rfl rfl rfl (show va_Nw (.methodLinkNest RX6 239 yX0_layDown RX6) _ from hAm.2.1.1 (RX6, 239, yX0_layDown, RX6) (mem_i 23 rfl)) (hts (.initialized RX0) (mem_i 8 rfl)) hdX0_layDown ⟨(show 1 + 1 ≤ 2 by decide), (show 8 + (4 + 11) + 21 ≤ 44 by decide)⟩, (hts (.instanceMethod yX0_layDown) (mem_i 7 rfl)), (hts (.selects RX0 yX0_layDown yX0_layDown) (mem_i 9 rfl))⟩ ⟨Pre0.blind, va_recv hK hPc (ci := 0) (q0 := 0) rfl rfl, Pre0.at hPc hDc hAm hSt hS hFc⟩ rfl rfl hl.1 rfl (lv_room (Nat.le_of_ble_eq_true rfl)) dX6_lay_12 ⟨(show 0 + 0 ≤ 0 by decide), (show 0 + 0 ≤ 0 by decide)⟩) hS (fun q _ h => hFc q h) hFc (fun r_4 u_5 t1 H locs ht hvm hw_3 hB hz1 hk1 hS => ?_)
    obtain ⟨hP, hD⟩ := va_join (wr := [(h0, .inr (6, o6 q 0 0 0 0))]) (w1 := []) hP hD [1, 2] [0] rfl rfl (by decide) (by decide) hk1 hFc (fun k q h => by simp at h) ⟨fun i j p q h => by simp at h, fun k q h => by simp at h⟩
    have hP : va_P D vwCl [(h0, .inr (6, o6 q 0 0 0 0))] H := hP
    have hD : va_D A [(h0, .inr (6, o6 q 0 0 0 0))] := hD
    refine W.widen (k := 0) (n := 0) (by omega) (by omega) ?_
    refine lk_i (y := 0) hw_3 ?_
    refine lv_goto (tgt := 19) hx hb dX6_lay_15 (by decide) ?_
    refine W.widen (k := 0) (n := 0) (by omega) (by omega) ?_
    exact W.iret (v := 0) hx hb hr (fun t ht hW => ⟨⟨_, (), rfl, Or.inl ⟨by omega, rfl⟩, trivial⟩, hS.F ht⟩) hS.2.2 dX6_lay_19
  · skip
    refine iif_eqT (a := 0) (tgt := 18) hx hb (by decide) dX6_lay_4 (by decide) (by decide) ?_
    refine lv_iconst (v := (-1)) hx hb dX6_lay_18 (by decide) ?_
    refine W.widen (k := 0) (n := 0) (by omega) (by omega) ?_
    exact W.iret (v := (-1)) hx hb hr (fun t ht hW => ⟨⟨_, (), rfl, Or.inr (⟨by omega, rfl⟩), trivial⟩, hS.F ht⟩) hS.2.2 dX6_lay_19

set_option maxHeartbeats 4000000 in
set_option maxRecDepth 100000 in
theorem c_X7_notch (l : Launch) (D : va_G) (c : Nat → ClassId) (ts : Nat × Nat) (sz : Nat)  (a0 : Int32) (i_a0 : Int) (hi_a0 : a0.toInt = i_a0) (hp0 : 1 ≤ i_a0 ∧ i_a0 ≤ 1000000) : Met l yX7_notch wsX7_notch ({ frames := 1, cells := 0, slots := 0, locals := 20 }) (va_Pc [.int a0, .int 0] (Pre0 D c ts [] sz)) (vp_Si (fun r : Int32 => r.toInt = ((i_a0 % 12) / 1))) 0 0 (fun _ => False) := by
  refine Met.ofW (cc := cX7_notch) (maxL := 2) (ret := (some .int)) (by decide) rfl ?_
  intro p e s m args below meth cd s₁ B hml hv
  obtain ⟨rfl, hsz, hP, hD0, hAm, hSt⟩ := hv
  have hx := B.exec
  have hb := B.bytes
  have hr := B.returns
  have hts := atoms_spec (ws := wsX7_notch) B.pre
  have hown : s.vm.findClass RX7 = some m.cls := findClass_of_methodNamed B.named
  have hlocks := B.notSynchronized
  subst hsz
  have hK := hAm.1
  have hD := hD0.self (sz := s.heap.size)
  generalize hAe : va_A [] s.heap.size = A at hD hSt
  have hA : ∀ q : Nat, s.heap.size ≤ q → A q := fun q h => by rw [← hAe]; exact Or.inr h
  have hS : va_S A s.heap s.heap [] := va_S.rf
  clear hD0 hAe
  have hl := lv_entry ([.int a0, .int 0]) (n := 2) (Nat.le_of_ble_eq_true rfl)
  rw [lg_entry_eq]
  generalize (lg_sl ([.int a0, .int 0]) ++ List.replicate (2 - (lg_sl ([.int a0, .int 0])).length) Slot.unset).toArray = ls at hl ⊢
  have hl : lv_has ls 2 [(0, .int a0), (1, .int 0)] := hl
  refine lv_iload_n hx hb dX7_notch_0 rfl (lv_at hl 1 rfl) ?_
  refine lv_iconst (v := 5) hx hb dX7_notch_1 (by decide) ?_
  refine iicmp_neT (a := 0) (b := 5) (tgt := 13) hx hb (by decide) (by decide) dX7_notch_2 (by decide) (by decide) ?_
  refine lv_iload_n hx hb dX7_notch_13 rfl (lv_at hl 0 rfl) ?_
  refine lv_iload_n hx hb dX7_notch_14 rfl (lv_at hl 1 rfl) ?_
  refine lv_iconst (v := 1) hx hb dX7_notch_15 (by decide) ?_
  refine lv_iadd hx hb dX7_notch_16 ?_
  refine lk_i (y := 1) (by decide) ?_
  have hPc := hP.sub (ws' := []) [] rfl
  have hDc := hD.sub (ws' := []) [] (by decide) rfl
  have hFc := va_free (wc := []) hD hS hA [] rfl
  refine va_csi (va_runS (As := [.int 1]) (rest := [.int a0]) ⟨hx, hb, hml, hown, hts⟩ (c_X7_worthOf_1 l D c ts s.heap.size) (cwS 1 hts gX7_notch_X7_worthOf rfl rfl rfl ⟨rfl, hdX7_worthOf⟩ ⟨(show 0 + 1 ≤ 1 by decide), (show 8 + (1 + 11) + 0 ≤ 20 by decide)⟩) ⟨Pre0.blind, Pre0.at hPc hDc hAm hSt hS hFc⟩ rfl rfl hl.1 rfl (lv_room (Nat.le_of_ble_eq_true rfl)) dX7_notch_17 ⟨(show 0 + 0 ≤ 0 by decide), (show 0 + 0 ≤ 0 by decide)⟩) (fun r_2 hw_1 => ?_)
  refine lk_i (y := 12) hw_1 ?_
  refine lv_irem hx hb dX7_notch_20 (by decide) ?_
  refine lv_topi (fun x_3 ex_3 => ?_)
  have tx_3 : x_3.toInt = (i_a0 % 12) := by rw [ex_3]; exact rem_ti (a := i_a0) (b := 12) hi_a0 (by decide) (by omega) (by omega) (by decide) (by decide)
  refine lv_iload_n hx hb dX7_notch_21 rfl (lv_at hl 1 rfl) ?_
  have hPc := hP.sub (ws' := []) [] rfl
  have hDc := hD.sub (ws' := []) [] (by decide) rfl
  have hFc := va_free (wc := []) hD hS hA [] rfl
  refine va_csi (va_runS (As := [.int 0]) (rest := [.int x_3]) ⟨hx, hb, hml, hown, hts⟩ (c_X7_worthOf l D c ts s.heap.size) (cwS 1 hts gX7_notch_X7_worthOf rfl rfl rfl ⟨rfl, hdX7_worthOf⟩ ⟨(show 0 + 1 ≤ 1 by decide), (show 8 + (1 + 11) + 0 ≤ 20 by decide)⟩) ⟨Pre0.blind, Pre0.at hPc hDc hAm hSt hS hFc⟩ rfl rfl hl.1 rfl (lv_room (Nat.le_of_ble_eq_true rfl)) dX7_notch_22 ⟨(show 0 + 0 ≤ 0 by decide), (show 0 + 0 ≤ 0 by decide)⟩) (fun r_5 hw_4 => ?_)
  refine lk_i (y := 1) hw_4 ?_
  refine lv_idiv hx hb dX7_notch_25 (by decide) ?_
  refine lv_topi (fun x_6 ex_6 => ?_)
  have tx_6 : x_6.toInt = ((i_a0 % 12) / 1) := by rw [ex_6]; exact div_ti (a := (i_a0 % 12)) (b := 1) tx_3 (by decide) (by omega) (by omega) (by decide) (by decide)
  exact W.iret (v := x_6) hx hb hr (fun t ht hW => ⟨_, rfl, tx_6, ht⟩) (fun _ h => by cases h) dX7_notch_26

set_option maxHeartbeats 4000000 in
set_option maxRecDepth 100000 in
theorem c_X7_notch_1 (l : Launch) (D : va_G) (c : Nat → ClassId) (ts : Nat × Nat) (sz : Nat)  (a0 : Int32) (i_a0 : Int) (hi_a0 : a0.toInt = i_a0) (hp0 : 1 ≤ i_a0 ∧ i_a0 ≤ 1000000) : Met l yX7_notch wsX7_notch ({ frames := 1, cells := 0, slots := 0, locals := 20 }) (va_Pc [.int a0, .int 1] (Pre0 D c ts [] sz)) (vp_Si (fun r : Int32 => r.toInt = ((i_a0 % 240) / 12))) 0 0 (fun _ => False) := by
  refine Met.ofW (cc := cX7_notch) (maxL := 2) (ret := (some .int)) (by decide) rfl ?_
  intro p e s m args below meth cd s₁ B hml hv
  obtain ⟨rfl, hsz, hP, hD0, hAm, hSt⟩ := hv
  have hx := B.exec
  have hb := B.bytes
  have hr := B.returns
  have hts := atoms_spec (ws := wsX7_notch) B.pre
  have hown : s.vm.findClass RX7 = some m.cls := findClass_of_methodNamed B.named
  have hlocks := B.notSynchronized
  subst hsz
  have hK := hAm.1
  have hD := hD0.self (sz := s.heap.size)
  generalize hAe : va_A [] s.heap.size = A at hD hSt
  have hA : ∀ q : Nat, s.heap.size ≤ q → A q := fun q h => by rw [← hAe]; exact Or.inr h
  have hS : va_S A s.heap s.heap [] := va_S.rf
  clear hD0 hAe
  have hl := lv_entry ([.int a0, .int 1]) (n := 2) (Nat.le_of_ble_eq_true rfl)
  rw [lg_entry_eq]
  generalize (lg_sl ([.int a0, .int 1]) ++ List.replicate (2 - (lg_sl ([.int a0, .int 1])).length) Slot.unset).toArray = ls at hl ⊢
  have hl : lv_has ls 2 [(0, .int a0), (1, .int 1)] := hl
  refine lv_iload_n hx hb dX7_notch_0 rfl (lv_at hl 1 rfl) ?_
  refine lv_iconst (v := 5) hx hb dX7_notch_1 (by decide) ?_
  refine iicmp_neT (a := 1) (b := 5) (tgt := 13) hx hb (by decide) (by decide) dX7_notch_2 (by decide) (by decide) ?_
  refine lv_iload_n hx hb dX7_notch_13 rfl (lv_at hl 0 rfl) ?_
  refine lv_iload_n hx hb dX7_notch_14 rfl (lv_at hl 1 rfl) ?_
  refine lv_iconst (v := 1) hx hb dX7_notch_15 (by decide) ?_
  refine lv_iadd hx hb dX7_notch_16 ?_
  refine lk_i (y := 2) (by decide) ?_
  have hPc := hP.sub (ws' := []) [] rfl
  have hDc := hD.sub (ws' := []) [] (by decide) rfl
  have hFc := va_free (wc := []) hD hS hA [] rfl
  refine va_csi (va_runS (As := [.int 2]) (rest := [.int a0]) ⟨hx, hb, hml, hown, hts⟩ (c_X7_worthOf_2 l D c ts s.heap.size) (cwS 1 hts gX7_notch_X7_worthOf rfl rfl rfl ⟨rfl, hdX7_worthOf⟩ ⟨(show 0 + 1 ≤ 1 by decide), (show 8 + (1 + 11) + 0 ≤ 20 by decide)⟩) ⟨Pre0.blind, Pre0.at hPc hDc hAm hSt hS hFc⟩ rfl rfl hl.1 rfl (lv_room (Nat.le_of_ble_eq_true rfl)) dX7_notch_17 ⟨(show 0 + 0 ≤ 0 by decide), (show 0 + 0 ≤ 0 by decide)⟩) (fun r_2 hw_1 => ?_)
  refine lk_i (y := 240) hw_1 ?_
  refine lv_irem hx hb dX7_notch_20 (by decide) ?_
  refine lv_topi (fun x_3 ex_3 => ?_)
  have tx_3 : x_3.toInt = (i_a0 % 240) := by rw [ex_3]; exact rem_ti (a := i_a0) (b := 240) hi_a0 (by decide) (by omega) (by omega) (by decide) (by decide)
  refine lv_iload_n hx hb dX7_notch_21 rfl (lv_at hl 1 rfl) ?_
  have hPc := hP.sub (ws' := []) [] rfl
  have hDc := hD.sub (ws' := []) [] (by decide) rfl
  have hFc := va_free (wc := []) hD hS hA [] rfl
  refine va_csi (va_runS (As := [.int 1]) (rest := [.int x_3]) ⟨hx, hb, hml, hown, hts⟩ (c_X7_worthOf_1 l D c ts s.heap.size) (cwS 1 hts gX7_notch_X7_worthOf rfl rfl rfl ⟨rfl, hdX7_worthOf⟩ ⟨(show 0 + 1 ≤ 1 by decide), (show 8 + (1 + 11) + 0 ≤ 20 by decide)⟩) ⟨Pre0.blind, Pre0.at hPc hDc hAm hSt hS hFc⟩ rfl rfl hl.1 rfl (lv_room (Nat.le_of_ble_eq_true rfl)) dX7_notch_22 ⟨(show 0 + 0 ≤ 0 by decide), (show 0 + 0 ≤ 0 by decide)⟩) (fun r_5 hw_4 => ?_)
  refine lk_i (y := 12) hw_4 ?_
  refine lv_idiv hx hb dX7_notch_25 (by decide) ?_
  refine lv_topi (fun x_6 ex_6 => ?_)
  have tx_6 : x_6.toInt = ((i_a0 % 240) / 12) := by rw [ex_6]; exact div_ti (a := (i_a0 % 240)) (b := 12) tx_3 (by decide) (by omega) (by omega) (by decide) (by decide)
  exact W.iret (v := x_6) hx hb hr (fun t ht hW => ⟨_, rfl, tx_6, ht⟩) (fun _ h => by cases h) dX7_notch_26

set_option maxHeartbeats 4000000 in
set_option maxRecDepth 100000 in
theorem c_X7_notch_2 (l : Launch) (D : va_G) (c : Nat → ClassId) (ts : Nat × Nat) (sz : Nat)  (a0 : Int32) (i_a0 : Int) (hi_a0 : a0.toInt = i_a0) (hp0 : 1 ≤ i_a0 ∧ i_a0 ≤ 1000000) : Met l yX7_notch wsX7_notch ({ frames := 1, cells := 0, slots := 0, locals := 20 }) (va_Pc [.int a0, .int 2] (Pre0 D c ts [] sz)) (vp_Si (fun r : Int32 => r.toInt = ((i_a0 % 4800) / 240))) 0 0 (fun _ => False) := by
  refine Met.ofW (cc := cX7_notch) (maxL := 2) (ret := (some .int)) (by decide) rfl ?_
  intro p e s m args below meth cd s₁ B hml hv
  obtain ⟨rfl, hsz, hP, hD0, hAm, hSt⟩ := hv
  have hx := B.exec
  have hb := B.bytes
  have hr := B.returns
  have hts := atoms_spec (ws := wsX7_notch) B.pre
  have hown : s.vm.findClass RX7 = some m.cls := findClass_of_methodNamed B.named
  have hlocks := B.notSynchronized
  subst hsz
  have hK := hAm.1
  have hD := hD0.self (sz := s.heap.size)
  generalize hAe : va_A [] s.heap.size = A at hD hSt
  have hA : ∀ q : Nat, s.heap.size ≤ q → A q := fun q h => by rw [← hAe]; exact Or.inr h
  have hS : va_S A s.heap s.heap [] := va_S.rf
  clear hD0 hAe
  have hl := lv_entry ([.int a0, .int 2]) (n := 2) (Nat.le_of_ble_eq_true rfl)
  rw [lg_entry_eq]
  generalize (lg_sl ([.int a0, .int 2]) ++ List.replicate (2 - (lg_sl ([.int a0, .int 2])).length) Slot.unset).toArray = ls at hl ⊢
  have hl : lv_has ls 2 [(0, .int a0), (1, .int 2)] := hl
  refine lv_iload_n hx hb dX7_notch_0 rfl (lv_at hl 1 rfl) ?_
  refine lv_iconst (v := 5) hx hb dX7_notch_1 (by decide) ?_
  refine iicmp_neT (a := 2) (b := 5) (tgt := 13) hx hb (by decide) (by decide) dX7_notch_2 (by decide) (by decide) ?_
  refine lv_iload_n hx hb dX7_notch_13 rfl (lv_at hl 0 rfl) ?_
  refine lv_iload_n hx hb dX7_notch_14 rfl (lv_at hl 1 rfl) ?_
  refine lv_iconst (v := 1) hx hb dX7_notch_15 (by decide) ?_
  refine lv_iadd hx hb dX7_notch_16 ?_
  refine lk_i (y := 3) (by decide) ?_
  have hPc := hP.sub (ws' := []) [] rfl
  have hDc := hD.sub (ws' := []) [] (by decide) rfl
  have hFc := va_free (wc := []) hD hS hA [] rfl
  refine va_csi (va_runS (As := [.int 3]) (rest := [.int a0]) ⟨hx, hb, hml, hown, hts⟩ (c_X7_worthOf_3 l D c ts s.heap.size) (cwS 1 hts gX7_notch_X7_worthOf rfl rfl rfl ⟨rfl, hdX7_worthOf⟩ ⟨(show 0 + 1 ≤ 1 by decide), (show 8 + (1 + 11) + 0 ≤ 20 by decide)⟩) ⟨Pre0.blind, Pre0.at hPc hDc hAm hSt hS hFc⟩ rfl rfl hl.1 rfl (lv_room (Nat.le_of_ble_eq_true rfl)) dX7_notch_17 ⟨(show 0 + 0 ≤ 0 by decide), (show 0 + 0 ≤ 0 by decide)⟩) (fun r_2 hw_1 => ?_)
  refine lk_i (y := 4800) hw_1 ?_
  refine lv_irem hx hb dX7_notch_20 (by decide) ?_
  refine lv_topi (fun x_3 ex_3 => ?_)
  have tx_3 : x_3.toInt = (i_a0 % 4800) := by rw [ex_3]; exact rem_ti (a := i_a0) (b := 4800) hi_a0 (by decide) (by omega) (by omega) (by decide) (by decide)
  refine lv_iload_n hx hb dX7_notch_21 rfl (lv_at hl 1 rfl) ?_
  have hPc := hP.sub (ws' := []) [] rfl
  have hDc := hD.sub (ws' := []) [] (by decide) rfl
  have hFc := va_free (wc := []) hD hS hA [] rfl
  refine va_csi (va_runS (As := [.int 2]) (rest := [.int x_3]) ⟨hx, hb, hml, hown, hts⟩ (c_X7_worthOf_2 l D c ts s.heap.size) (cwS 1 hts gX7_notch_X7_worthOf rfl rfl rfl ⟨rfl, hdX7_worthOf⟩ ⟨(show 0 + 1 ≤ 1 by decide), (show 8 + (1 + 11) + 0 ≤ 20 by decide)⟩) ⟨Pre0.blind, Pre0.at hPc hDc hAm hSt hS hFc⟩ rfl rfl hl.1 rfl (lv_room (Nat.le_of_ble_eq_true rfl)) dX7_notch_22 ⟨(show 0 + 0 ≤ 0 by decide), (show 0 + 0 ≤ 0 by decide)⟩) (fun r_5 hw_4 => ?_)
  refine lk_i (y := 240) hw_4 ?_
  refine lv_idiv hx hb dX7_notch_25 (by decide) ?_
  refine lv_topi (fun x_6 ex_6 => ?_)
  have tx_6 : x_6.toInt = ((i_a0 % 4800) / 240) := by rw [ex_6]; exact div_ti (a := (i_a0 % 4800)) (b := 240) tx_3 (by decide) (by omega) (by omega) (by decide) (by decide)
  exact W.iret (v := x_6) hx hb hr (fun t ht hW => ⟨_, rfl, tx_6, ht⟩) (fun _ h => by cases h) dX7_notch_26

set_option maxHeartbeats 4000000 in
set_option maxRecDepth 100000 in
theorem c_X7_notch_3 (l : Launch) (D : va_G) (c : Nat → ClassId) (ts : Nat × Nat) (sz : Nat)  (a0 : Int32) (i_a0 : Int) (hi_a0 : a0.toInt = i_a0) (hp0 : 1 ≤ i_a0 ∧ i_a0 ≤ 1000000) : Met l yX7_notch wsX7_notch ({ frames := 1, cells := 0, slots := 0, locals := 20 }) (va_Pc [.int a0, .int 3] (Pre0 D c ts [] sz)) (vp_Si (fun r : Int32 => r.toInt = ((i_a0 % 24000) / 4800))) 0 0 (fun _ => False) := by
  refine Met.ofW (cc := cX7_notch) (maxL := 2) (ret := (some .int)) (by decide) rfl ?_
  intro p e s m args below meth cd s₁ B hml hv
  obtain ⟨rfl, hsz, hP, hD0, hAm, hSt⟩ := hv
  have hx := B.exec
  have hb := B.bytes
  have hr := B.returns
  have hts := atoms_spec (ws := wsX7_notch) B.pre
  have hown : s.vm.findClass RX7 = some m.cls := findClass_of_methodNamed B.named
  have hlocks := B.notSynchronized
  subst hsz
  have hK := hAm.1
  have hD := hD0.self (sz := s.heap.size)
  generalize hAe : va_A [] s.heap.size = A at hD hSt
  have hA : ∀ q : Nat, s.heap.size ≤ q → A q := fun q h => by rw [← hAe]; exact Or.inr h
  have hS : va_S A s.heap s.heap [] := va_S.rf
  clear hD0 hAe
  have hl := lv_entry ([.int a0, .int 3]) (n := 2) (Nat.le_of_ble_eq_true rfl)
  rw [lg_entry_eq]
  generalize (lg_sl ([.int a0, .int 3]) ++ List.replicate (2 - (lg_sl ([.int a0, .int 3])).length) Slot.unset).toArray = ls at hl ⊢
  have hl : lv_has ls 2 [(0, .int a0), (1, .int 3)] := hl
  refine lv_iload_n hx hb dX7_notch_0 rfl (lv_at hl 1 rfl) ?_
  refine lv_iconst (v := 5) hx hb dX7_notch_1 (by decide) ?_
  refine iicmp_neT (a := 3) (b := 5) (tgt := 13) hx hb (by decide) (by decide) dX7_notch_2 (by decide) (by decide) ?_
  refine lv_iload_n hx hb dX7_notch_13 rfl (lv_at hl 0 rfl) ?_
  refine lv_iload_n hx hb dX7_notch_14 rfl (lv_at hl 1 rfl) ?_
  refine lv_iconst (v := 1) hx hb dX7_notch_15 (by decide) ?_
  refine lv_iadd hx hb dX7_notch_16 ?_
  refine lk_i (y := 4) (by decide) ?_
  have hPc := hP.sub (ws' := []) [] rfl
  have hDc := hD.sub (ws' := []) [] (by decide) rfl
  have hFc := va_free (wc := []) hD hS hA [] rfl
  refine va_csi (va_runS (As := [.int 4]) (rest := [.int a0]) ⟨hx, hb, hml, hown, hts⟩ (c_X7_worthOf_4 l D c ts s.heap.size) (cwS 1 hts gX7_notch_X7_worthOf rfl rfl rfl ⟨rfl, hdX7_worthOf⟩ ⟨(show 0 + 1 ≤ 1 by decide), (show 8 + (1 + 11) + 0 ≤ 20 by decide)⟩) ⟨Pre0.blind, Pre0.at hPc hDc hAm hSt hS hFc⟩ rfl rfl hl.1 rfl (lv_room (Nat.le_of_ble_eq_true rfl)) dX7_notch_17 ⟨(show 0 + 0 ≤ 0 by decide), (show 0 + 0 ≤ 0 by decide)⟩) (fun r_2 hw_1 => ?_)
  refine lk_i (y := 24000) hw_1 ?_
  refine lv_irem hx hb dX7_notch_20 (by decide) ?_
  refine lv_topi (fun x_3 ex_3 => ?_)
  have tx_3 : x_3.toInt = (i_a0 % 24000) := by rw [ex_3]; exact rem_ti (a := i_a0) (b := 24000) hi_a0 (by decide) (by omega) (by omega) (by decide) (by decide)
  refine lv_iload_n hx hb dX7_notch_21 rfl (lv_at hl 1 rfl) ?_
  have hPc := hP.sub (ws' := []) [] rfl
  have hDc := hD.sub (ws' := []) [] (by decide) rfl
  have hFc := va_free (wc := []) hD hS hA [] rfl
  refine va_csi (va_runS (As := [.int 3]) (rest := [.int x_3]) ⟨hx, hb, hml, hown, hts⟩ (c_X7_worthOf_3 l D c ts s.heap.size) (cwS 1 hts gX7_notch_X7_worthOf rfl rfl rfl ⟨rfl, hdX7_worthOf⟩ ⟨(show 0 + 1 ≤ 1 by decide), (show 8 + (1 + 11) + 0 ≤ 20 by decide)⟩) ⟨Pre0.blind, Pre0.at hPc hDc hAm hSt hS hFc⟩ rfl rfl hl.1 rfl (lv_room (Nat.le_of_ble_eq_true rfl)) dX7_notch_22 ⟨(show 0 + 0 ≤ 0 by decide), (show 0 + 0 ≤ 0 by decide)⟩) (fun r_5 hw_4 => ?_)
  refine lk_i (y := 4800) hw_4 ?_
  refine lv_idiv hx hb dX7_notch_25 (by decide) ?_
  refine lv_topi (fun x_6 ex_6 => ?_)
  have tx_6 : x_6.toInt = ((i_a0 % 24000) / 4800) := by rw [ex_6]; exact div_ti (a := (i_a0 % 24000)) (b := 4800) tx_3 (by decide) (by omega) (by omega) (by decide) (by decide)
  exact W.iret (v := x_6) hx hb hr (fun t ht hW => ⟨_, rfl, tx_6, ht⟩) (fun _ h => by cases h) dX7_notch_26

set_option maxHeartbeats 4000000 in
set_option maxRecDepth 100000 in
theorem c_X7_notch_4 (l : Launch) (D : va_G) (c : Nat → ClassId) (ts : Nat × Nat) (sz : Nat)  (a0 : Int32) (i_a0 : Int) (hi_a0 : a0.toInt = i_a0) (hp0 : 1 ≤ i_a0 ∧ i_a0 ≤ 1000000) : Met l yX7_notch wsX7_notch ({ frames := 1, cells := 0, slots := 0, locals := 20 }) (va_Pc [.int a0, .int 4] (Pre0 D c ts [] sz)) (vp_Si (fun r : Int32 => r.toInt = ((i_a0 % 240000) / 24000))) 0 0 (fun _ => False) := by
  refine Met.ofW (cc := cX7_notch) (maxL := 2) (ret := (some .int)) (by decide) rfl ?_
  intro p e s m args below meth cd s₁ B hml hv
  obtain ⟨rfl, hsz, hP, hD0, hAm, hSt⟩ := hv
  have hx := B.exec
  have hb := B.bytes
  have hr := B.returns
  have hts := atoms_spec (ws := wsX7_notch) B.pre
  have hown : s.vm.findClass RX7 = some m.cls := findClass_of_methodNamed B.named
  have hlocks := B.notSynchronized
  subst hsz
  have hK := hAm.1
  have hD := hD0.self (sz := s.heap.size)
  generalize hAe : va_A [] s.heap.size = A at hD hSt
  have hA : ∀ q : Nat, s.heap.size ≤ q → A q := fun q h => by rw [← hAe]; exact Or.inr h
  have hS : va_S A s.heap s.heap [] := va_S.rf
  clear hD0 hAe
  have hl := lv_entry ([.int a0, .int 4]) (n := 2) (Nat.le_of_ble_eq_true rfl)
  rw [lg_entry_eq]
  generalize (lg_sl ([.int a0, .int 4]) ++ List.replicate (2 - (lg_sl ([.int a0, .int 4])).length) Slot.unset).toArray = ls at hl ⊢
  have hl : lv_has ls 2 [(0, .int a0), (1, .int 4)] := hl
  refine lv_iload_n hx hb dX7_notch_0 rfl (lv_at hl 1 rfl) ?_
  refine lv_iconst (v := 5) hx hb dX7_notch_1 (by decide) ?_
  refine iicmp_neT (a := 4) (b := 5) (tgt := 13) hx hb (by decide) (by decide) dX7_notch_2 (by decide) (by decide) ?_
  refine lv_iload_n hx hb dX7_notch_13 rfl (lv_at hl 0 rfl) ?_
  refine lv_iload_n hx hb dX7_notch_14 rfl (lv_at hl 1 rfl) ?_
  refine lv_iconst (v := 1) hx hb dX7_notch_15 (by decide) ?_
  refine lv_iadd hx hb dX7_notch_16 ?_
  refine lk_i (y := 5) (by decide) ?_
  have hPc := hP.sub (ws' := []) [] rfl
  have hDc := hD.sub (ws' := []) [] (by decide) rfl
  have hFc := va_free (wc := []) hD hS hA [] rfl
  refine va_csi (va_runS (As := [.int 5]) (rest := [.int a0]) ⟨hx, hb, hml, hown, hts⟩ (c_X7_worthOf_5 l D c ts s.heap.size) (cwS 1 hts gX7_notch_X7_worthOf rfl rfl rfl ⟨rfl, hdX7_worthOf⟩ ⟨(show 0 + 1 ≤ 1 by decide), (show 8 + (1 + 11) + 0 ≤ 20 by decide)⟩) ⟨Pre0.blind, Pre0.at hPc hDc hAm hSt hS hFc⟩ rfl rfl hl.1 rfl (lv_room (Nat.le_of_ble_eq_true rfl)) dX7_notch_17 ⟨(show 0 + 0 ≤ 0 by decide), (show 0 + 0 ≤ 0 by decide)⟩) (fun r_2 hw_1 => ?_)
  refine lk_i (y := 240000) hw_1 ?_
  refine lv_irem hx hb dX7_notch_20 (by decide) ?_
  refine lv_topi (fun x_3 ex_3 => ?_)
  have tx_3 : x_3.toInt = (i_a0 % 240000) := by rw [ex_3]; exact rem_ti (a := i_a0) (b := 240000) hi_a0 (by decide) (by omega) (by omega) (by decide) (by decide)
  refine lv_iload_n hx hb dX7_notch_21 rfl (lv_at hl 1 rfl) ?_
  have hPc := hP.sub (ws' := []) [] rfl
  have hDc := hD.sub (ws' := []) [] (by decide) rfl
  have hFc := va_free (wc := []) hD hS hA [] rfl
  refine va_csi (va_runS (As := [.int 4]) (rest := [.int x_3]) ⟨hx, hb, hml, hown, hts⟩ (c_X7_worthOf_4 l D c ts s.heap.size) (cwS 1 hts gX7_notch_X7_worthOf rfl rfl rfl ⟨rfl, hdX7_worthOf⟩ ⟨(show 0 + 1 ≤ 1 by decide), (show 8 + (1 + 11) + 0 ≤ 20 by decide)⟩) ⟨Pre0.blind, Pre0.at hPc hDc hAm hSt hS hFc⟩ rfl rfl hl.1 rfl (lv_room (Nat.le_of_ble_eq_true rfl)) dX7_notch_22 ⟨(show 0 + 0 ≤ 0 by decide), (show 0 + 0 ≤ 0 by decide)⟩) (fun r_5 hw_4 => ?_)
  refine lk_i (y := 24000) hw_4 ?_
  refine lv_idiv hx hb dX7_notch_25 (by decide) ?_
  refine lv_topi (fun x_6 ex_6 => ?_)
  have tx_6 : x_6.toInt = ((i_a0 % 240000) / 24000) := by rw [ex_6]; exact div_ti (a := (i_a0 % 240000)) (b := 24000) tx_3 (by decide) (by omega) (by omega) (by decide) (by decide)
  exact W.iret (v := x_6) hx hb hr (fun t ht hW => ⟨_, rfl, tx_6, ht⟩) (fun _ h => by cases h) dX7_notch_26

set_option maxHeartbeats 4000000 in
set_option maxRecDepth 100000 in
theorem c_X7_notch_5 (l : Launch) (D : va_G) (c : Nat → ClassId) (ts : Nat × Nat) (sz : Nat)  (a0 : Int32) (i_a0 : Int) (hi_a0 : a0.toInt = i_a0) (hp0 : 1 ≤ i_a0 ∧ i_a0 ≤ 1000000) : Met l yX7_notch wsX7_notch ({ frames := 0, cells := 0, slots := 0, locals := 0 }) (va_Pc [.int a0, .int 5] (Pre0 D c ts [] sz)) (vp_Si (fun r : Int32 => r.toInt = (i_a0 / 240000))) 0 0 (fun _ => False) := by
  refine Met.ofW (cc := cX7_notch) (maxL := 2) (ret := (some .int)) (by decide) rfl ?_
  intro p e s m args below meth cd s₁ B hml hv
  obtain ⟨rfl, hsz, hP, hD0, hAm, hSt⟩ := hv
  have hx := B.exec
  have hb := B.bytes
  have hr := B.returns
  have hts := atoms_spec (ws := wsX7_notch) B.pre
  have hown : s.vm.findClass RX7 = some m.cls := findClass_of_methodNamed B.named
  have hlocks := B.notSynchronized
  subst hsz
  have hK := hAm.1
  have hD := hD0.self (sz := s.heap.size)
  generalize hAe : va_A [] s.heap.size = A at hD hSt
  have hA : ∀ q : Nat, s.heap.size ≤ q → A q := fun q h => by rw [← hAe]; exact Or.inr h
  have hS : va_S A s.heap s.heap [] := va_S.rf
  clear hD0 hAe
  have hl := lv_entry ([.int a0, .int 5]) (n := 2) (Nat.le_of_ble_eq_true rfl)
  rw [lg_entry_eq]
  generalize (lg_sl ([.int a0, .int 5]) ++ List.replicate (2 - (lg_sl ([.int a0, .int 5])).length) Slot.unset).toArray = ls at hl ⊢
  have hl : lv_has ls 2 [(0, .int a0), (1, .int 5)] := hl
  refine lv_iload_n hx hb dX7_notch_0 rfl (lv_at hl 1 rfl) ?_
  refine lv_iconst (v := 5) hx hb dX7_notch_1 (by decide) ?_
  refine iicmp_neF (a := 5) (b := 5) (tgt := 13) hx hb (by decide) (by decide) dX7_notch_2 (by decide) (by decide) ?_
  refine lv_iload_n hx hb dX7_notch_5 rfl (lv_at hl 0 rfl) ?_
  refine lv_ldcw (v := 240000) hx hb hown (hts (.constant RX7 340 (240000)) (mem_i 1 rfl)) dX7_notch_6 ?_
  refine lv_idiv hx hb dX7_notch_9 (by decide) ?_
  refine lv_topi (fun x_1 ex_1 => ?_)
  have tx_1 : x_1.toInt = (i_a0 / 240000) := by rw [ex_1]; exact div_ti (a := i_a0) (b := 240000) hi_a0 (by decide) (by omega) (by omega) (by decide) (by decide)
  refine lv_goto (tgt := 26) hx hb dX7_notch_10 (by decide) ?_
  exact W.iret (v := x_1) hx hb hr (fun t ht hW => ⟨_, rfl, tx_1, ht⟩) (fun _ h => by cases h) dX7_notch_26

set_option maxHeartbeats 4000000 in
set_option maxRecDepth 100000 in
theorem c_X7_next (l : Launch) (D : va_G) (c : Nat → ClassId) (ts : Nat × Nat) (sz : Nat)  : Met l yX7_next wsX7_next ({ frames := 1, cells := 0, slots := 0, locals := 20 }) (va_Pc [.int 0] (Pre0 D c ts [] sz)) (vp_Si (fun r : Int32 => r = 12)) 0 0 (fun _ => False) := by
  refine Met.ofW (cc := cX7_next) (maxL := 1) (ret := (some .int)) (by decide) rfl ?_
  intro p e s m args below meth cd s₁ B hml hv
  obtain ⟨rfl, hsz, hP, hD0, hAm, hSt⟩ := hv
  have hx := B.exec
  have hb := B.bytes
  have hr := B.returns
  have hts := atoms_spec (ws := wsX7_next) B.pre
  have hown : s.vm.findClass RX7 = some m.cls := findClass_of_methodNamed B.named
  have hlocks := B.notSynchronized
  subst hsz
  have hK := hAm.1
  have hD := hD0.self (sz := s.heap.size)
  generalize hAe : va_A [] s.heap.size = A at hD hSt
  have hA : ∀ q : Nat, s.heap.size ≤ q → A q := fun q h => by rw [← hAe]; exact Or.inr h
  have hS : va_S A s.heap s.heap [] := va_S.rf
  clear hD0 hAe
  have hl := lv_entry ([.int 0]) (n := 1) (Nat.le_of_ble_eq_true rfl)
  rw [lg_entry_eq]
  generalize (lg_sl ([.int 0]) ++ List.replicate (1 - (lg_sl ([.int 0])).length) Slot.unset).toArray = ls at hl ⊢
  have hl : lv_has ls 1 [(0, .int 0)] := hl
  refine lv_iload_n hx hb dX7_next_0 rfl (lv_at hl 0 rfl) ?_
  refine lv_iconst (v := 1) hx hb dX7_next_1 (by decide) ?_
  refine lv_iadd hx hb dX7_next_2 ?_
  refine lk_i (y := 1) (by decide) ?_
  have hPc := hP.sub (ws' := []) [] rfl
  have hDc := hD.sub (ws' := []) [] (by decide) rfl
  have hFc := va_free (wc := []) hD hS hA [] rfl
  refine va_csi (va_runS (As := [.int 1]) (rest := []) ⟨hx, hb, hml, hown, hts⟩ (c_X7_worthOf_1 l D c ts s.heap.size) (cwS 1 hts gX7_next_X7_worthOf rfl rfl rfl ⟨rfl, hdX7_worthOf⟩ ⟨(show 0 + 1 ≤ 1 by decide), (show 8 + (1 + 11) + 0 ≤ 20 by decide)⟩) ⟨Pre0.blind, Pre0.at hPc hDc hAm hSt hS hFc⟩ rfl rfl hl.1 rfl (lv_room (Nat.le_of_ble_eq_true rfl)) dX7_next_3 ⟨(show 0 + 0 ≤ 0 by decide), (show 0 + 0 ≤ 0 by decide)⟩) (fun r_2 hw_1 => ?_)
  refine lk_i (y := 12) hw_1 ?_
  refine lv_iload_n hx hb dX7_next_6 rfl (lv_at hl 0 rfl) ?_
  have hPc := hP.sub (ws' := []) [] rfl
  have hDc := hD.sub (ws' := []) [] (by decide) rfl
  have hFc := va_free (wc := []) hD hS hA [] rfl
  refine va_csi (va_runS (As := [.int 0]) (rest := [.int 12]) ⟨hx, hb, hml, hown, hts⟩ (c_X7_worthOf l D c ts s.heap.size) (cwS 1 hts gX7_next_X7_worthOf rfl rfl rfl ⟨rfl, hdX7_worthOf⟩ ⟨(show 0 + 1 ≤ 1 by decide), (show 8 + (1 + 11) + 0 ≤ 20 by decide)⟩) ⟨Pre0.blind, Pre0.at hPc hDc hAm hSt hS hFc⟩ rfl rfl hl.1 rfl (lv_room (Nat.le_of_ble_eq_true rfl)) dX7_next_7 ⟨(show 0 + 0 ≤ 0 by decide), (show 0 + 0 ≤ 0 by decide)⟩) (fun r_4 hw_3 => ?_)
  refine lk_i (y := 1) hw_3 ?_
  refine lv_idiv hx hb dX7_next_10 (by decide) ?_
  refine lk_i (y := 12) (by decide) ?_
  exact W.iret (v := 12) hx hb hr (fun t ht hW => ⟨_, rfl, rfl, ht⟩) (fun _ h => by cases h) dX7_next_11

set_option maxHeartbeats 4000000 in
set_option maxRecDepth 100000 in
theorem c_X7_next_1 (l : Launch) (D : va_G) (c : Nat → ClassId) (ts : Nat × Nat) (sz : Nat)  : Met l yX7_next wsX7_next ({ frames := 1, cells := 0, slots := 0, locals := 20 }) (va_Pc [.int 1] (Pre0 D c ts [] sz)) (vp_Si (fun r : Int32 => r = 20)) 0 0 (fun _ => False) := by
  refine Met.ofW (cc := cX7_next) (maxL := 1) (ret := (some .int)) (by decide) rfl ?_
  intro p e s m args below meth cd s₁ B hml hv
  obtain ⟨rfl, hsz, hP, hD0, hAm, hSt⟩ := hv
  have hx := B.exec
  have hb := B.bytes
  have hr := B.returns
  have hts := atoms_spec (ws := wsX7_next) B.pre
  have hown : s.vm.findClass RX7 = some m.cls := findClass_of_methodNamed B.named
  have hlocks := B.notSynchronized
  subst hsz
  have hK := hAm.1
  have hD := hD0.self (sz := s.heap.size)
  generalize hAe : va_A [] s.heap.size = A at hD hSt
  have hA : ∀ q : Nat, s.heap.size ≤ q → A q := fun q h => by rw [← hAe]; exact Or.inr h
  have hS : va_S A s.heap s.heap [] := va_S.rf
  clear hD0 hAe
  have hl := lv_entry ([.int 1]) (n := 1) (Nat.le_of_ble_eq_true rfl)
  rw [lg_entry_eq]
  generalize (lg_sl ([.int 1]) ++ List.replicate (1 - (lg_sl ([.int 1])).length) Slot.unset).toArray = ls at hl ⊢
  have hl : lv_has ls 1 [(0, .int 1)] := hl
  refine lv_iload_n hx hb dX7_next_0 rfl (lv_at hl 0 rfl) ?_
  refine lv_iconst (v := 1) hx hb dX7_next_1 (by decide) ?_
  refine lv_iadd hx hb dX7_next_2 ?_
  refine lk_i (y := 2) (by decide) ?_
  have hPc := hP.sub (ws' := []) [] rfl
  have hDc := hD.sub (ws' := []) [] (by decide) rfl
  have hFc := va_free (wc := []) hD hS hA [] rfl
  refine va_csi (va_runS (As := [.int 2]) (rest := []) ⟨hx, hb, hml, hown, hts⟩ (c_X7_worthOf_2 l D c ts s.heap.size) (cwS 1 hts gX7_next_X7_worthOf rfl rfl rfl ⟨rfl, hdX7_worthOf⟩ ⟨(show 0 + 1 ≤ 1 by decide), (show 8 + (1 + 11) + 0 ≤ 20 by decide)⟩) ⟨Pre0.blind, Pre0.at hPc hDc hAm hSt hS hFc⟩ rfl rfl hl.1 rfl (lv_room (Nat.le_of_ble_eq_true rfl)) dX7_next_3 ⟨(show 0 + 0 ≤ 0 by decide), (show 0 + 0 ≤ 0 by decide)⟩) (fun r_2 hw_1 => ?_)
  refine lk_i (y := 240) hw_1 ?_
  refine lv_iload_n hx hb dX7_next_6 rfl (lv_at hl 0 rfl) ?_
  have hPc := hP.sub (ws' := []) [] rfl
  have hDc := hD.sub (ws' := []) [] (by decide) rfl
  have hFc := va_free (wc := []) hD hS hA [] rfl
  refine va_csi (va_runS (As := [.int 1]) (rest := [.int 240]) ⟨hx, hb, hml, hown, hts⟩ (c_X7_worthOf_1 l D c ts s.heap.size) (cwS 1 hts gX7_next_X7_worthOf rfl rfl rfl ⟨rfl, hdX7_worthOf⟩ ⟨(show 0 + 1 ≤ 1 by decide), (show 8 + (1 + 11) + 0 ≤ 20 by decide)⟩) ⟨Pre0.blind, Pre0.at hPc hDc hAm hSt hS hFc⟩ rfl rfl hl.1 rfl (lv_room (Nat.le_of_ble_eq_true rfl)) dX7_next_7 ⟨(show 0 + 0 ≤ 0 by decide), (show 0 + 0 ≤ 0 by decide)⟩) (fun r_4 hw_3 => ?_)
  refine lk_i (y := 12) hw_3 ?_
  refine lv_idiv hx hb dX7_next_10 (by decide) ?_
  refine lk_i (y := 20) (by decide) ?_
  exact W.iret (v := 20) hx hb hr (fun t ht hW => ⟨_, rfl, rfl, ht⟩) (fun _ h => by cases h) dX7_next_11

set_option maxHeartbeats 4000000 in
set_option maxRecDepth 100000 in
theorem c_X7_next_2 (l : Launch) (D : va_G) (c : Nat → ClassId) (ts : Nat × Nat) (sz : Nat)  : Met l yX7_next wsX7_next ({ frames := 1, cells := 0, slots := 0, locals := 20 }) (va_Pc [.int 2] (Pre0 D c ts [] sz)) (vp_Si (fun r : Int32 => r = 20)) 0 0 (fun _ => False) := by
  refine Met.ofW (cc := cX7_next) (maxL := 1) (ret := (some .int)) (by decide) rfl ?_
  intro p e s m args below meth cd s₁ B hml hv
  obtain ⟨rfl, hsz, hP, hD0, hAm, hSt⟩ := hv
  have hx := B.exec
  have hb := B.bytes
  have hr := B.returns
  have hts := atoms_spec (ws := wsX7_next) B.pre
  have hown : s.vm.findClass RX7 = some m.cls := findClass_of_methodNamed B.named
  have hlocks := B.notSynchronized
  subst hsz
  have hK := hAm.1
  have hD := hD0.self (sz := s.heap.size)
  generalize hAe : va_A [] s.heap.size = A at hD hSt
  have hA : ∀ q : Nat, s.heap.size ≤ q → A q := fun q h => by rw [← hAe]; exact Or.inr h
  have hS : va_S A s.heap s.heap [] := va_S.rf
  clear hD0 hAe
  have hl := lv_entry ([.int 2]) (n := 1) (Nat.le_of_ble_eq_true rfl)
  rw [lg_entry_eq]
  generalize (lg_sl ([.int 2]) ++ List.replicate (1 - (lg_sl ([.int 2])).length) Slot.unset).toArray = ls at hl ⊢
  have hl : lv_has ls 1 [(0, .int 2)] := hl
  refine lv_iload_n hx hb dX7_next_0 rfl (lv_at hl 0 rfl) ?_
  refine lv_iconst (v := 1) hx hb dX7_next_1 (by decide) ?_
  refine lv_iadd hx hb dX7_next_2 ?_
  refine lk_i (y := 3) (by decide) ?_
  have hPc := hP.sub (ws' := []) [] rfl
  have hDc := hD.sub (ws' := []) [] (by decide) rfl
  have hFc := va_free (wc := []) hD hS hA [] rfl
  refine va_csi (va_runS (As := [.int 3]) (rest := []) ⟨hx, hb, hml, hown, hts⟩ (c_X7_worthOf_3 l D c ts s.heap.size) (cwS 1 hts gX7_next_X7_worthOf rfl rfl rfl ⟨rfl, hdX7_worthOf⟩ ⟨(show 0 + 1 ≤ 1 by decide), (show 8 + (1 + 11) + 0 ≤ 20 by decide)⟩) ⟨Pre0.blind, Pre0.at hPc hDc hAm hSt hS hFc⟩ rfl rfl hl.1 rfl (lv_room (Nat.le_of_ble_eq_true rfl)) dX7_next_3 ⟨(show 0 + 0 ≤ 0 by decide), (show 0 + 0 ≤ 0 by decide)⟩) (fun r_2 hw_1 => ?_)
  refine lk_i (y := 4800) hw_1 ?_
  refine lv_iload_n hx hb dX7_next_6 rfl (lv_at hl 0 rfl) ?_
  have hPc := hP.sub (ws' := []) [] rfl
  have hDc := hD.sub (ws' := []) [] (by decide) rfl
  have hFc := va_free (wc := []) hD hS hA [] rfl
  refine va_csi (va_runS (As := [.int 2]) (rest := [.int 4800]) ⟨hx, hb, hml, hown, hts⟩ (c_X7_worthOf_2 l D c ts s.heap.size) (cwS 1 hts gX7_next_X7_worthOf rfl rfl rfl ⟨rfl, hdX7_worthOf⟩ ⟨(show 0 + 1 ≤ 1 by decide), (show 8 + (1 + 11) + 0 ≤ 20 by decide)⟩) ⟨Pre0.blind, Pre0.at hPc hDc hAm hSt hS hFc⟩ rfl rfl hl.1 rfl (lv_room (Nat.le_of_ble_eq_true rfl)) dX7_next_7 ⟨(show 0 + 0 ≤ 0 by decide), (show 0 + 0 ≤ 0 by decide)⟩) (fun r_4 hw_3 => ?_)
  refine lk_i (y := 240) hw_3 ?_
  refine lv_idiv hx hb dX7_next_10 (by decide) ?_
  refine lk_i (y := 20) (by decide) ?_
  exact W.iret (v := 20) hx hb hr (fun t ht hW => ⟨_, rfl, rfl, ht⟩) (fun _ h => by cases h) dX7_next_11

set_option maxHeartbeats 4000000 in
set_option maxRecDepth 100000 in
theorem c_X7_next_3 (l : Launch) (D : va_G) (c : Nat → ClassId) (ts : Nat × Nat) (sz : Nat)  : Met l yX7_next wsX7_next ({ frames := 1, cells := 0, slots := 0, locals := 20 }) (va_Pc [.int 3] (Pre0 D c ts [] sz)) (vp_Si (fun r : Int32 => r = 5)) 0 0 (fun _ => False) := by
  refine Met.ofW (cc := cX7_next) (maxL := 1) (ret := (some .int)) (by decide) rfl ?_
  intro p e s m args below meth cd s₁ B hml hv
  obtain ⟨rfl, hsz, hP, hD0, hAm, hSt⟩ := hv
  have hx := B.exec
  have hb := B.bytes
  have hr := B.returns
  have hts := atoms_spec (ws := wsX7_next) B.pre
  have hown : s.vm.findClass RX7 = some m.cls := findClass_of_methodNamed B.named
  have hlocks := B.notSynchronized
  subst hsz
  have hK := hAm.1
  have hD := hD0.self (sz := s.heap.size)
  generalize hAe : va_A [] s.heap.size = A at hD hSt
  have hA : ∀ q : Nat, s.heap.size ≤ q → A q := fun q h => by rw [← hAe]; exact Or.inr h
  have hS : va_S A s.heap s.heap [] := va_S.rf
  clear hD0 hAe
  have hl := lv_entry ([.int 3]) (n := 1) (Nat.le_of_ble_eq_true rfl)
  rw [lg_entry_eq]
  generalize (lg_sl ([.int 3]) ++ List.replicate (1 - (lg_sl ([.int 3])).length) Slot.unset).toArray = ls at hl ⊢
  have hl : lv_has ls 1 [(0, .int 3)] := hl
  refine lv_iload_n hx hb dX7_next_0 rfl (lv_at hl 0 rfl) ?_
  refine lv_iconst (v := 1) hx hb dX7_next_1 (by decide) ?_
  refine lv_iadd hx hb dX7_next_2 ?_
  refine lk_i (y := 4) (by decide) ?_
  have hPc := hP.sub (ws' := []) [] rfl
  have hDc := hD.sub (ws' := []) [] (by decide) rfl
  have hFc := va_free (wc := []) hD hS hA [] rfl
  refine va_csi (va_runS (As := [.int 4]) (rest := []) ⟨hx, hb, hml, hown, hts⟩ (c_X7_worthOf_4 l D c ts s.heap.size) (cwS 1 hts gX7_next_X7_worthOf rfl rfl rfl ⟨rfl, hdX7_worthOf⟩ ⟨(show 0 + 1 ≤ 1 by decide), (show 8 + (1 + 11) + 0 ≤ 20 by decide)⟩) ⟨Pre0.blind, Pre0.at hPc hDc hAm hSt hS hFc⟩ rfl rfl hl.1 rfl (lv_room (Nat.le_of_ble_eq_true rfl)) dX7_next_3 ⟨(show 0 + 0 ≤ 0 by decide), (show 0 + 0 ≤ 0 by decide)⟩) (fun r_2 hw_1 => ?_)
  refine lk_i (y := 24000) hw_1 ?_
  refine lv_iload_n hx hb dX7_next_6 rfl (lv_at hl 0 rfl) ?_
  have hPc := hP.sub (ws' := []) [] rfl
  have hDc := hD.sub (ws' := []) [] (by decide) rfl
  have hFc := va_free (wc := []) hD hS hA [] rfl
  refine va_csi (va_runS (As := [.int 3]) (rest := [.int 24000]) ⟨hx, hb, hml, hown, hts⟩ (c_X7_worthOf_3 l D c ts s.heap.size) (cwS 1 hts gX7_next_X7_worthOf rfl rfl rfl ⟨rfl, hdX7_worthOf⟩ ⟨(show 0 + 1 ≤ 1 by decide), (show 8 + (1 + 11) + 0 ≤ 20 by decide)⟩) ⟨Pre0.blind, Pre0.at hPc hDc hAm hSt hS hFc⟩ rfl rfl hl.1 rfl (lv_room (Nat.le_of_ble_eq_true rfl)) dX7_next_7 ⟨(show 0 + 0 ≤ 0 by decide), (show 0 + 0 ≤ 0 by decide)⟩) (fun r_4 hw_3 => ?_)
  refine lk_i (y := 4800) hw_3 ?_
  refine lv_idiv hx hb dX7_next_10 (by decide) ?_
  refine lk_i (y := 5) (by decide) ?_
  exact W.iret (v := 5) hx hb hr (fun t ht hW => ⟨_, rfl, rfl, ht⟩) (fun _ h => by cases h) dX7_next_11

set_option maxHeartbeats 4000000 in
set_option maxRecDepth 100000 in
theorem c_X7_next_4 (l : Launch) (D : va_G) (c : Nat → ClassId) (ts : Nat × Nat) (sz : Nat)  : Met l yX7_next wsX7_next ({ frames := 1, cells := 0, slots := 0, locals := 20 }) (va_Pc [.int 4] (Pre0 D c ts [] sz)) (vp_Si (fun r : Int32 => r = 10)) 0 0 (fun _ => False) := by
  refine Met.ofW (cc := cX7_next) (maxL := 1) (ret := (some .int)) (by decide) rfl ?_
  intro p e s m args below meth cd s₁ B hml hv
  obtain ⟨rfl, hsz, hP, hD0, hAm, hSt⟩ := hv
  have hx := B.exec
  have hb := B.bytes
  have hr := B.returns
  have hts := atoms_spec (ws := wsX7_next) B.pre
  have hown : s.vm.findClass RX7 = some m.cls := findClass_of_methodNamed B.named
  have hlocks := B.notSynchronized
  subst hsz
  have hK := hAm.1
  have hD := hD0.self (sz := s.heap.size)
  generalize hAe : va_A [] s.heap.size = A at hD hSt
  have hA : ∀ q : Nat, s.heap.size ≤ q → A q := fun q h => by rw [← hAe]; exact Or.inr h
  have hS : va_S A s.heap s.heap [] := va_S.rf
  clear hD0 hAe
  have hl := lv_entry ([.int 4]) (n := 1) (Nat.le_of_ble_eq_true rfl)
  rw [lg_entry_eq]
  generalize (lg_sl ([.int 4]) ++ List.replicate (1 - (lg_sl ([.int 4])).length) Slot.unset).toArray = ls at hl ⊢
  have hl : lv_has ls 1 [(0, .int 4)] := hl
  refine lv_iload_n hx hb dX7_next_0 rfl (lv_at hl 0 rfl) ?_
  refine lv_iconst (v := 1) hx hb dX7_next_1 (by decide) ?_
  refine lv_iadd hx hb dX7_next_2 ?_
  refine lk_i (y := 5) (by decide) ?_
  have hPc := hP.sub (ws' := []) [] rfl
  have hDc := hD.sub (ws' := []) [] (by decide) rfl
  have hFc := va_free (wc := []) hD hS hA [] rfl
  refine va_csi (va_runS (As := [.int 5]) (rest := []) ⟨hx, hb, hml, hown, hts⟩ (c_X7_worthOf_5 l D c ts s.heap.size) (cwS 1 hts gX7_next_X7_worthOf rfl rfl rfl ⟨rfl, hdX7_worthOf⟩ ⟨(show 0 + 1 ≤ 1 by decide), (show 8 + (1 + 11) + 0 ≤ 20 by decide)⟩) ⟨Pre0.blind, Pre0.at hPc hDc hAm hSt hS hFc⟩ rfl rfl hl.1 rfl (lv_room (Nat.le_of_ble_eq_true rfl)) dX7_next_3 ⟨(show 0 + 0 ≤ 0 by decide), (show 0 + 0 ≤ 0 by decide)⟩) (fun r_2 hw_1 => ?_)
  refine lk_i (y := 240000) hw_1 ?_
  refine lv_iload_n hx hb dX7_next_6 rfl (lv_at hl 0 rfl) ?_
  have hPc := hP.sub (ws' := []) [] rfl
  have hDc := hD.sub (ws' := []) [] (by decide) rfl
  have hFc := va_free (wc := []) hD hS hA [] rfl
  refine va_csi (va_runS (As := [.int 4]) (rest := [.int 240000]) ⟨hx, hb, hml, hown, hts⟩ (c_X7_worthOf_4 l D c ts s.heap.size) (cwS 1 hts gX7_next_X7_worthOf rfl rfl rfl ⟨rfl, hdX7_worthOf⟩ ⟨(show 0 + 1 ≤ 1 by decide), (show 8 + (1 + 11) + 0 ≤ 20 by decide)⟩) ⟨Pre0.blind, Pre0.at hPc hDc hAm hSt hS hFc⟩ rfl rfl hl.1 rfl (lv_room (Nat.le_of_ble_eq_true rfl)) dX7_next_7 ⟨(show 0 + 0 ≤ 0 by decide), (show 0 + 0 ≤ 0 by decide)⟩) (fun r_4 hw_3 => ?_)
  refine lk_i (y := 24000) hw_3 ?_
  refine lv_idiv hx hb dX7_next_10 (by decide) ?_
  refine lk_i (y := 10) (by decide) ?_
  exact W.iret (v := 10) hx hb hr (fun t ht hW => ⟨_, rfl, rfl, ht⟩) (fun _ h => by cases h) dX7_next_11

set_option maxHeartbeats 4000000 in
set_option maxRecDepth 100000 in
theorem c_X7_lay (l : Launch) (D : va_G) (c : Nat → ClassId) (ts : Nat × Nat) (sz : Nat) (q : Nat → Nat) (h0 : Nat) (a1 : Int32) (i_a1 : Int) (hi_a1 : a1.toInt = i_a1) : Met l yX7_lay wsX7_lay ({ frames := 2, cells := 0, slots := 0, locals := 41 }) (va_Pc [.ref h0, .int a1] (Pre0 D c ts [(h0, .inr (7, o7 q v0 w0)), (q 55, .inl (c 1, 6, .inl (fun _ => 0)))] sz)) (va_Qi (fun (r : Int32) (u : Unit) => ((1 ≤ i_a1 ∧ i_a1 ≤ 1000000) ∧ r = 0) ∨ ((¬ (1 ≤ i_a1 ∧ i_a1 ≤ 1000000)) ∧ r = (-1))) (fun _ _ => True) (va_A [(h0, .inr (7, o7 q v0 w0)), (q 55, .inl (c 1, 6, .inl (fun _ => 0)))] sz)) 0 0 (va_A [(h0, .inr (7, o7 q v0 w0)), (q 55, .inl (c 1, 6, .inl (fun _ => 0)))] sz) := by
  refine Met.ofW (cc := cX7_lay) (maxL := 4) (ret := (some .int)) (by decide) rfl ?_
  intro p e s m args below meth cd s₁ B hml hv
  obtain ⟨rfl, hsz, hP, hD0, hAm, hSt⟩ := hv
  have hx := B.exec
  have hb := B.bytes
  have hr := B.returns
  have hts := atoms_spec (ws := wsX7_lay) B.pre
  have hown : s.vm.findClass RX7 = some m.cls := findClass_of_methodNamed B.named
  have hlocks := B.notSynchronized
  subst hsz
  have hK := hAm.1
  have hD := hD0.self (sz := s.heap.size)
  generalize hAe : va_A [(h0, .inr (7, o7 q v0 w0)), (q 55, .inl (c 1, 6, .inl (fun _ => 0)))] s.heap.size = A at hD hSt ⊢
  have hA : ∀ q : Nat, s.heap.size ≤ q → A q := fun q h => by rw [← hAe]; exact Or.inr h
  have hS : va_S A s.heap s.heap [] := va_S.rf
  clear hD0 hAe
  have hl := lv_entry ([.ref h0, .int a1]) (n := 4) (Nat.le_of_ble_eq_true rfl)
  rw [lg_entry_eq]
  generalize (lg_sl ([.ref h0, .int a1]) ++ List.replicate (4 - (lg_sl ([.ref h0, .int a1])).length) Slot.unset).toArray = ls at hl ⊢
  have hl : lv_has ls 4 [(0, .ref h0), (1, .int a1)] := hl
  refine lv_iload_n hx hb dX7_lay_0 rfl (lv_at hl 1 rfl) ?_
  refine lv_iconst (v := 1) hx hb dX7_lay_1 (by decide) ?_
  refine lv_ldcw (v := 1000000) hx hb hown (hts (.constant RX7 284 (1000000)) (mem_i 1 rfl)) dX7_lay_2 ?_
  have hPc := hP.sub (ws' := []) [] rfl
  have hDc := hD.sub (ws' := []) [] (by decide) rfl
  have hFc := va_free (wc := []) hD hS hA [] rfl
  refine va_csi (va_runS (As := [.int a1, .int 1, .int 1000000]) (rest := []) ⟨hx, hb, hml, hown, hts⟩ (c_X7_in_7 l D c ts s.heap.size a1 i_a1 hi_a1) (cwS 3 hts gX7_lay_X7_in rfl rfl rfl ⟨rfl, hdX7_in⟩ ⟨(show 0 + 1 ≤ 2 by decide), (show 8 + (3 + 11) + 0 ≤ 41 by decide)⟩) ⟨Pre0.blind, Pre0.at hPc hDc hAm hSt hS hFc⟩ rfl rfl hl.1 rfl (lv_room (Nat.le_of_ble_eq_true rfl)) dX7_lay_5 ⟨(show 0 + 0 ≤ 0 by decide), (show 0 + 0 ≤ 0 by decide)⟩) (fun r_2 hw_1 => ?_)
  rcases hw_1 with ⟨hw_1, rfl⟩ | ⟨hw_1, rfl⟩
  · skip
    refine iif_neT (a := 1) (tgt := 13) hx hb (by decide) dX7_lay_8 (by decide) (by decide) ?_
    refine lv_iconst (v := 0) hx hb dX7_lay_13 (by decide) ?_
    refine lv_istore_n (lv' := [(2, .int 0), (0, .ref h0), (1, .int a1)]) hx hb dX7_lay_14 rfl hl (by decide) rfl (fun ls hl => ?_)
    refine lv_iload_n hx hb dX7_lay_15 rfl (lv_at hl 0 rfl) ?_
    refine lv_bipush (v := 6) hx hb dX7_lay_16 (by decide) ?_
    refine iicmp_geF (a := 0) (b := 6) (tgt := 41) hx hb (by decide) (by decide) dX7_lay_18 (by decide) (by decide) ?_
    refine lv_aload_n hx hb dX7_lay_21 rfl (lv_at hl 1 rfl) ?_
    refine va_get (D := D) (ci := 7) (v := .ref (q 55)) (C := RX7) (T := TX7) (N := 56) hx hb hts (fun _ h => List.mem_cons_of_mem _ (List.mem_append_right _ h)) hown hK hP 0 rfl rfl 55 (by decide) (hts (.fieldLink RX7 118 "CrownTableModel" "cloth" "[I") (mem_i 2 rfl)) (fun _ h9 => h9) rfl dX7_lay_22 ?_
    refine lv_iload_n hx hb dX7_lay_25 rfl (lv_at hl 0 rfl) ?_
    refine lv_dup2_11 hx hb dX7_lay_26 rfl rfl ?_
    refine va_iald hx hb hK hP 1 1 rfl rfl (vin (a := 0) (by decide) (by decide) (by decide)) dX7_lay_27 ?_
    refine lk_i (y := 0) rfl ?_
    refine lv_iload_n hx hb dX7_lay_28 rfl (lv_at hl 2 rfl) ?_
    refine lv_iload_n hx hb dX7_lay_29 rfl (lv_at hl 0 rfl) ?_
    have hPc := hP.sub (ws' := []) [] rfl
    have hDc := hD.sub (ws' := []) [] (by decide) rfl
    have hFc := va_free (wc := []) hD hS hA [] rfl
    refine va_csi (va_runS (As := [.int a1, .int 0]) (rest := [.int 0, .int 0, .ref (q 55)]) ⟨hx, hb, hml, hown, hts⟩ (c_X7_notch l D c ts s.heap.size a1 i_a1 hi_a1 ⟨by omega, by omega⟩) (cwS 2 hts gX7_lay_X7_notch rfl rfl rfl ⟨rfl, hdX7_notch⟩ ⟨(show 1 + 1 ≤ 2 by decide), (show 8 + (2 + 11) + 20 ≤ 41 by decide)⟩) ⟨Pre0.blind, Pre0.at hPc hDc hAm hSt hS hFc⟩ rfl rfl hl.1 rfl (lv_room (Nat.le_of_ble_eq_true rfl)) dX7_lay_30 ⟨(show 0 + 0 ≤ 0 by decide), (show 0 + 0 ≤ 0 by decide)⟩) (fun r_4 hw_3 => ?_)
    refine lv_iadd hx hb dX7_lay_33 ?_
    refine lv_topi (fun x_5 ex_5 => ?_)
    have tx_5 : x_5.toInt = (0 + ((i_a1 % 12) / 1)) := by rw [ex_5]; exact add_ti (a := 0) (b := ((i_a1 % 12) / 1)) (by decide) hw_3 (by omega) (by omega)
    refine va_iast hx hb hK hP hD hS 1 1 rfl rfl (vin (a := 0) (by decide) (by decide) (by decide)) dX7_lay_34 (fun H locs hP hD hS => ?_)
    have hP : va_P D vwCl [(h0, .inr (7, o7 q v0 w0)), (q 55, .inl (c 1, 6, .inl (upd (fun _ => 0) 0 x_5)))] H := hP
    have hD : va_D A [(h0, .inr (7, o7 q v0 w0)), (q 55, .inl (c 1, 6, .inl (upd (fun _ => 0) 0 x_5)))] := hD
    refine lv_iinc (v := 1) (lv' := [(2, .int 1), (0, .ref h0), (1, .int a1)]) hx hb dX7_lay_35 hl (k := 0) rfl (by decide) (by decide) rfl (fun ls hl => ?_)
    refine lv_goto (tgt := 15) hx hb dX7_lay_38 (by decide) ?_
    refine lv_iload_n hx hb dX7_lay_15 rfl (lv_at hl 0 rfl) ?_
    refine lv_bipush (v := 6) hx hb dX7_lay_16 (by decide) ?_
    refine iicmp_geF (a := 1) (b := 6) (tgt := 41) hx hb (by decide) (by decide) dX7_lay_18 (by decide) (by decide) ?_
    refine lv_aload_n hx hb dX7_lay_21 rfl (lv_at hl 1 rfl) ?_
    refine va_get (D := D) (ci := 7) (v := .ref (q 55)) (C := RX7) (T := TX7) (N := 56) hx hb hts (fun _ h => List.mem_cons_of_mem _ (List.mem_append_right _ h)) hown hK hP 0 rfl rfl 55 (by decide) (hts (.fieldLink RX7 118 "CrownTableModel" "cloth" "[I") (mem_i 2 rfl)) (fun _ h9 => h9) rfl dX7_lay_22 ?_
    refine lv_iload_n hx hb dX7_lay_25 rfl (lv_at hl 0 rfl) ?_
    refine lv_dup2_11 hx hb dX7_lay_26 rfl rfl ?_
    refine va_iald hx hb hK hP 1 1 rfl rfl (vin (a := 1) (by decide) (by decide) (by decide)) dX7_lay_27 ?_
    refine lk_i (y := 0) rfl ?_
    refine lv_iload_n hx hb dX7_lay_28 rfl (lv_at hl 2 rfl) ?_
    refine lv_iload_n hx hb dX7_lay_29 rfl (lv_at hl 0 rfl) ?_
    have hPc := hP.sub (ws' := []) [] rfl
    have hDc := hD.sub (ws' := []) [] (by decide) rfl
    have hFc := va_free (wc := []) hD hS hA [] rfl
    refine va_csi (va_runS (As := [.int a1, .int 1]) (rest := [.int 0, .int 1, .ref (q 55)]) ⟨hx, hb, hml, hown, hts⟩ (c_X7_notch_1 l D c ts H.size a1 i_a1 hi_a1 ⟨by omega, by omega⟩) (cwS 2 hts gX7_lay_X7_notch rfl rfl rfl ⟨rfl, hdX7_notch⟩ ⟨(show 1 + 1 ≤ 2 by decide), (show 8 + (2 + 11) + 20 ≤ 41 by decide)⟩) ⟨Pre0.blind, Pre0.at hPc hDc hAm hSt hS hFc⟩ rfl rfl hl.1 rfl (lv_room (Nat.le_of_ble_eq_true rfl)) dX7_lay_30 ⟨(show 0 + 0 ≤ 0 by decide), (show 0 + 0 ≤ 0 by decide)⟩) (fun r_7 hw_6 => ?_)
    refine lv_iadd hx hb dX7_lay_33 ?_
    refine lv_topi (fun x_8 ex_8 => ?_)
    have tx_8 : x_8.toInt = (0 + ((i_a1 % 240) / 12)) := by rw [ex_8]; exact add_ti (a := 0) (b := ((i_a1 % 240) / 12)) (by decide) hw_6 (by omega) (by omega)
    refine va_iast hx hb hK hP hD hS 1 1 rfl rfl (vin (a := 1) (by decide) (by decide) (by decide)) dX7_lay_34 (fun H locs hP hD hS => ?_)
    have hP : va_P D vwCl [(h0, .inr (7, o7 q v0 w0)), (q 55, .inl (c 1, 6, .inl (upd (upd (fun _ => 0) 0 x_5) 1 x_8)))] H := hP
    have hD : va_D A [(h0, .inr (7, o7 q v0 w0)), (q 55, .inl (c 1, 6, .inl (upd (upd (fun _ => 0) 0 x_5) 1 x_8)))] := hD
    refine lv_iinc (v := 2) (lv' := [(2, .int 2), (0, .ref h0), (1, .int a1)]) hx hb dX7_lay_35 hl (k := 0) rfl (by decide) (by decide) rfl (fun ls hl => ?_)
    refine lv_goto (tgt := 15) hx hb dX7_lay_38 (by decide) ?_
    refine lv_iload_n hx hb dX7_lay_15 rfl (lv_at hl 0 rfl) ?_
    refine lv_bipush (v := 6) hx hb dX7_lay_16 (by decide) ?_
    refine iicmp_geF (a := 2) (b := 6) (tgt := 41) hx hb (by decide) (by decide) dX7_lay_18 (by decide) (by decide) ?_
    refine lv_aload_n hx hb dX7_lay_21 rfl (lv_at hl 1 rfl) ?_
    refine va_get (D := D) (ci := 7) (v := .ref (q 55)) (C := RX7) (T := TX7) (N := 56) hx hb hts (fun _ h => List.mem_cons_of_mem _ (List.mem_append_right _ h)) hown hK hP 0 rfl rfl 55 (by decide) (hts (.fieldLink RX7 118 "CrownTableModel" "cloth" "[I") (mem_i 2 rfl)) (fun _ h9 => h9) rfl dX7_lay_22 ?_
    refine lv_iload_n hx hb dX7_lay_25 rfl (lv_at hl 0 rfl) ?_
    refine lv_dup2_11 hx hb dX7_lay_26 rfl rfl ?_
    refine va_iald hx hb hK hP 1 1 rfl rfl (vin (a := 2) (by decide) (by decide) (by decide)) dX7_lay_27 ?_
    refine lk_i (y := 0) rfl ?_
    refine lv_iload_n hx hb dX7_lay_28 rfl (lv_at hl 2 rfl) ?_
    refine lv_iload_n hx hb dX7_lay_29 rfl (lv_at hl 0 rfl) ?_
    have hPc := hP.sub (ws' := []) [] rfl
    have hDc := hD.sub (ws' := []) [] (by decide) rfl
    have hFc := va_free (wc := []) hD hS hA [] rfl
    refine va_csi (va_runS (As := [.int a1, .int 2]) (rest := [.int 0, .int 2, .ref (q 55)]) ⟨hx, hb, hml, hown, hts⟩ (c_X7_notch_2 l D c ts H.size a1 i_a1 hi_a1 ⟨by omega, by omega⟩) (cwS 2 hts gX7_lay_X7_notch rfl rfl rfl ⟨rfl, hdX7_notch⟩ ⟨(show 1 + 1 ≤ 2 by decide), (show 8 + (2 + 11) + 20 ≤ 41 by decide)⟩) ⟨Pre0.blind, Pre0.at hPc hDc hAm hSt hS hFc⟩ rfl rfl hl.1 rfl (lv_room (Nat.le_of_ble_eq_true rfl)) dX7_lay_30 ⟨(show 0 + 0 ≤ 0 by decide), (show 0 + 0 ≤ 0 by decide)⟩) (fun r_10 hw_9 => ?_)
    refine lv_iadd hx hb dX7_lay_33 ?_
    refine lv_topi (fun x_11 ex_11 => ?_)
    have tx_11 : x_11.toInt = (0 + ((i_a1 % 4800) / 240)) := by rw [ex_11]; exact add_ti (a := 0) (b := ((i_a1 % 4800) / 240)) (by decide) hw_9 (by omega) (by omega)
    refine va_iast hx hb hK hP hD hS 1 1 rfl rfl (vin (a := 2) (by decide) (by decide) (by decide)) dX7_lay_34 (fun H locs hP hD hS => ?_)
    have hP : va_P D vwCl [(h0, .inr (7, o7 q v0 w0)), (q 55, .inl (c 1, 6, .inl (upd (upd (upd (fun _ => 0) 0 x_5) 1 x_8) 2 x_11)))] H := hP
    have hD : va_D A [(h0, .inr (7, o7 q v0 w0)), (q 55, .inl (c 1, 6, .inl (upd (upd (upd (fun _ => 0) 0 x_5) 1 x_8) 2 x_11)))] := hD
    refine lv_iinc (v := 3) (lv' := [(2, .int 3), (0, .ref h0), (1, .int a1)]) hx hb dX7_lay_35 hl (k := 0) rfl (by decide) (by decide) rfl (fun ls hl => ?_)
    refine lv_goto (tgt := 15) hx hb dX7_lay_38 (by decide) ?_
    refine lv_iload_n hx hb dX7_lay_15 rfl (lv_at hl 0 rfl) ?_
    refine lv_bipush (v := 6) hx hb dX7_lay_16 (by decide) ?_
    refine iicmp_geF (a := 3) (b := 6) (tgt := 41) hx hb (by decide) (by decide) dX7_lay_18 (by decide) (by decide) ?_
    refine lv_aload_n hx hb dX7_lay_21 rfl (lv_at hl 1 rfl) ?_
    refine va_get (D := D) (ci := 7) (v := .ref (q 55)) (C := RX7) (T := TX7) (N := 56) hx hb hts (fun _ h => List.mem_cons_of_mem _ (List.mem_append_right _ h)) hown hK hP 0 rfl rfl 55 (by decide) (hts (.fieldLink RX7 118 "CrownTableModel" "cloth" "[I") (mem_i 2 rfl)) (fun _ h9 => h9) rfl dX7_lay_22 ?_
    refine lv_iload_n hx hb dX7_lay_25 rfl (lv_at hl 0 rfl) ?_
    refine lv_dup2_11 hx hb dX7_lay_26 rfl rfl ?_
    refine va_iald hx hb hK hP 1 1 rfl rfl (vin (a := 3) (by decide) (by decide) (by decide)) dX7_lay_27 ?_
    refine lk_i (y := 0) rfl ?_
    refine lv_iload_n hx hb dX7_lay_28 rfl (lv_at hl 2 rfl) ?_
    refine lv_iload_n hx hb dX7_lay_29 rfl (lv_at hl 0 rfl) ?_
    have hPc := hP.sub (ws' := []) [] rfl
    have hDc := hD.sub (ws' := []) [] (by decide) rfl
    have hFc := va_free (wc := []) hD hS hA [] rfl
    refine va_csi (va_runS (As := [.int a1, .int 3]) (rest := [.int 0, .int 3, .ref (q 55)]) ⟨hx, hb, hml, hown, hts⟩ (c_X7_notch_3 l D c ts H.size a1 i_a1 hi_a1 ⟨by omega, by omega⟩) (cwS 2 hts gX7_lay_X7_notch rfl rfl rfl ⟨rfl, hdX7_notch⟩ ⟨(show 1 + 1 ≤ 2 by decide), (show 8 + (2 + 11) + 20 ≤ 41 by decide)⟩) ⟨Pre0.blind, Pre0.at hPc hDc hAm hSt hS hFc⟩ rfl rfl hl.1 rfl (lv_room (Nat.le_of_ble_eq_true rfl)) dX7_lay_30 ⟨(show 0 + 0 ≤ 0 by decide), (show 0 + 0 ≤ 0 by decide)⟩) (fun r_13 hw_12 => ?_)
    refine lv_iadd hx hb dX7_lay_33 ?_
    refine lv_topi (fun x_14 ex_14 => ?_)
    have tx_14 : x_14.toInt = (0 + ((i_a1 % 24000) / 4800)) := by rw [ex_14]; exact add_ti (a := 0) (b := ((i_a1 % 24000) / 4800)) (by decide) hw_12 (by omega) (by omega)
    refine va_iast hx hb hK hP hD hS 1 1 rfl rfl (vin (a := 3) (by decide) (by decide) (by decide)) dX7_lay_34 (fun H locs hP hD hS => ?_)
    have hP : va_P D vwCl [(h0, .inr (7, o7 q v0 w0)), (q 55, .inl (c 1, 6, .inl (upd (upd (upd (upd (fun _ => 0) 0 x_5) 1 x_8) 2 x_11) 3 x_14)))] H := hP
    have hD : va_D A [(h0, .inr (7, o7 q v0 w0)), (q 55, .inl (c 1, 6, .inl (upd (upd (upd (upd (fun _ => 0) 0 x_5) 1 x_8) 2 x_11) 3 x_14)))] := hD
    refine lv_iinc (v := 4) (lv' := [(2, .int 4), (0, .ref h0), (1, .int a1)]) hx hb dX7_lay_35 hl (k := 0) rfl (by decide) (by decide) rfl (fun ls hl => ?_)
    refine lv_goto (tgt := 15) hx hb dX7_lay_38 (by decide) ?_
    refine lv_iload_n hx hb dX7_lay_15 rfl (lv_at hl 0 rfl) ?_
    refine lv_bipush (v := 6) hx hb dX7_lay_16 (by decide) ?_
    refine iicmp_geF (a := 4) (b := 6) (tgt := 41) hx hb (by decide) (by decide) dX7_lay_18 (by decide) (by decide) ?_
    refine lv_aload_n hx hb dX7_lay_21 rfl (lv_at hl 1 rfl) ?_
    refine va_get (D := D) (ci := 7) (v := .ref (q 55)) (C := RX7) (T := TX7) (N := 56) hx hb hts (fun _ h => List.mem_cons_of_mem _ (List.mem_append_right _ h)) hown hK hP 0 rfl rfl 55 (by decide) (hts (.fieldLink RX7 118 "CrownTableModel" "cloth" "[I") (mem_i 2 rfl)) (fun _ h9 => h9) rfl dX7_lay_22 ?_
    refine lv_iload_n hx hb dX7_lay_25 rfl (lv_at hl 0 rfl) ?_
    refine lv_dup2_11 hx hb dX7_lay_26 rfl rfl ?_
    refine va_iald hx hb hK hP 1 1 rfl rfl (vin (a := 4) (by decide) (by decide) (by decide)) dX7_lay_27 ?_
    refine lk_i (y := 0) rfl ?_
    refine lv_iload_n hx hb dX7_lay_28 rfl (lv_at hl 2 rfl) ?_
    refine lv_iload_n hx hb dX7_lay_29 rfl (lv_at hl 0 rfl) ?_
    have hPc := hP.sub (ws' := []) [] rfl
    have hDc := hD.sub (ws' := []) [] (by decide) rfl
    have hFc := va_free (wc := []) hD hS hA [] rfl
    refine va_csi (va_runS (As := [.int a1, .int 4]) (rest := [.int 0, .int 4, .ref (q 55)]) ⟨hx, hb, hml, hown, hts⟩ (c_X7_notch_4 l D c ts H.size a1 i_a1 hi_a1 ⟨by omega, by omega⟩) (cwS 2 hts gX7_lay_X7_notch rfl rfl rfl ⟨rfl, hdX7_notch⟩ ⟨(show 1 + 1 ≤ 2 by decide), (show 8 + (2 + 11) + 20 ≤ 41 by decide)⟩) ⟨Pre0.blind, Pre0.at hPc hDc hAm hSt hS hFc⟩ rfl rfl hl.1 rfl (lv_room (Nat.le_of_ble_eq_true rfl)) dX7_lay_30 ⟨(show 0 + 0 ≤ 0 by decide), (show 0 + 0 ≤ 0 by decide)⟩) (fun r_16 hw_15 => ?_)
    refine lv_iadd hx hb dX7_lay_33 ?_
    refine lv_topi (fun x_17 ex_17 => ?_)
    have tx_17 : x_17.toInt = (0 + ((i_a1 % 240000) / 24000)) := by rw [ex_17]; exact add_ti (a := 0) (b := ((i_a1 % 240000) / 24000)) (by decide) hw_15 (by omega) (by omega)
    refine va_iast hx hb hK hP hD hS 1 1 rfl rfl (vin (a := 4) (by decide) (by decide) (by decide)) dX7_lay_34 (fun H locs hP hD hS => ?_)
    have hP : va_P D vwCl [(h0, .inr (7, o7 q v0 w0)), (q 55, .inl (c 1, 6, .inl (upd (upd (upd (upd (upd (fun _ => 0) 0 x_5) 1 x_8) 2 x_11) 3 x_14) 4 x_17)))] H := hP
    have hD : va_D A [(h0, .inr (7, o7 q v0 w0)), (q 55, .inl (c 1, 6, .inl (upd (upd (upd (upd (upd (fun _ => 0) 0 x_5) 1 x_8) 2 x_11) 3 x_14) 4 x_17)))] := hD
    refine lv_iinc (v := 5) (lv' := [(2, .int 5), (0, .ref h0), (1, .int a1)]) hx hb dX7_lay_35 hl (k := 0) rfl (by decide) (by decide) rfl (fun ls hl => ?_)
    refine lv_goto (tgt := 15) hx hb dX7_lay_38 (by decide) ?_
    refine lv_iload_n hx hb dX7_lay_15 rfl (lv_at hl 0 rfl) ?_
    refine lv_bipush (v := 6) hx hb dX7_lay_16 (by decide) ?_
    refine iicmp_geF (a := 5) (b := 6) (tgt := 41) hx hb (by decide) (by decide) dX7_lay_18 (by decide) (by decide) ?_
    refine lv_aload_n hx hb dX7_lay_21 rfl (lv_at hl 1 rfl) ?_
    refine va_get (D := D) (ci := 7) (v := .ref (q 55)) (C := RX7) (T := TX7) (N := 56) hx hb hts (fun _ h => List.mem_cons_of_mem _ (List.mem_append_right _ h)) hown hK hP 0 rfl rfl 55 (by decide) (hts (.fieldLink RX7 118 "CrownTableModel" "cloth" "[I") (mem_i 2 rfl)) (fun _ h9 => h9) rfl dX7_lay_22 ?_
    refine lv_iload_n hx hb dX7_lay_25 rfl (lv_at hl 0 rfl) ?_
    refine lv_dup2_11 hx hb dX7_lay_26 rfl rfl ?_
    refine va_iald hx hb hK hP 1 1 rfl rfl (vin (a := 5) (by decide) (by decide) (by decide)) dX7_lay_27 ?_
    refine lk_i (y := 0) rfl ?_
    refine lv_iload_n hx hb dX7_lay_28 rfl (lv_at hl 2 rfl) ?_
    refine lv_iload_n hx hb dX7_lay_29 rfl (lv_at hl 0 rfl) ?_
    have hPc := hP.sub (ws' := []) [] rfl
    have hDc := hD.sub (ws' := []) [] (by decide) rfl
    have hFc := va_free (wc := []) hD hS hA [] rfl
    refine va_csi (va_runS (As := [.int a1, .int 5]) (rest := [.int 0, .int 5, .ref (q 55)]) ⟨hx, hb, hml, hown, hts⟩ (c_X7_notch_5 l D c ts H.size a1 i_a1 hi_a1 ⟨by omega, by omega⟩) (cwS 2 hts gX7_lay_X7_notch rfl rfl rfl ⟨rfl, hdX7_notch⟩ ⟨(show 0 + 1 ≤ 2 by decide), (show 8 + (2 + 11) + 0 ≤ 41 by decide)⟩) ⟨Pre0.blind, Pre0.at hPc hDc hAm hSt hS hFc⟩ rfl rfl hl.1 rfl (lv_room (Nat.le_of_ble_eq_true rfl)) dX7_lay_30 ⟨(show 0 + 0 ≤ 0 by decide), (show 0 + 0 ≤ 0 by decide)⟩) (fun r_19 hw_18 => ?_)
    refine lv_iadd hx hb dX7_lay_33 ?_
    refine lv_topi (fun x_20 ex_20 => ?_)
    have tx_20 : x_20.toInt = (0 + (i_a1 / 240000)) := by rw [ex_20]; exact add_ti (a := 0) (b := (i_a1 / 240000)) (by decide) hw_18 (by omega) (by omega)
    refine va_iast hx hb hK hP hD hS 1 1 rfl rfl (vin (a := 5) (by decide) (by decide) (by decide)) dX7_lay_34 (fun H locs hP hD hS => ?_)
    have hP : va_P D vwCl [(h0, .inr (7, o7 q v0 w0)), (q 55, .inl (c 1, 6, .inl (upd (upd (upd (upd (upd (upd (fun _ => 0) 0 x_5) 1 x_8) 2 x_11) 3 x_14) 4 x_17) 5 x_20)))] H := hP
    have hD : va_D A [(h0, .inr (7, o7 q v0 w0)), (q 55, .inl (c 1, 6, .inl (upd (upd (upd (upd (upd (upd (fun _ => 0) 0 x_5) 1 x_8) 2 x_11) 3 x_14) 4 x_17) 5 x_20)))] := hD
    refine lv_iinc (v := 6) (lv' := [(2, .int 6), (0, .ref h0), (1, .int a1)]) hx hb dX7_lay_35 hl (k := 0) rfl (by decide) (by decide) rfl (fun ls hl => ?_)
    refine lv_goto (tgt := 15) hx hb dX7_lay_38 (by decide) ?_
    refine lv_iload_n hx hb dX7_lay_15 rfl (lv_at hl 0 rfl) ?_
    refine lv_bipush (v := 6) hx hb dX7_lay_16 (by decide) ?_
    refine iicmp_geT (a := 6) (b := 6) (tgt := 41) hx hb (by decide) (by decide) dX7_lay_18 (by decide) (by decide) ?_
    refine lv_iconst (v := 0) hx hb dX7_lay_41 (by decide) ?_
    refine lv_istore_n (lv' := [(2, .int 0), (0, .ref h0), (1, .int a1)]) hx hb dX7_lay_42 rfl hl (by decide) rfl (fun ls hl => ?_)
    refine lv_iconst (v := 0) hx hb dX7_lay_43 (by decide) ?_
    refine lv_istore_n (lv' := [(3, .int 0), (2, .int 0), (0, .ref h0), (1, .int a1)]) hx hb dX7_lay_44 rfl hl (by decide) rfl (fun ls hl => ?_)
    refine lv_iload_n hx hb dX7_lay_45 rfl (lv_at hl 0 rfl) ?_
    refine lv_iconst (v := 5) hx hb dX7_lay_46 (by decide) ?_
    refine iicmp_geF (a := 0) (b := 5) (tgt := 102) hx hb (by decide) (by decide) dX7_lay_47 (by decide) (by decide) ?_
    refine lv_aload_n hx hb dX7_lay_50 rfl (lv_at hl 2 rfl) ?_
    refine va_get (D := D) (ci := 7) (v := .ref (q 55)) (C := RX7) (T := TX7) (N := 56) hx hb hts (fun _ h => List.mem_cons_of_mem _ (List.mem_append_right _ h)) hown hK hP 0 rfl rfl 55 (by decide) (hts (.fieldLink RX7 118 "CrownTableModel" "cloth" "[I") (mem_i 2 rfl)) (fun _ h9 => h9) rfl dX7_lay_51 ?_
    refine lv_iload_n hx hb dX7_lay_54 rfl (lv_at hl 0 rfl) ?_
    refine va_iald hx hb hK hP 1 1 rfl rfl (vin (a := 0) (by decide) (by decide) (by decide)) dX7_lay_55 ?_
    refine lk_i (y := x_5) rfl ?_
    refine lv_iload_n hx hb dX7_lay_56 rfl (lv_at hl 0 rfl) ?_
    have hPc := hP.sub (ws' := []) [] rfl
    have hDc := hD.sub (ws' := []) [] (by decide) rfl
    have hFc := va_free (wc := []) hD hS hA [] rfl
    refine va_csi (va_runS (As := [.int 0]) (rest := [.int x_5]) ⟨hx, hb, hml, hown, hts⟩ (c_X7_next l D c ts H.size) (cwS 1 hts gX7_lay_X7_next rfl rfl rfl ⟨rfl, hdX7_next⟩ ⟨(show 1 + 1 ≤ 2 by decide), (show 8 + (1 + 11) + 20 ≤ 41 by decide)⟩) ⟨Pre0.blind, Pre0.at hPc hDc hAm hSt hS hFc⟩ rfl rfl hl.1 rfl (lv_room (Nat.le_of_ble_eq_true rfl)) dX7_lay_57 ⟨(show 0 + 0 ≤ 0 by decide), (show 0 + 0 ≤ 0 by decide)⟩) (fun r_22 hw_21 => ?_)
    refine lk_i (y := 12) hw_21 ?_
    refine iicmp_geF (a := (0 + ((i_a1 % 12) / 1))) (b := 12) (tgt := 69) hx hb tx_5 (by decide) dX7_lay_60 (by decide) (by omega) ?_
    refine lv_iinc (v := 1) (lv' := [(3, .int 1), (2, .int 0), (0, .ref h0), (1, .int a1)]) hx hb dX7_lay_63 hl (k := 0) rfl (by decide) (by decide) rfl (fun ls hl => ?_)
    refine lv_goto (tgt := 45) hx hb dX7_lay_66 (by decide) ?_
    refine lv_iload_n hx hb dX7_lay_45 rfl (lv_at hl 0 rfl) ?_
    refine lv_iconst (v := 5) hx hb dX7_lay_46 (by decide) ?_
    refine iicmp_geF (a := 1) (b := 5) (tgt := 102) hx hb (by decide) (by decide) dX7_lay_47 (by decide) (by decide) ?_
    refine lv_aload_n hx hb dX7_lay_50 rfl (lv_at hl 2 rfl) ?_
    refine va_get (D := D) (ci := 7) (v := .ref (q 55)) (C := RX7) (T := TX7) (N := 56) hx hb hts (fun _ h => List.mem_cons_of_mem _ (List.mem_append_right _ h)) hown hK hP 0 rfl rfl 55 (by decide) (hts (.fieldLink RX7 118 "CrownTableModel" "cloth" "[I") (mem_i 2 rfl)) (fun _ h9 => h9) rfl dX7_lay_51 ?_
    refine lv_iload_n hx hb dX7_lay_54 rfl (lv_at hl 0 rfl) ?_
    refine va_iald hx hb hK hP 1 1 rfl rfl (vin (a := 1) (by decide) (by decide) (by decide)) dX7_lay_55 ?_
    refine lk_i (y := x_8) rfl ?_
    refine lv_iload_n hx hb dX7_lay_56 rfl (lv_at hl 0 rfl) ?_
    have hPc := hP.sub (ws' := []) [] rfl
    have hDc := hD.sub (ws' := []) [] (by decide) rfl
    have hFc := va_free (wc := []) hD hS hA [] rfl
    refine va_csi (va_runS (As := [.int 1]) (rest := [.int x_8]) ⟨hx, hb, hml, hown, hts⟩ (c_X7_next_1 l D c ts H.size) (cwS 1 hts gX7_lay_X7_next rfl rfl rfl ⟨rfl, hdX7_next⟩ ⟨(show 1 + 1 ≤ 2 by decide), (show 8 + (1 + 11) + 20 ≤ 41 by decide)⟩) ⟨Pre0.blind, Pre0.at hPc hDc hAm hSt hS hFc⟩ rfl rfl hl.1 rfl (lv_room (Nat.le_of_ble_eq_true rfl)) dX7_lay_57 ⟨(show 0 + 0 ≤ 0 by decide), (show 0 + 0 ≤ 0 by decide)⟩) (fun r_24 hw_23 => ?_)
    refine lk_i (y := 20) hw_23 ?_
    refine iicmp_geF (a := (0 + ((i_a1 % 240) / 12))) (b := 20) (tgt := 69) hx hb tx_8 (by decide) dX7_lay_60 (by decide) (by omega) ?_
    refine lv_iinc (v := 2) (lv' := [(3, .int 2), (2, .int 0), (0, .ref h0), (1, .int a1)]) hx hb dX7_lay_63 hl (k := 0) rfl (by decide) (by decide) rfl (fun ls hl => ?_)
    refine lv_goto (tgt := 45) hx hb dX7_lay_66 (by decide) ?_
    refine lv_iload_n hx hb dX7_lay_45 rfl (lv_at hl 0 rfl) ?_
    refine lv_iconst (v := 5) hx hb dX7_lay_46 (by decide) ?_
    refine iicmp_geF (a := 2) (b := 5) (tgt := 102) hx hb (by decide) (by decide) dX7_lay_47 (by decide) (by decide) ?_
    refine lv_aload_n hx hb dX7_lay_50 rfl (lv_at hl 2 rfl) ?_
    refine va_get (D := D) (ci := 7) (v := .ref (q 55)) (C := RX7) (T := TX7) (N := 56) hx hb hts (fun _ h => List.mem_cons_of_mem _ (List.mem_append_right _ h)) hown hK hP 0 rfl rfl 55 (by decide) (hts (.fieldLink RX7 118 "CrownTableModel" "cloth" "[I") (mem_i 2 rfl)) (fun _ h9 => h9) rfl dX7_lay_51 ?_
    refine lv_iload_n hx hb dX7_lay_54 rfl (lv_at hl 0 rfl) ?_
    refine va_iald hx hb hK hP 1 1 rfl rfl (vin (a := 2) (by decide) (by decide) (by decide)) dX7_lay_55 ?_
    refine lk_i (y := x_11) rfl ?_
    refine lv_iload_n hx hb dX7_lay_56 rfl (lv_at hl 0 rfl) ?_
    have hPc := hP.sub (ws' := []) [] rfl
    have hDc := hD.sub (ws' := []) [] (by decide) rfl
    have hFc := va_free (wc := []) hD hS hA [] rfl
    refine va_csi (va_runS (As := [.int 2]) (rest := [.int x_11]) ⟨hx, hb, hml, hown, hts⟩ (c_X7_next_2 l D c ts H.size) (cwS 1 hts gX7_lay_X7_next rfl rfl rfl ⟨rfl, hdX7_next⟩ ⟨(show 1 + 1 ≤ 2 by decide), (show 8 + (1 + 11) + 20 ≤ 41 by decide)⟩) ⟨Pre0.blind, Pre0.at hPc hDc hAm hSt hS hFc⟩ rfl rfl hl.1 rfl (lv_room (Nat.le_of_ble_eq_true rfl)) dX7_lay_57 ⟨(show 0 + 0 ≤ 0 by decide), (show 0 + 0 ≤ 0 by decide)⟩) (fun r_26 hw_25 => ?_)
    refine lk_i (y := 20) hw_25 ?_
    refine iicmp_geF (a := (0 + ((i_a1 % 4800) / 240))) (b := 20) (tgt := 69) hx hb tx_11 (by decide) dX7_lay_60 (by decide) (by omega) ?_
    refine lv_iinc (v := 3) (lv' := [(3, .int 3), (2, .int 0), (0, .ref h0), (1, .int a1)]) hx hb dX7_lay_63 hl (k := 0) rfl (by decide) (by decide) rfl (fun ls hl => ?_)
    refine lv_goto (tgt := 45) hx hb dX7_lay_66 (by decide) ?_
    refine lv_iload_n hx hb dX7_lay_45 rfl (lv_at hl 0 rfl) ?_
    refine lv_iconst (v := 5) hx hb dX7_lay_46 (by decide) ?_
    refine iicmp_geF (a := 3) (b := 5) (tgt := 102) hx hb (by decide) (by decide) dX7_lay_47 (by decide) (by decide) ?_
    refine lv_aload_n hx hb dX7_lay_50 rfl (lv_at hl 2 rfl) ?_
    refine va_get (D := D) (ci := 7) (v := .ref (q 55)) (C := RX7) (T := TX7) (N := 56) hx hb hts (fun _ h => List.mem_cons_of_mem _ (List.mem_append_right _ h)) hown hK hP 0 rfl rfl 55 (by decide) (hts (.fieldLink RX7 118 "CrownTableModel" "cloth" "[I") (mem_i 2 rfl)) (fun _ h9 => h9) rfl dX7_lay_51 ?_
    refine lv_iload_n hx hb dX7_lay_54 rfl (lv_at hl 0 rfl) ?_
    refine va_iald hx hb hK hP 1 1 rfl rfl (vin (a := 3) (by decide) (by decide) (by decide)) dX7_lay_55 ?_
    refine lk_i (y := x_14) rfl ?_
    refine lv_iload_n hx hb dX7_lay_56 rfl (lv_at hl 0 rfl) ?_
    have hPc := hP.sub (ws' := []) [] rfl
    have hDc := hD.sub (ws' := []) [] (by decide) rfl
    have hFc := va_free (wc := []) hD hS hA [] rfl
    refine va_csi (va_runS (As := [.int 3]) (rest := [.int x_14]) ⟨hx, hb, hml, hown, hts⟩ (c_X7_next_3 l D c ts H.size) (cwS 1 hts gX7_lay_X7_next rfl rfl rfl ⟨rfl, hdX7_next⟩ ⟨(show 1 + 1 ≤ 2 by decide), (show 8 + (1 + 11) + 20 ≤ 41 by decide)⟩) ⟨Pre0.blind, Pre0.at hPc hDc hAm hSt hS hFc⟩ rfl rfl hl.1 rfl (lv_room (Nat.le_of_ble_eq_true rfl)) dX7_lay_57 ⟨(show 0 + 0 ≤ 0 by decide), (show 0 + 0 ≤ 0 by decide)⟩) (fun r_28 hw_27 => ?_)
    refine lk_i (y := 5) hw_27 ?_
    refine iicmp_geF (a := (0 + ((i_a1 % 24000) / 4800))) (b := 5) (tgt := 69) hx hb tx_14 (by decide) dX7_lay_60 (by decide) (by omega) ?_
    refine lv_iinc (v := 4) (lv' := [(3, .int 4), (2, .int 0), (0, .ref h0), (1, .int a1)]) hx hb dX7_lay_63 hl (k := 0) rfl (by decide) (by decide) rfl (fun ls hl => ?_)
    refine lv_goto (tgt := 45) hx hb dX7_lay_66 (by decide) ?_
    refine lv_iload_n hx hb dX7_lay_45 rfl (lv_at hl 0 rfl) ?_
    refine lv_iconst (v := 5) hx hb dX7_lay_46 (by decide) ?_
    refine iicmp_geF (a := 4) (b := 5) (tgt := 102) hx hb (by decide) (by decide) dX7_lay_47 (by decide) (by decide) ?_
    refine lv_aload_n hx hb dX7_lay_50 rfl (lv_at hl 2 rfl) ?_
    refine va_get (D := D) (ci := 7) (v := .ref (q 55)) (C := RX7) (T := TX7) (N := 56) hx hb hts (fun _ h => List.mem_cons_of_mem _ (List.mem_append_right _ h)) hown hK hP 0 rfl rfl 55 (by decide) (hts (.fieldLink RX7 118 "CrownTableModel" "cloth" "[I") (mem_i 2 rfl)) (fun _ h9 => h9) rfl dX7_lay_51 ?_
    refine lv_iload_n hx hb dX7_lay_54 rfl (lv_at hl 0 rfl) ?_
    refine va_iald hx hb hK hP 1 1 rfl rfl (vin (a := 4) (by decide) (by decide) (by decide)) dX7_lay_55 ?_
    refine lk_i (y := x_17) rfl ?_
    refine lv_iload_n hx hb dX7_lay_56 rfl (lv_at hl 0 rfl) ?_
    have hPc := hP.sub (ws' := []) [] rfl
    have hDc := hD.sub (ws' := []) [] (by decide) rfl
    have hFc := va_free (wc := []) hD hS hA [] rfl
    refine va_csi (va_runS (As := [.int 4]) (rest := [.int x_17]) ⟨hx, hb, hml, hown, hts⟩ (c_X7_next_4 l D c ts H.size) (cwS 1 hts gX7_lay_X7_next rfl rfl rfl ⟨rfl, hdX7_next⟩ ⟨(show 1 + 1 ≤ 2 by decide), (show 8 + (1 + 11) + 20 ≤ 41 by decide)⟩) ⟨Pre0.blind, Pre0.at hPc hDc hAm hSt hS hFc⟩ rfl rfl hl.1 rfl (lv_room (Nat.le_of_ble_eq_true rfl)) dX7_lay_57 ⟨(show 0 + 0 ≤ 0 by decide), (show 0 + 0 ≤ 0 by decide)⟩) (fun r_30 hw_29 => ?_)
    refine lk_i (y := 10) hw_29 ?_
    refine iicmp_geF (a := (0 + ((i_a1 % 240000) / 24000))) (b := 10) (tgt := 69) hx hb tx_17 (by decide) dX7_lay_60 (by decide) (by omega) ?_
    refine lv_iinc (v := 5) (lv' := [(3, .int 5), (2, .int 0), (0, .ref h0), (1, .int a1)]) hx hb dX7_lay_63 hl (k := 0) rfl (by decide) (by decide) rfl (fun ls hl => ?_)
    refine lv_goto (tgt := 45) hx hb dX7_lay_66 (by decide) ?_
    refine lv_iload_n hx hb dX7_lay_45 rfl (lv_at hl 0 rfl) ?_
    refine lv_iconst (v := 5) hx hb dX7_lay_46 (by decide) ?_
    refine iicmp_geT (a := 5) (b := 5) (tgt := 102) hx hb (by decide) (by decide) dX7_lay_47 (by decide) (by decide) ?_
    refine lv_iload_n hx hb dX7_lay_102 rfl (lv_at hl 1 rfl) ?_
    refine W.widen (k := 0) (n := 0) (by omega) (by omega) ?_
    exact W.iret (v := 0) hx hb hr (fun t ht hW => ⟨⟨_, (), rfl, Or.inl ⟨by omega, rfl⟩, trivial⟩, hS.F ht⟩) hS.2.2 dX7_lay_103
  · skip
    refine iif_neF (a := 0) (tgt := 13) hx hb (by decide) dX7_lay_8 (by decide) (by decide) ?_
    refine lv_iconst (v := (-1)) hx hb dX7_lay_11 (by decide) ?_
    refine W.widen (k := 0) (n := 0) (by omega) (by omega) ?_
    exact W.iret (v := (-1)) hx hb hr (fun t ht hW => ⟨⟨_, (), rfl, Or.inr (⟨by omega, rfl⟩), trivial⟩, hS.F ht⟩) hS.2.2 dX7_lay_12
