set_option maxHeartbeats 4000000 in
set_option maxRecDepth 100000 in
theorem k_X2_hasRoom_forces (l : Launch) (D : va_G) (c : Nat → ClassId) (ts : Nat × Nat) (sz : Nat) (A_cells : Nat) (A_self : Nat) (self_size : Int32) (i_self_size : Int) (hi_self_size : self_size.toInt = i_self_size) (a1 : Int32) (i_a1 : Int) (hi_a1 : a1.toInt = i_a1) (hv_self_size : 0 ≤ i_self_size ∧ i_self_size ≤ 40) (hv_a1 : 0 ≤ i_a1 ∧ i_a1 ≤ 4000) : Met l yX2_hasRoom wsX2_hasRoom ({ frames := 0, cells := 0, slots := 0, locals := 0 }) (va_Pc [.ref A_self, .int a1] (Pre0 D c ts [(A_self, .inr (2, [.int 2, .int 40, .ref A_cells, .int self_size]))] sz)) (vp_Si (fun r : Int32 => (((i_self_size + i_a1 ≤ 40) ∧ r = 1) ∨ ((¬ (i_self_size + i_a1 ≤ 40)) ∧ r = 0)))) 0 0 (fun _ => False) := by
  refine Met.ofW (cc := cX2_hasRoom) (maxL := 2) (ret := (some .boolean)) (by decide) rfl ?_
  intro p e s m args below meth cd s₁ B hml hv
  obtain ⟨rfl, hsz, hP, hD0, hAm, hSt⟩ := hv
  have hx := B.exec
  have hb := B.bytes
  have hr := B.returns
  have hts := atoms_spec (ws := wsX2_hasRoom) B.pre
  have hown : s.vm.findClass RX2 = some m.cls := findClass_of_methodNamed B.named
  have hlocks := B.notSynchronized
  have hK := hAm.1
  subst hsz
  have hD := hD0.self (sz := s.heap.size)
  generalize hAe : va_A [(A_self, .inr (2, [.int 2, .int 40, .ref A_cells, .int self_size]))] s.heap.size = A at hD hSt
  have hA : ∀ q : Nat, s.heap.size ≤ q → A q := fun q h => by rw [← hAe]; exact Or.inr h
  have hS : va_S A s.heap s.heap [] := va_S.rf
  clear hD0 hAe
  have hl := lv_entry ([.ref A_self, .int a1]) (n := 2) (Nat.le_of_ble_eq_true rfl)
  rw [lg_entry_eq]
  generalize (lg_sl ([.ref A_self, .int a1]) ++ List.replicate (2 - (lg_sl ([.ref A_self, .int a1])).length) Slot.unset).toArray = ls at hl ⊢
  have hl : lv_has ls 2 [(0, .ref A_self), (1, .int a1)] := hl
  refine lv_aload_n hx hb dX2_hasRoom_0 rfl (lv_at hl 0 rfl) ?_
  refine va_get (D := D) (ci := 2) (v := .int self_size) (C := RX2) (T := TX2) (N := 4) hx hb hts (fun _ h => List.mem_cons_of_mem _ (List.mem_append_right _ h)) hown hK hP 0 rfl rfl 3 (by decide) (hts (.fieldLink RX2 28 "CrownTable$Rows" "size" "I") (mem_i 1 rfl)) (fun _ h9 => h9) rfl dX2_hasRoom_1 ?_
  refine lv_iload_n hx hb dX2_hasRoom_4 rfl (lv_at hl 1 rfl) ?_
  refine lv_iadd hx hb dX2_hasRoom_5 ?_
  refine lv_topi (fun x_1 ex_1 => ?_)
  have tx_1 : x_1.toInt = (i_self_size + i_a1) := by rw [ex_1]; exact add_ti (a := i_self_size) (b := i_a1) hi_self_size hi_a1 (by omega) (by omega)
  refine lv_aload_n hx hb dX2_hasRoom_6 rfl (lv_at hl 0 rfl) ?_
  refine va_get (D := D) (ci := 2) (v := .int 40) (C := RX2) (T := TX2) (N := 4) hx hb hts (fun _ h => List.mem_cons_of_mem _ (List.mem_append_right _ h)) hown hK hP 0 rfl rfl 1 (by decide) (hts (.fieldLink RX2 21 "CrownTable$Rows" "most" "I") (mem_i 2 rfl)) (fun _ h9 => h9) rfl dX2_hasRoom_7 ?_
  refine iicmp_gt (a := (i_self_size + i_a1)) (b := 40) (tgt := 17) hx hb tx_1 (by decide) dX2_hasRoom_10 (by decide) (fun k_2 => ?_) (fun k_2 => ?_)
  · skip
    refine lv_iconst (v := 0) hx hb dX2_hasRoom_17 (by decide) ?_
    have kzz_3 : (0 : Int32).toInt = 0 := by decide
    exact W.zret (v := 0) hx hb hr (by decide) (fun t ht hW => ⟨_, rfl, Or.inr (⟨by omega, rfl⟩), ht⟩) (fun _ h => by cases h) dX2_hasRoom_18
  · skip
    refine lv_iconst (v := 1) hx hb dX2_hasRoom_13 (by decide) ?_
    refine lv_goto (tgt := 18) hx hb dX2_hasRoom_14 (by decide) ?_
    have kzz_4 : (1 : Int32).toInt = 1 := by decide
    exact W.zret (v := 1) hx hb hr (by decide) (fun t ht hW => ⟨_, rfl, Or.inl ⟨by omega, rfl⟩, ht⟩) (fun _ h => by cases h) dX2_hasRoom_18

set_option maxHeartbeats 4000000 in
set_option maxRecDepth 100000 in
theorem k_X2_hasRoom_debts (l : Launch) (D : va_G) (c : Nat → ClassId) (ts : Nat × Nat) (sz : Nat) (A_cells : Nat) (A_self : Nat) (self_size : Int32) (i_self_size : Int) (hi_self_size : self_size.toInt = i_self_size) (a1 : Int32) (i_a1 : Int) (hi_a1 : a1.toInt = i_a1) (hv_self_size : 0 ≤ i_self_size ∧ i_self_size ≤ 400) (hv_a1 : 0 ≤ i_a1 ∧ i_a1 ≤ 4000) : Met l yX2_hasRoom wsX2_hasRoom ({ frames := 0, cells := 0, slots := 0, locals := 0 }) (va_Pc [.ref A_self, .int a1] (Pre0 D c ts [(A_self, .inr (2, [.int 7, .int 400, .ref A_cells, .int self_size]))] sz)) (vp_Si (fun r : Int32 => (((i_self_size + i_a1 ≤ 400) ∧ r = 1) ∨ ((¬ (i_self_size + i_a1 ≤ 400)) ∧ r = 0)))) 0 0 (fun _ => False) := by
  refine Met.ofW (cc := cX2_hasRoom) (maxL := 2) (ret := (some .boolean)) (by decide) rfl ?_
  intro p e s m args below meth cd s₁ B hml hv
  obtain ⟨rfl, hsz, hP, hD0, hAm, hSt⟩ := hv
  have hx := B.exec
  have hb := B.bytes
  have hr := B.returns
  have hts := atoms_spec (ws := wsX2_hasRoom) B.pre
  have hown : s.vm.findClass RX2 = some m.cls := findClass_of_methodNamed B.named
  have hlocks := B.notSynchronized
  have hK := hAm.1
  subst hsz
  have hD := hD0.self (sz := s.heap.size)
  generalize hAe : va_A [(A_self, .inr (2, [.int 7, .int 400, .ref A_cells, .int self_size]))] s.heap.size = A at hD hSt
  have hA : ∀ q : Nat, s.heap.size ≤ q → A q := fun q h => by rw [← hAe]; exact Or.inr h
  have hS : va_S A s.heap s.heap [] := va_S.rf
  clear hD0 hAe
  have hl := lv_entry ([.ref A_self, .int a1]) (n := 2) (Nat.le_of_ble_eq_true rfl)
  rw [lg_entry_eq]
  generalize (lg_sl ([.ref A_self, .int a1]) ++ List.replicate (2 - (lg_sl ([.ref A_self, .int a1])).length) Slot.unset).toArray = ls at hl ⊢
  have hl : lv_has ls 2 [(0, .ref A_self), (1, .int a1)] := hl
  refine lv_aload_n hx hb dX2_hasRoom_0 rfl (lv_at hl 0 rfl) ?_
  refine va_get (D := D) (ci := 2) (v := .int self_size) (C := RX2) (T := TX2) (N := 4) hx hb hts (fun _ h => List.mem_cons_of_mem _ (List.mem_append_right _ h)) hown hK hP 0 rfl rfl 3 (by decide) (hts (.fieldLink RX2 28 "CrownTable$Rows" "size" "I") (mem_i 1 rfl)) (fun _ h9 => h9) rfl dX2_hasRoom_1 ?_
  refine lv_iload_n hx hb dX2_hasRoom_4 rfl (lv_at hl 1 rfl) ?_
  refine lv_iadd hx hb dX2_hasRoom_5 ?_
  refine lv_topi (fun x_1 ex_1 => ?_)
  have tx_1 : x_1.toInt = (i_self_size + i_a1) := by rw [ex_1]; exact add_ti (a := i_self_size) (b := i_a1) hi_self_size hi_a1 (by omega) (by omega)
  refine lv_aload_n hx hb dX2_hasRoom_6 rfl (lv_at hl 0 rfl) ?_
  refine va_get (D := D) (ci := 2) (v := .int 400) (C := RX2) (T := TX2) (N := 4) hx hb hts (fun _ h => List.mem_cons_of_mem _ (List.mem_append_right _ h)) hown hK hP 0 rfl rfl 1 (by decide) (hts (.fieldLink RX2 21 "CrownTable$Rows" "most" "I") (mem_i 2 rfl)) (fun _ h9 => h9) rfl dX2_hasRoom_7 ?_
  refine iicmp_gt (a := (i_self_size + i_a1)) (b := 400) (tgt := 17) hx hb tx_1 (by decide) dX2_hasRoom_10 (by decide) (fun k_2 => ?_) (fun k_2 => ?_)
  · skip
    refine lv_iconst (v := 0) hx hb dX2_hasRoom_17 (by decide) ?_
    have kzz_3 : (0 : Int32).toInt = 0 := by decide
    exact W.zret (v := 0) hx hb hr (by decide) (fun t ht hW => ⟨_, rfl, Or.inr (⟨by omega, rfl⟩), ht⟩) (fun _ h => by cases h) dX2_hasRoom_18
  · skip
    refine lv_iconst (v := 1) hx hb dX2_hasRoom_13 (by decide) ?_
    refine lv_goto (tgt := 18) hx hb dX2_hasRoom_14 (by decide) ?_
    have kzz_4 : (1 : Int32).toInt = 1 := by decide
    exact W.zret (v := 1) hx hb hr (by decide) (fun t ht hW => ⟨_, rfl, Or.inl ⟨by omega, rfl⟩, ht⟩) (fun _ h => by cases h) dX2_hasRoom_18

set_option maxHeartbeats 4000000 in
set_option maxRecDepth 100000 in
theorem k_X2_hasRoom_roll (l : Launch) (D : va_G) (c : Nat → ClassId) (ts : Nat × Nat) (sz : Nat) (A_cells : Nat) (A_self : Nat) (self_size : Int32) (i_self_size : Int) (hi_self_size : self_size.toInt = i_self_size) (a1 : Int32) (i_a1 : Int) (hi_a1 : a1.toInt = i_a1) (hv_self_size : 0 ≤ i_self_size ∧ i_self_size ≤ 4000) (hv_a1 : 0 ≤ i_a1 ∧ i_a1 ≤ 4000) : Met l yX2_hasRoom wsX2_hasRoom ({ frames := 0, cells := 0, slots := 0, locals := 0 }) (va_Pc [.ref A_self, .int a1] (Pre0 D c ts [(A_self, .inr (2, [.int 8, .int 4000, .ref A_cells, .int self_size]))] sz)) (vp_Si (fun r : Int32 => (((i_self_size + i_a1 ≤ 4000) ∧ r = 1) ∨ ((¬ (i_self_size + i_a1 ≤ 4000)) ∧ r = 0)))) 0 0 (fun _ => False) := by
  refine Met.ofW (cc := cX2_hasRoom) (maxL := 2) (ret := (some .boolean)) (by decide) rfl ?_
  intro p e s m args below meth cd s₁ B hml hv
  obtain ⟨rfl, hsz, hP, hD0, hAm, hSt⟩ := hv
  have hx := B.exec
  have hb := B.bytes
  have hr := B.returns
  have hts := atoms_spec (ws := wsX2_hasRoom) B.pre
  have hown : s.vm.findClass RX2 = some m.cls := findClass_of_methodNamed B.named
  have hlocks := B.notSynchronized
  have hK := hAm.1
  subst hsz
  have hD := hD0.self (sz := s.heap.size)
  generalize hAe : va_A [(A_self, .inr (2, [.int 8, .int 4000, .ref A_cells, .int self_size]))] s.heap.size = A at hD hSt
  have hA : ∀ q : Nat, s.heap.size ≤ q → A q := fun q h => by rw [← hAe]; exact Or.inr h
  have hS : va_S A s.heap s.heap [] := va_S.rf
  clear hD0 hAe
  have hl := lv_entry ([.ref A_self, .int a1]) (n := 2) (Nat.le_of_ble_eq_true rfl)
  rw [lg_entry_eq]
  generalize (lg_sl ([.ref A_self, .int a1]) ++ List.replicate (2 - (lg_sl ([.ref A_self, .int a1])).length) Slot.unset).toArray = ls at hl ⊢
  have hl : lv_has ls 2 [(0, .ref A_self), (1, .int a1)] := hl
  refine lv_aload_n hx hb dX2_hasRoom_0 rfl (lv_at hl 0 rfl) ?_
  refine va_get (D := D) (ci := 2) (v := .int self_size) (C := RX2) (T := TX2) (N := 4) hx hb hts (fun _ h => List.mem_cons_of_mem _ (List.mem_append_right _ h)) hown hK hP 0 rfl rfl 3 (by decide) (hts (.fieldLink RX2 28 "CrownTable$Rows" "size" "I") (mem_i 1 rfl)) (fun _ h9 => h9) rfl dX2_hasRoom_1 ?_
  refine lv_iload_n hx hb dX2_hasRoom_4 rfl (lv_at hl 1 rfl) ?_
  refine lv_iadd hx hb dX2_hasRoom_5 ?_
  refine lv_topi (fun x_1 ex_1 => ?_)
  have tx_1 : x_1.toInt = (i_self_size + i_a1) := by rw [ex_1]; exact add_ti (a := i_self_size) (b := i_a1) hi_self_size hi_a1 (by omega) (by omega)
  refine lv_aload_n hx hb dX2_hasRoom_6 rfl (lv_at hl 0 rfl) ?_
  refine va_get (D := D) (ci := 2) (v := .int 4000) (C := RX2) (T := TX2) (N := 4) hx hb hts (fun _ h => List.mem_cons_of_mem _ (List.mem_append_right _ h)) hown hK hP 0 rfl rfl 1 (by decide) (hts (.fieldLink RX2 21 "CrownTable$Rows" "most" "I") (mem_i 2 rfl)) (fun _ h9 => h9) rfl dX2_hasRoom_7 ?_
  refine iicmp_gt (a := (i_self_size + i_a1)) (b := 4000) (tgt := 17) hx hb tx_1 (by decide) dX2_hasRoom_10 (by decide) (fun k_2 => ?_) (fun k_2 => ?_)
  · skip
    refine lv_iconst (v := 0) hx hb dX2_hasRoom_17 (by decide) ?_
    have kzz_3 : (0 : Int32).toInt = 0 := by decide
    exact W.zret (v := 0) hx hb hr (by decide) (fun t ht hW => ⟨_, rfl, Or.inr (⟨by omega, rfl⟩), ht⟩) (fun _ h => by cases h) dX2_hasRoom_18
  · skip
    refine lv_iconst (v := 1) hx hb dX2_hasRoom_13 (by decide) ?_
    refine lv_goto (tgt := 18) hx hb dX2_hasRoom_14 (by decide) ?_
    have kzz_4 : (1 : Int32).toInt = 1 := by decide
    exact W.zret (v := 1) hx hb hr (by decide) (fun t ht hW => ⟨_, rfl, Or.inl ⟨by omega, rfl⟩, ht⟩) (fun _ h => by cases h) dX2_hasRoom_18

set_option maxHeartbeats 4000000 in
set_option maxRecDepth 100000 in
theorem k_X2_hasRoom_sticks (l : Launch) (D : va_G) (c : Nat → ClassId) (ts : Nat × Nat) (sz : Nat) (A_cells : Nat) (A_self : Nat) (self_size : Int32) (i_self_size : Int) (hi_self_size : self_size.toInt = i_self_size) (a1 : Int32) (i_a1 : Int) (hi_a1 : a1.toInt = i_a1) (hv_self_size : 0 ≤ i_self_size ∧ i_self_size ≤ 2000) (hv_a1 : 0 ≤ i_a1 ∧ i_a1 ≤ 4000) : Met l yX2_hasRoom wsX2_hasRoom ({ frames := 0, cells := 0, slots := 0, locals := 0 }) (va_Pc [.ref A_self, .int a1] (Pre0 D c ts [(A_self, .inr (2, [.int 1, .int 2000, .ref A_cells, .int self_size]))] sz)) (vp_Si (fun r : Int32 => (((i_self_size + i_a1 ≤ 2000) ∧ r = 1) ∨ ((¬ (i_self_size + i_a1 ≤ 2000)) ∧ r = 0)))) 0 0 (fun _ => False) := by
  refine Met.ofW (cc := cX2_hasRoom) (maxL := 2) (ret := (some .boolean)) (by decide) rfl ?_
  intro p e s m args below meth cd s₁ B hml hv
  obtain ⟨rfl, hsz, hP, hD0, hAm, hSt⟩ := hv
  have hx := B.exec
  have hb := B.bytes
  have hr := B.returns
  have hts := atoms_spec (ws := wsX2_hasRoom) B.pre
  have hown : s.vm.findClass RX2 = some m.cls := findClass_of_methodNamed B.named
  have hlocks := B.notSynchronized
  have hK := hAm.1
  subst hsz
  have hD := hD0.self (sz := s.heap.size)
  generalize hAe : va_A [(A_self, .inr (2, [.int 1, .int 2000, .ref A_cells, .int self_size]))] s.heap.size = A at hD hSt
  have hA : ∀ q : Nat, s.heap.size ≤ q → A q := fun q h => by rw [← hAe]; exact Or.inr h
  have hS : va_S A s.heap s.heap [] := va_S.rf
  clear hD0 hAe
  have hl := lv_entry ([.ref A_self, .int a1]) (n := 2) (Nat.le_of_ble_eq_true rfl)
  rw [lg_entry_eq]
  generalize (lg_sl ([.ref A_self, .int a1]) ++ List.replicate (2 - (lg_sl ([.ref A_self, .int a1])).length) Slot.unset).toArray = ls at hl ⊢
  have hl : lv_has ls 2 [(0, .ref A_self), (1, .int a1)] := hl
  refine lv_aload_n hx hb dX2_hasRoom_0 rfl (lv_at hl 0 rfl) ?_
  refine va_get (D := D) (ci := 2) (v := .int self_size) (C := RX2) (T := TX2) (N := 4) hx hb hts (fun _ h => List.mem_cons_of_mem _ (List.mem_append_right _ h)) hown hK hP 0 rfl rfl 3 (by decide) (hts (.fieldLink RX2 28 "CrownTable$Rows" "size" "I") (mem_i 1 rfl)) (fun _ h9 => h9) rfl dX2_hasRoom_1 ?_
  refine lv_iload_n hx hb dX2_hasRoom_4 rfl (lv_at hl 1 rfl) ?_
  refine lv_iadd hx hb dX2_hasRoom_5 ?_
  refine lv_topi (fun x_1 ex_1 => ?_)
  have tx_1 : x_1.toInt = (i_self_size + i_a1) := by rw [ex_1]; exact add_ti (a := i_self_size) (b := i_a1) hi_self_size hi_a1 (by omega) (by omega)
  refine lv_aload_n hx hb dX2_hasRoom_6 rfl (lv_at hl 0 rfl) ?_
  refine va_get (D := D) (ci := 2) (v := .int 2000) (C := RX2) (T := TX2) (N := 4) hx hb hts (fun _ h => List.mem_cons_of_mem _ (List.mem_append_right _ h)) hown hK hP 0 rfl rfl 1 (by decide) (hts (.fieldLink RX2 21 "CrownTable$Rows" "most" "I") (mem_i 2 rfl)) (fun _ h9 => h9) rfl dX2_hasRoom_7 ?_
  refine iicmp_gt (a := (i_self_size + i_a1)) (b := 2000) (tgt := 17) hx hb tx_1 (by decide) dX2_hasRoom_10 (by decide) (fun k_2 => ?_) (fun k_2 => ?_)
  · skip
    refine lv_iconst (v := 0) hx hb dX2_hasRoom_17 (by decide) ?_
    have kzz_3 : (0 : Int32).toInt = 0 := by decide
    exact W.zret (v := 0) hx hb hr (by decide) (fun t ht hW => ⟨_, rfl, Or.inr (⟨by omega, rfl⟩), ht⟩) (fun _ h => by cases h) dX2_hasRoom_18
  · skip
    refine lv_iconst (v := 1) hx hb dX2_hasRoom_13 (by decide) ?_
    refine lv_goto (tgt := 18) hx hb dX2_hasRoom_14 (by decide) ?_
    have kzz_4 : (1 : Int32).toInt = 1 := by decide
    exact W.zret (v := 1) hx hb hr (by decide) (fun t ht hW => ⟨_, rfl, Or.inl ⟨by omega, rfl⟩, ht⟩) (fun _ h => by cases h) dX2_hasRoom_18

set_option maxHeartbeats 4000000 in
set_option maxRecDepth 100000 in
theorem k_X2_has_forces (l : Launch) (D : va_G) (c : Nat → ClassId) (ts : Nat × Nat) (sz : Nat) (A_cells : Nat) (A_self : Nat) (self_size : Int32) (i_self_size : Int) (hi_self_size : self_size.toInt = i_self_size) (a1 : Int32) (i_a1 : Int) (hi_a1 : a1.toInt = i_a1) (a2 : Int32) (i_a2 : Int) (hi_a2 : a2.toInt = i_a2) (hv_self_size : 0 ≤ i_self_size ∧ i_self_size ≤ 40) : Met l yX2_has wsX2_has ({ frames := 0, cells := 0, slots := 0, locals := 0 }) (va_Pc [.ref A_self, .int a1, .int a2] (Pre0 D c ts [(A_self, .inr (2, [.int 2, .int 40, .ref A_cells, .int self_size]))] sz)) (vp_Si (fun r : Int32 => (((0 ≤ i_a1 ∧ i_a1 < i_self_size ∧ 0 ≤ i_a2 ∧ i_a2 < 2) ∧ r = 1) ∨ ((¬ (0 ≤ i_a1 ∧ i_a1 < i_self_size ∧ 0 ≤ i_a2 ∧ i_a2 < 2)) ∧ r = 0)))) 0 0 (fun _ => False) := by
  refine Met.ofW (cc := cX2_has) (maxL := 3) (ret := (some .boolean)) (by decide) rfl ?_
  intro p e s m args below meth cd s₁ B hml hv
  obtain ⟨rfl, hsz, hP, hD0, hAm, hSt⟩ := hv
  have hx := B.exec
  have hb := B.bytes
  have hr := B.returns
  have hts := atoms_spec (ws := wsX2_has) B.pre
  have hown : s.vm.findClass RX2 = some m.cls := findClass_of_methodNamed B.named
  have hlocks := B.notSynchronized
  have hK := hAm.1
  subst hsz
  have hD := hD0.self (sz := s.heap.size)
  generalize hAe : va_A [(A_self, .inr (2, [.int 2, .int 40, .ref A_cells, .int self_size]))] s.heap.size = A at hD hSt
  have hA : ∀ q : Nat, s.heap.size ≤ q → A q := fun q h => by rw [← hAe]; exact Or.inr h
  have hS : va_S A s.heap s.heap [] := va_S.rf
  clear hD0 hAe
  have hl := lv_entry ([.ref A_self, .int a1, .int a2]) (n := 3) (Nat.le_of_ble_eq_true rfl)
  rw [lg_entry_eq]
  generalize (lg_sl ([.ref A_self, .int a1, .int a2]) ++ List.replicate (3 - (lg_sl ([.ref A_self, .int a1, .int a2])).length) Slot.unset).toArray = ls at hl ⊢
  have hl : lv_has ls 3 [(0, .ref A_self), (1, .int a1), (2, .int a2)] := hl
  have rg_a1 := i32r a1
  have rg_a2 := i32r a2
  refine lv_iload_n hx hb dX2_has_0 rfl (lv_at hl 1 rfl) ?_
  refine iif_lt (a := i_a1) (tgt := 28) hx hb hi_a1 dX2_has_1 (by decide) (fun k_1 => ?_) (fun k_1 => ?_)
  · skip
    refine lv_iconst (v := 0) hx hb dX2_has_28 (by decide) ?_
    have kzz_2 : (0 : Int32).toInt = 0 := by decide
    exact W.zret (v := 0) hx hb hr (by decide) (fun t ht hW => ⟨_, rfl, Or.inr (⟨by omega, rfl⟩), ht⟩) (fun _ h => by cases h) dX2_has_29
  · skip
    refine lv_iload_n hx hb dX2_has_4 rfl (lv_at hl 1 rfl) ?_
    refine lv_aload_n hx hb dX2_has_5 rfl (lv_at hl 0 rfl) ?_
    refine va_get (D := D) (ci := 2) (v := .int self_size) (C := RX2) (T := TX2) (N := 4) hx hb hts (fun _ h => List.mem_cons_of_mem _ (List.mem_append_right _ h)) hown hK hP 0 rfl rfl 3 (by decide) (hts (.fieldLink RX2 28 "CrownTable$Rows" "size" "I") (mem_i 1 rfl)) (fun _ h9 => h9) rfl dX2_has_6 ?_
    refine iicmp_ge (a := i_a1) (b := i_self_size) (tgt := 28) hx hb hi_a1 hi_self_size dX2_has_9 (by decide) (fun k_3 => ?_) (fun k_3 => ?_)
    · skip
      refine lv_iconst (v := 0) hx hb dX2_has_28 (by decide) ?_
      have kzz_4 : (0 : Int32).toInt = 0 := by decide
      exact W.zret (v := 0) hx hb hr (by decide) (fun t ht hW => ⟨_, rfl, Or.inr (⟨by omega, rfl⟩), ht⟩) (fun _ h => by cases h) dX2_has_29
    · skip
      refine lv_iload_n hx hb dX2_has_12 rfl (lv_at hl 2 rfl) ?_
      refine iif_lt (a := i_a2) (tgt := 28) hx hb hi_a2 dX2_has_13 (by decide) (fun k_5 => ?_) (fun k_5 => ?_)
      · skip
        refine lv_iconst (v := 0) hx hb dX2_has_28 (by decide) ?_
        have kzz_6 : (0 : Int32).toInt = 0 := by decide
        exact W.zret (v := 0) hx hb hr (by decide) (fun t ht hW => ⟨_, rfl, Or.inr (⟨by omega, rfl⟩), ht⟩) (fun _ h => by cases h) dX2_has_29
      · skip
        refine lv_iload_n hx hb dX2_has_16 rfl (lv_at hl 2 rfl) ?_
        refine lv_aload_n hx hb dX2_has_17 rfl (lv_at hl 0 rfl) ?_
        refine va_get (D := D) (ci := 2) (v := .int 2) (C := RX2) (T := TX2) (N := 4) hx hb hts (fun _ h => List.mem_cons_of_mem _ (List.mem_append_right _ h)) hown hK hP 0 rfl rfl 0 (by decide) (hts (.fieldLink RX2 15 "CrownTable$Rows" "width" "I") (mem_i 2 rfl)) (fun _ h9 => h9) rfl dX2_has_18 ?_
        refine iicmp_ge (a := i_a2) (b := 2) (tgt := 28) hx hb hi_a2 (by decide) dX2_has_21 (by decide) (fun k_7 => ?_) (fun k_7 => ?_)
        · skip
          refine lv_iconst (v := 0) hx hb dX2_has_28 (by decide) ?_
          have kzz_8 : (0 : Int32).toInt = 0 := by decide
          exact W.zret (v := 0) hx hb hr (by decide) (fun t ht hW => ⟨_, rfl, Or.inr (⟨by omega, rfl⟩), ht⟩) (fun _ h => by cases h) dX2_has_29
        · skip
          refine lv_iconst (v := 1) hx hb dX2_has_24 (by decide) ?_
          refine lv_goto (tgt := 29) hx hb dX2_has_25 (by decide) ?_
          have kzz_9 : (1 : Int32).toInt = 1 := by decide
          exact W.zret (v := 1) hx hb hr (by decide) (fun t ht hW => ⟨_, rfl, Or.inl ⟨by omega, rfl⟩, ht⟩) (fun _ h => by cases h) dX2_has_29

set_option maxHeartbeats 4000000 in
set_option maxRecDepth 100000 in
theorem k_X2_has_debts (l : Launch) (D : va_G) (c : Nat → ClassId) (ts : Nat × Nat) (sz : Nat) (A_cells : Nat) (A_self : Nat) (self_size : Int32) (i_self_size : Int) (hi_self_size : self_size.toInt = i_self_size) (a1 : Int32) (i_a1 : Int) (hi_a1 : a1.toInt = i_a1) (a2 : Int32) (i_a2 : Int) (hi_a2 : a2.toInt = i_a2) (hv_self_size : 0 ≤ i_self_size ∧ i_self_size ≤ 400) : Met l yX2_has wsX2_has ({ frames := 0, cells := 0, slots := 0, locals := 0 }) (va_Pc [.ref A_self, .int a1, .int a2] (Pre0 D c ts [(A_self, .inr (2, [.int 7, .int 400, .ref A_cells, .int self_size]))] sz)) (vp_Si (fun r : Int32 => (((0 ≤ i_a1 ∧ i_a1 < i_self_size ∧ 0 ≤ i_a2 ∧ i_a2 < 7) ∧ r = 1) ∨ ((¬ (0 ≤ i_a1 ∧ i_a1 < i_self_size ∧ 0 ≤ i_a2 ∧ i_a2 < 7)) ∧ r = 0)))) 0 0 (fun _ => False) := by
  refine Met.ofW (cc := cX2_has) (maxL := 3) (ret := (some .boolean)) (by decide) rfl ?_
  intro p e s m args below meth cd s₁ B hml hv
  obtain ⟨rfl, hsz, hP, hD0, hAm, hSt⟩ := hv
  have hx := B.exec
  have hb := B.bytes
  have hr := B.returns
  have hts := atoms_spec (ws := wsX2_has) B.pre
  have hown : s.vm.findClass RX2 = some m.cls := findClass_of_methodNamed B.named
  have hlocks := B.notSynchronized
  have hK := hAm.1
  subst hsz
  have hD := hD0.self (sz := s.heap.size)
  generalize hAe : va_A [(A_self, .inr (2, [.int 7, .int 400, .ref A_cells, .int self_size]))] s.heap.size = A at hD hSt
  have hA : ∀ q : Nat, s.heap.size ≤ q → A q := fun q h => by rw [← hAe]; exact Or.inr h
  have hS : va_S A s.heap s.heap [] := va_S.rf
  clear hD0 hAe
  have hl := lv_entry ([.ref A_self, .int a1, .int a2]) (n := 3) (Nat.le_of_ble_eq_true rfl)
  rw [lg_entry_eq]
  generalize (lg_sl ([.ref A_self, .int a1, .int a2]) ++ List.replicate (3 - (lg_sl ([.ref A_self, .int a1, .int a2])).length) Slot.unset).toArray = ls at hl ⊢
  have hl : lv_has ls 3 [(0, .ref A_self), (1, .int a1), (2, .int a2)] := hl
  have rg_a1 := i32r a1
  have rg_a2 := i32r a2
  refine lv_iload_n hx hb dX2_has_0 rfl (lv_at hl 1 rfl) ?_
  refine iif_lt (a := i_a1) (tgt := 28) hx hb hi_a1 dX2_has_1 (by decide) (fun k_1 => ?_) (fun k_1 => ?_)
  · skip
    refine lv_iconst (v := 0) hx hb dX2_has_28 (by decide) ?_
    have kzz_2 : (0 : Int32).toInt = 0 := by decide
    exact W.zret (v := 0) hx hb hr (by decide) (fun t ht hW => ⟨_, rfl, Or.inr (⟨by omega, rfl⟩), ht⟩) (fun _ h => by cases h) dX2_has_29
  · skip
    refine lv_iload_n hx hb dX2_has_4 rfl (lv_at hl 1 rfl) ?_
    refine lv_aload_n hx hb dX2_has_5 rfl (lv_at hl 0 rfl) ?_
    refine va_get (D := D) (ci := 2) (v := .int self_size) (C := RX2) (T := TX2) (N := 4) hx hb hts (fun _ h => List.mem_cons_of_mem _ (List.mem_append_right _ h)) hown hK hP 0 rfl rfl 3 (by decide) (hts (.fieldLink RX2 28 "CrownTable$Rows" "size" "I") (mem_i 1 rfl)) (fun _ h9 => h9) rfl dX2_has_6 ?_
    refine iicmp_ge (a := i_a1) (b := i_self_size) (tgt := 28) hx hb hi_a1 hi_self_size dX2_has_9 (by decide) (fun k_3 => ?_) (fun k_3 => ?_)
    · skip
      refine lv_iconst (v := 0) hx hb dX2_has_28 (by decide) ?_
      have kzz_4 : (0 : Int32).toInt = 0 := by decide
      exact W.zret (v := 0) hx hb hr (by decide) (fun t ht hW => ⟨_, rfl, Or.inr (⟨by omega, rfl⟩), ht⟩) (fun _ h => by cases h) dX2_has_29
    · skip
      refine lv_iload_n hx hb dX2_has_12 rfl (lv_at hl 2 rfl) ?_
      refine iif_lt (a := i_a2) (tgt := 28) hx hb hi_a2 dX2_has_13 (by decide) (fun k_5 => ?_) (fun k_5 => ?_)
      · skip
        refine lv_iconst (v := 0) hx hb dX2_has_28 (by decide) ?_
        have kzz_6 : (0 : Int32).toInt = 0 := by decide
        exact W.zret (v := 0) hx hb hr (by decide) (fun t ht hW => ⟨_, rfl, Or.inr (⟨by omega, rfl⟩), ht⟩) (fun _ h => by cases h) dX2_has_29
      · skip
        refine lv_iload_n hx hb dX2_has_16 rfl (lv_at hl 2 rfl) ?_
        refine lv_aload_n hx hb dX2_has_17 rfl (lv_at hl 0 rfl) ?_
        refine va_get (D := D) (ci := 2) (v := .int 7) (C := RX2) (T := TX2) (N := 4) hx hb hts (fun _ h => List.mem_cons_of_mem _ (List.mem_append_right _ h)) hown hK hP 0 rfl rfl 0 (by decide) (hts (.fieldLink RX2 15 "CrownTable$Rows" "width" "I") (mem_i 2 rfl)) (fun _ h9 => h9) rfl dX2_has_18 ?_
        refine iicmp_ge (a := i_a2) (b := 7) (tgt := 28) hx hb hi_a2 (by decide) dX2_has_21 (by decide) (fun k_7 => ?_) (fun k_7 => ?_)
        · skip
          refine lv_iconst (v := 0) hx hb dX2_has_28 (by decide) ?_
          have kzz_8 : (0 : Int32).toInt = 0 := by decide
          exact W.zret (v := 0) hx hb hr (by decide) (fun t ht hW => ⟨_, rfl, Or.inr (⟨by omega, rfl⟩), ht⟩) (fun _ h => by cases h) dX2_has_29
        · skip
          refine lv_iconst (v := 1) hx hb dX2_has_24 (by decide) ?_
          refine lv_goto (tgt := 29) hx hb dX2_has_25 (by decide) ?_
          have kzz_9 : (1 : Int32).toInt = 1 := by decide
          exact W.zret (v := 1) hx hb hr (by decide) (fun t ht hW => ⟨_, rfl, Or.inl ⟨by omega, rfl⟩, ht⟩) (fun _ h => by cases h) dX2_has_29

set_option maxHeartbeats 4000000 in
set_option maxRecDepth 100000 in
theorem k_X2_has_roll (l : Launch) (D : va_G) (c : Nat → ClassId) (ts : Nat × Nat) (sz : Nat) (A_cells : Nat) (A_self : Nat) (self_size : Int32) (i_self_size : Int) (hi_self_size : self_size.toInt = i_self_size) (a1 : Int32) (i_a1 : Int) (hi_a1 : a1.toInt = i_a1) (a2 : Int32) (i_a2 : Int) (hi_a2 : a2.toInt = i_a2) (hv_self_size : 0 ≤ i_self_size ∧ i_self_size ≤ 4000) : Met l yX2_has wsX2_has ({ frames := 0, cells := 0, slots := 0, locals := 0 }) (va_Pc [.ref A_self, .int a1, .int a2] (Pre0 D c ts [(A_self, .inr (2, [.int 8, .int 4000, .ref A_cells, .int self_size]))] sz)) (vp_Si (fun r : Int32 => (((0 ≤ i_a1 ∧ i_a1 < i_self_size ∧ 0 ≤ i_a2 ∧ i_a2 < 8) ∧ r = 1) ∨ ((¬ (0 ≤ i_a1 ∧ i_a1 < i_self_size ∧ 0 ≤ i_a2 ∧ i_a2 < 8)) ∧ r = 0)))) 0 0 (fun _ => False) := by
  refine Met.ofW (cc := cX2_has) (maxL := 3) (ret := (some .boolean)) (by decide) rfl ?_
  intro p e s m args below meth cd s₁ B hml hv
  obtain ⟨rfl, hsz, hP, hD0, hAm, hSt⟩ := hv
  have hx := B.exec
  have hb := B.bytes
  have hr := B.returns
  have hts := atoms_spec (ws := wsX2_has) B.pre
  have hown : s.vm.findClass RX2 = some m.cls := findClass_of_methodNamed B.named
  have hlocks := B.notSynchronized
  have hK := hAm.1
  subst hsz
  have hD := hD0.self (sz := s.heap.size)
  generalize hAe : va_A [(A_self, .inr (2, [.int 8, .int 4000, .ref A_cells, .int self_size]))] s.heap.size = A at hD hSt
  have hA : ∀ q : Nat, s.heap.size ≤ q → A q := fun q h => by rw [← hAe]; exact Or.inr h
  have hS : va_S A s.heap s.heap [] := va_S.rf
  clear hD0 hAe
  have hl := lv_entry ([.ref A_self, .int a1, .int a2]) (n := 3) (Nat.le_of_ble_eq_true rfl)
  rw [lg_entry_eq]
  generalize (lg_sl ([.ref A_self, .int a1, .int a2]) ++ List.replicate (3 - (lg_sl ([.ref A_self, .int a1, .int a2])).length) Slot.unset).toArray = ls at hl ⊢
  have hl : lv_has ls 3 [(0, .ref A_self), (1, .int a1), (2, .int a2)] := hl
  have rg_a1 := i32r a1
  have rg_a2 := i32r a2
  refine lv_iload_n hx hb dX2_has_0 rfl (lv_at hl 1 rfl) ?_
  refine iif_lt (a := i_a1) (tgt := 28) hx hb hi_a1 dX2_has_1 (by decide) (fun k_1 => ?_) (fun k_1 => ?_)
  · skip
    refine lv_iconst (v := 0) hx hb dX2_has_28 (by decide) ?_
    have kzz_2 : (0 : Int32).toInt = 0 := by decide
    exact W.zret (v := 0) hx hb hr (by decide) (fun t ht hW => ⟨_, rfl, Or.inr (⟨by omega, rfl⟩), ht⟩) (fun _ h => by cases h) dX2_has_29
  · skip
    refine lv_iload_n hx hb dX2_has_4 rfl (lv_at hl 1 rfl) ?_
    refine lv_aload_n hx hb dX2_has_5 rfl (lv_at hl 0 rfl) ?_
    refine va_get (D := D) (ci := 2) (v := .int self_size) (C := RX2) (T := TX2) (N := 4) hx hb hts (fun _ h => List.mem_cons_of_mem _ (List.mem_append_right _ h)) hown hK hP 0 rfl rfl 3 (by decide) (hts (.fieldLink RX2 28 "CrownTable$Rows" "size" "I") (mem_i 1 rfl)) (fun _ h9 => h9) rfl dX2_has_6 ?_
    refine iicmp_ge (a := i_a1) (b := i_self_size) (tgt := 28) hx hb hi_a1 hi_self_size dX2_has_9 (by decide) (fun k_3 => ?_) (fun k_3 => ?_)
    · skip
      refine lv_iconst (v := 0) hx hb dX2_has_28 (by decide) ?_
      have kzz_4 : (0 : Int32).toInt = 0 := by decide
      exact W.zret (v := 0) hx hb hr (by decide) (fun t ht hW => ⟨_, rfl, Or.inr (⟨by omega, rfl⟩), ht⟩) (fun _ h => by cases h) dX2_has_29
    · skip
      refine lv_iload_n hx hb dX2_has_12 rfl (lv_at hl 2 rfl) ?_
      refine iif_lt (a := i_a2) (tgt := 28) hx hb hi_a2 dX2_has_13 (by decide) (fun k_5 => ?_) (fun k_5 => ?_)
      · skip
        refine lv_iconst (v := 0) hx hb dX2_has_28 (by decide) ?_
        have kzz_6 : (0 : Int32).toInt = 0 := by decide
        exact W.zret (v := 0) hx hb hr (by decide) (fun t ht hW => ⟨_, rfl, Or.inr (⟨by omega, rfl⟩), ht⟩) (fun _ h => by cases h) dX2_has_29
      · skip
        refine lv_iload_n hx hb dX2_has_16 rfl (lv_at hl 2 rfl) ?_
        refine lv_aload_n hx hb dX2_has_17 rfl (lv_at hl 0 rfl) ?_
        refine va_get (D := D) (ci := 2) (v := .int 8) (C := RX2) (T := TX2) (N := 4) hx hb hts (fun _ h => List.mem_cons_of_mem _ (List.mem_append_right _ h)) hown hK hP 0 rfl rfl 0 (by decide) (hts (.fieldLink RX2 15 "CrownTable$Rows" "width" "I") (mem_i 2 rfl)) (fun _ h9 => h9) rfl dX2_has_18 ?_
        refine iicmp_ge (a := i_a2) (b := 8) (tgt := 28) hx hb hi_a2 (by decide) dX2_has_21 (by decide) (fun k_7 => ?_) (fun k_7 => ?_)
        · skip
          refine lv_iconst (v := 0) hx hb dX2_has_28 (by decide) ?_
          have kzz_8 : (0 : Int32).toInt = 0 := by decide
          exact W.zret (v := 0) hx hb hr (by decide) (fun t ht hW => ⟨_, rfl, Or.inr (⟨by omega, rfl⟩), ht⟩) (fun _ h => by cases h) dX2_has_29
        · skip
          refine lv_iconst (v := 1) hx hb dX2_has_24 (by decide) ?_
          refine lv_goto (tgt := 29) hx hb dX2_has_25 (by decide) ?_
          have kzz_9 : (1 : Int32).toInt = 1 := by decide
          exact W.zret (v := 1) hx hb hr (by decide) (fun t ht hW => ⟨_, rfl, Or.inl ⟨by omega, rfl⟩, ht⟩) (fun _ h => by cases h) dX2_has_29

set_option maxHeartbeats 4000000 in
set_option maxRecDepth 100000 in
theorem k_X2_has_sticks (l : Launch) (D : va_G) (c : Nat → ClassId) (ts : Nat × Nat) (sz : Nat) (A_cells : Nat) (A_self : Nat) (self_size : Int32) (i_self_size : Int) (hi_self_size : self_size.toInt = i_self_size) (a1 : Int32) (i_a1 : Int) (hi_a1 : a1.toInt = i_a1) (a2 : Int32) (i_a2 : Int) (hi_a2 : a2.toInt = i_a2) (hv_self_size : 0 ≤ i_self_size ∧ i_self_size ≤ 2000) : Met l yX2_has wsX2_has ({ frames := 0, cells := 0, slots := 0, locals := 0 }) (va_Pc [.ref A_self, .int a1, .int a2] (Pre0 D c ts [(A_self, .inr (2, [.int 1, .int 2000, .ref A_cells, .int self_size]))] sz)) (vp_Si (fun r : Int32 => (((0 ≤ i_a1 ∧ i_a1 < i_self_size ∧ 0 ≤ i_a2 ∧ i_a2 < 1) ∧ r = 1) ∨ ((¬ (0 ≤ i_a1 ∧ i_a1 < i_self_size ∧ 0 ≤ i_a2 ∧ i_a2 < 1)) ∧ r = 0)))) 0 0 (fun _ => False) := by
  refine Met.ofW (cc := cX2_has) (maxL := 3) (ret := (some .boolean)) (by decide) rfl ?_
  intro p e s m args below meth cd s₁ B hml hv
  obtain ⟨rfl, hsz, hP, hD0, hAm, hSt⟩ := hv
  have hx := B.exec
  have hb := B.bytes
  have hr := B.returns
  have hts := atoms_spec (ws := wsX2_has) B.pre
  have hown : s.vm.findClass RX2 = some m.cls := findClass_of_methodNamed B.named
  have hlocks := B.notSynchronized
  have hK := hAm.1
  subst hsz
  have hD := hD0.self (sz := s.heap.size)
  generalize hAe : va_A [(A_self, .inr (2, [.int 1, .int 2000, .ref A_cells, .int self_size]))] s.heap.size = A at hD hSt
  have hA : ∀ q : Nat, s.heap.size ≤ q → A q := fun q h => by rw [← hAe]; exact Or.inr h
  have hS : va_S A s.heap s.heap [] := va_S.rf
  clear hD0 hAe
  have hl := lv_entry ([.ref A_self, .int a1, .int a2]) (n := 3) (Nat.le_of_ble_eq_true rfl)
  rw [lg_entry_eq]
  generalize (lg_sl ([.ref A_self, .int a1, .int a2]) ++ List.replicate (3 - (lg_sl ([.ref A_self, .int a1, .int a2])).length) Slot.unset).toArray = ls at hl ⊢
  have hl : lv_has ls 3 [(0, .ref A_self), (1, .int a1), (2, .int a2)] := hl
  have rg_a1 := i32r a1
  have rg_a2 := i32r a2
  refine lv_iload_n hx hb dX2_has_0 rfl (lv_at hl 1 rfl) ?_
  refine iif_lt (a := i_a1) (tgt := 28) hx hb hi_a1 dX2_has_1 (by decide) (fun k_1 => ?_) (fun k_1 => ?_)
  · skip
    refine lv_iconst (v := 0) hx hb dX2_has_28 (by decide) ?_
    have kzz_2 : (0 : Int32).toInt = 0 := by decide
    exact W.zret (v := 0) hx hb hr (by decide) (fun t ht hW => ⟨_, rfl, Or.inr (⟨by omega, rfl⟩), ht⟩) (fun _ h => by cases h) dX2_has_29
  · skip
    refine lv_iload_n hx hb dX2_has_4 rfl (lv_at hl 1 rfl) ?_
    refine lv_aload_n hx hb dX2_has_5 rfl (lv_at hl 0 rfl) ?_
    refine va_get (D := D) (ci := 2) (v := .int self_size) (C := RX2) (T := TX2) (N := 4) hx hb hts (fun _ h => List.mem_cons_of_mem _ (List.mem_append_right _ h)) hown hK hP 0 rfl rfl 3 (by decide) (hts (.fieldLink RX2 28 "CrownTable$Rows" "size" "I") (mem_i 1 rfl)) (fun _ h9 => h9) rfl dX2_has_6 ?_
    refine iicmp_ge (a := i_a1) (b := i_self_size) (tgt := 28) hx hb hi_a1 hi_self_size dX2_has_9 (by decide) (fun k_3 => ?_) (fun k_3 => ?_)
    · skip
      refine lv_iconst (v := 0) hx hb dX2_has_28 (by decide) ?_
      have kzz_4 : (0 : Int32).toInt = 0 := by decide
      exact W.zret (v := 0) hx hb hr (by decide) (fun t ht hW => ⟨_, rfl, Or.inr (⟨by omega, rfl⟩), ht⟩) (fun _ h => by cases h) dX2_has_29
    · skip
      refine lv_iload_n hx hb dX2_has_12 rfl (lv_at hl 2 rfl) ?_
      refine iif_lt (a := i_a2) (tgt := 28) hx hb hi_a2 dX2_has_13 (by decide) (fun k_5 => ?_) (fun k_5 => ?_)
      · skip
        refine lv_iconst (v := 0) hx hb dX2_has_28 (by decide) ?_
        have kzz_6 : (0 : Int32).toInt = 0 := by decide
        exact W.zret (v := 0) hx hb hr (by decide) (fun t ht hW => ⟨_, rfl, Or.inr (⟨by omega, rfl⟩), ht⟩) (fun _ h => by cases h) dX2_has_29
      · skip
        refine lv_iload_n hx hb dX2_has_16 rfl (lv_at hl 2 rfl) ?_
        refine lv_aload_n hx hb dX2_has_17 rfl (lv_at hl 0 rfl) ?_
        refine va_get (D := D) (ci := 2) (v := .int 1) (C := RX2) (T := TX2) (N := 4) hx hb hts (fun _ h => List.mem_cons_of_mem _ (List.mem_append_right _ h)) hown hK hP 0 rfl rfl 0 (by decide) (hts (.fieldLink RX2 15 "CrownTable$Rows" "width" "I") (mem_i 2 rfl)) (fun _ h9 => h9) rfl dX2_has_18 ?_
        refine iicmp_ge (a := i_a2) (b := 1) (tgt := 28) hx hb hi_a2 (by decide) dX2_has_21 (by decide) (fun k_7 => ?_) (fun k_7 => ?_)
        · skip
          refine lv_iconst (v := 0) hx hb dX2_has_28 (by decide) ?_
          have kzz_8 : (0 : Int32).toInt = 0 := by decide
          exact W.zret (v := 0) hx hb hr (by decide) (fun t ht hW => ⟨_, rfl, Or.inr (⟨by omega, rfl⟩), ht⟩) (fun _ h => by cases h) dX2_has_29
        · skip
          refine lv_iconst (v := 1) hx hb dX2_has_24 (by decide) ?_
          refine lv_goto (tgt := 29) hx hb dX2_has_25 (by decide) ?_
          have kzz_9 : (1 : Int32).toInt = 1 := by decide
          exact W.zret (v := 1) hx hb hr (by decide) (fun t ht hW => ⟨_, rfl, Or.inl ⟨by omega, rfl⟩, ht⟩) (fun _ h => by cases h) dX2_has_29

set_option maxHeartbeats 4000000 in
set_option maxRecDepth 100000 in
theorem k_X2_get_forces (l : Launch) (D : va_G) (c : Nat → ClassId) (ts : Nat × Nat) (sz : Nat) (A_cells : Nat) (A_self : Nat) (n_cells : Nat) (f_cells : Nat → Int32) (self_size : Int32) (i_self_size : Int) (hi_self_size : self_size.toInt = i_self_size) (a1 : Int32) (i_a1 : Int) (hi_a1 : a1.toInt = i_a1) (a2 : Int32) (i_a2 : Int) (hi_a2 : a2.toInt = i_a2) (hv_self_size : 0 ≤ i_self_size ∧ i_self_size ≤ 40) (hn_cells : 32 ≤ n_cells ∧ n_cells ≤ 160) (hm_cells : 2 * i_self_size ≤ (n_cells : Int)) : Met l yX2_get wsX2_get ({ frames := 1, cells := 0, slots := 0, locals := 22 }) (va_Pc [.ref A_self, .int a1, .int a2] (Pre0 D c ts [(A_self, .inr (2, [.int 2, .int 40, .ref A_cells, .int self_size])), (A_cells, .inl (c 1, n_cells, .inl f_cells))] sz)) (vp_Si (fun r : Int32 => ((0 ≤ i_a1 ∧ i_a1 < i_self_size ∧ 0 ≤ i_a2 ∧ i_a2 < 2) → r = f_cells (2 * i_a1 + i_a2).toNat))) 0 0 (fun _ => False) := by
  refine Met.ofW (cc := cX2_get) (maxL := 3) (ret := (some .int)) (by decide) rfl ?_
  intro p e s m args below meth cd s₁ B hml hv
  obtain ⟨rfl, hsz, hP, hD0, hAm, hSt⟩ := hv
  have hx := B.exec
  have hb := B.bytes
  have hr := B.returns
  have hts := atoms_spec (ws := wsX2_get) B.pre
  have hown : s.vm.findClass RX2 = some m.cls := findClass_of_methodNamed B.named
  have hlocks := B.notSynchronized
  have hK := hAm.1
  subst hsz
  have hD := hD0.self (sz := s.heap.size)
  generalize hAe : va_A [(A_self, .inr (2, [.int 2, .int 40, .ref A_cells, .int self_size])), (A_cells, .inl (c 1, n_cells, .inl f_cells))] s.heap.size = A at hD hSt
  have hA : ∀ q : Nat, s.heap.size ≤ q → A q := fun q h => by rw [← hAe]; exact Or.inr h
  have hS : va_S A s.heap s.heap [] := va_S.rf
  clear hD0 hAe
  have hl := lv_entry ([.ref A_self, .int a1, .int a2]) (n := 3) (Nat.le_of_ble_eq_true rfl)
  rw [lg_entry_eq]
  generalize (lg_sl ([.ref A_self, .int a1, .int a2]) ++ List.replicate (3 - (lg_sl ([.ref A_self, .int a1, .int a2])).length) Slot.unset).toArray = ls at hl ⊢
  have hl : lv_has ls 3 [(0, .ref A_self), (1, .int a1), (2, .int a2)] := hl
  have rg_a1 := i32r a1
  have rg_a2 := i32r a2
  refine lv_aload_n hx hb dX2_get_0 rfl (lv_at hl 0 rfl) ?_
  refine lv_iload_n hx hb dX2_get_1 rfl (lv_at hl 1 rfl) ?_
  refine lv_iload_n hx hb dX2_get_2 rfl (lv_at hl 2 rfl) ?_
  have hPc := hP.sub (ws' := [(A_self, .inr (2, [.int 2, .int 40, .ref A_cells, .int self_size]))]) [0] rfl
  have hDc := hD.sub (ws' := [(A_self, .inr (2, [.int 2, .int 40, .ref A_cells, .int self_size]))]) [0] (by decide) rfl
  have hFc := va_free (wc := [(A_self, .inr (2, [.int 2, .int 40, .ref A_cells, .int self_size]))]) hD hS hA [0] rfl
  refine va_csi (va_runV (As := [.int a1, .int a2]) (rest := []) ⟨hx, hb, hml, hown, hts⟩ (k_X2_has_forces l D c ts s.heap.size A_cells A_self self_size i_self_size hi_self_size a1 i_a1 hi_a1 a2 i_a2 hi_a2 (by omega)) (cwV 2 hts gX2_get_X2_has rfl rfl rfl ⟨rfl, hdX2_has⟩ ⟨(show 0 + 1 ≤ 1 by decide), (show 8 + (3 + 11) + 0 ≤ 22 by decide)⟩) ⟨Pre0.blind, va_recv hK hPc (ci := 2) (q0 := 0) rfl rfl, Pre0.at hPc hDc hAm hSt hS hFc⟩ rfl rfl hl.1 rfl (lv_room (Nat.le_of_ble_eq_true rfl)) dX2_get_3 ⟨(show 0 + 0 ≤ 0 by decide), (show 0 + 0 ≤ 0 by decide)⟩) (fun r_2 hw_1 => ?_)
  rcases hw_1 with ⟨hw_1, rfl⟩ | ⟨hw_1, rfl⟩
  · skip
    refine iif_eqF (a := 1) (tgt := 25) hx hb (by decide) dX2_get_6 (by decide) (by decide) ?_
    refine lv_aload_n hx hb dX2_get_9 rfl (lv_at hl 0 rfl) ?_
    refine va_get (D := D) (ci := 2) (v := .ref A_cells) (C := RX2) (T := TX2) (N := 4) hx hb hts (fun _ h => List.mem_cons_of_mem _ (List.mem_append_right _ h)) hown hK hP 0 rfl rfl 2 (by decide) (hts (.fieldLink RX2 24 "CrownTable$Rows" "cells" "[I") (mem_i 1 rfl)) (fun _ h9 => h9) rfl dX2_get_10 ?_
    refine lv_iload_n hx hb dX2_get_13 rfl (lv_at hl 1 rfl) ?_
    refine lv_aload_n hx hb dX2_get_14 rfl (lv_at hl 0 rfl) ?_
    refine va_get (D := D) (ci := 2) (v := .int 2) (C := RX2) (T := TX2) (N := 4) hx hb hts (fun _ h => List.mem_cons_of_mem _ (List.mem_append_right _ h)) hown hK hP 0 rfl rfl 0 (by decide) (hts (.fieldLink RX2 15 "CrownTable$Rows" "width" "I") (mem_i 2 rfl)) (fun _ h9 => h9) rfl dX2_get_15 ?_
    refine lv_imul hx hb dX2_get_18 ?_
    refine lv_topi (fun x_3 ex_3 => ?_)
    have tx_3 : x_3.toInt = (i_a1 * 2) := by rw [ex_3]; exact mul_ti (a := i_a1) (b := 2) hi_a1 (by decide) (by omega) (by omega)
    refine lv_iload_n hx hb dX2_get_19 rfl (lv_at hl 2 rfl) ?_
    refine lv_iadd hx hb dX2_get_20 ?_
    refine lv_topi (fun x_4 ex_4 => ?_)
    have tx_4 : x_4.toInt = ((i_a1 * 2) + i_a2) := by rw [ex_4]; exact add_ti (a := (i_a1 * 2)) (b := i_a2) tx_3 hi_a2 (by omega) (by omega)
    refine va_iald hx hb hK hP 1 1 rfl rfl (vin (a := ((i_a1 * 2) + i_a2)) tx_4 (by omega) (by omega)) dX2_get_21 ?_
    refine lv_topi (fun x_5 ex_5 => ?_)
    refine lv_goto (tgt := 26) hx hb dX2_get_22 (by decide) ?_
    exact W.iret (v := x_5) hx hb hr (fun t ht hW => ⟨_, rfl, (fun _ => by rw [ex_5, clampN (a := 2 * i_a1 + i_a2) (by omega)]), ht⟩) (fun _ h => by cases h) dX2_get_26
  · skip
    refine iif_eqT (a := 0) (tgt := 25) hx hb (by decide) dX2_get_6 (by decide) (by decide) ?_
    refine lv_iconst (v := 0) hx hb dX2_get_25 (by decide) ?_
    have kzz_6 : (0 : Int32).toInt = 0 := by decide
    exact W.iret (v := 0) hx hb hr (fun t ht hW => ⟨_, rfl, (fun z9 => absurd z9 (by omega)), ht⟩) (fun _ h => by cases h) dX2_get_26

set_option maxHeartbeats 4000000 in
set_option maxRecDepth 100000 in
theorem k_X2_get_debts (l : Launch) (D : va_G) (c : Nat → ClassId) (ts : Nat × Nat) (sz : Nat) (A_cells : Nat) (A_self : Nat) (n_cells : Nat) (f_cells : Nat → Int32) (self_size : Int32) (i_self_size : Int) (hi_self_size : self_size.toInt = i_self_size) (a1 : Int32) (i_a1 : Int) (hi_a1 : a1.toInt = i_a1) (a2 : Int32) (i_a2 : Int) (hi_a2 : a2.toInt = i_a2) (hv_self_size : 0 ≤ i_self_size ∧ i_self_size ≤ 400) (hn_cells : 112 ≤ n_cells ∧ n_cells ≤ 5600) (hm_cells : 7 * i_self_size ≤ (n_cells : Int)) : Met l yX2_get wsX2_get ({ frames := 1, cells := 0, slots := 0, locals := 22 }) (va_Pc [.ref A_self, .int a1, .int a2] (Pre0 D c ts [(A_self, .inr (2, [.int 7, .int 400, .ref A_cells, .int self_size])), (A_cells, .inl (c 1, n_cells, .inl f_cells))] sz)) (vp_Si (fun r : Int32 => ((0 ≤ i_a1 ∧ i_a1 < i_self_size ∧ 0 ≤ i_a2 ∧ i_a2 < 7) → r = f_cells (7 * i_a1 + i_a2).toNat))) 0 0 (fun _ => False) := by
  refine Met.ofW (cc := cX2_get) (maxL := 3) (ret := (some .int)) (by decide) rfl ?_
  intro p e s m args below meth cd s₁ B hml hv
  obtain ⟨rfl, hsz, hP, hD0, hAm, hSt⟩ := hv
  have hx := B.exec
  have hb := B.bytes
  have hr := B.returns
  have hts := atoms_spec (ws := wsX2_get) B.pre
  have hown : s.vm.findClass RX2 = some m.cls := findClass_of_methodNamed B.named
  have hlocks := B.notSynchronized
  have hK := hAm.1
  subst hsz
  have hD := hD0.self (sz := s.heap.size)
  generalize hAe : va_A [(A_self, .inr (2, [.int 7, .int 400, .ref A_cells, .int self_size])), (A_cells, .inl (c 1, n_cells, .inl f_cells))] s.heap.size = A at hD hSt
  have hA : ∀ q : Nat, s.heap.size ≤ q → A q := fun q h => by rw [← hAe]; exact Or.inr h
  have hS : va_S A s.heap s.heap [] := va_S.rf
  clear hD0 hAe
  have hl := lv_entry ([.ref A_self, .int a1, .int a2]) (n := 3) (Nat.le_of_ble_eq_true rfl)
  rw [lg_entry_eq]
  generalize (lg_sl ([.ref A_self, .int a1, .int a2]) ++ List.replicate (3 - (lg_sl ([.ref A_self, .int a1, .int a2])).length) Slot.unset).toArray = ls at hl ⊢
  have hl : lv_has ls 3 [(0, .ref A_self), (1, .int a1), (2, .int a2)] := hl
  have rg_a1 := i32r a1
  have rg_a2 := i32r a2
  refine lv_aload_n hx hb dX2_get_0 rfl (lv_at hl 0 rfl) ?_
  refine lv_iload_n hx hb dX2_get_1 rfl (lv_at hl 1 rfl) ?_
  refine lv_iload_n hx hb dX2_get_2 rfl (lv_at hl 2 rfl) ?_
  have hPc := hP.sub (ws' := [(A_self, .inr (2, [.int 7, .int 400, .ref A_cells, .int self_size]))]) [0] rfl
  have hDc := hD.sub (ws' := [(A_self, .inr (2, [.int 7, .int 400, .ref A_cells, .int self_size]))]) [0] (by decide) rfl
  have hFc := va_free (wc := [(A_self, .inr (2, [.int 7, .int 400, .ref A_cells, .int self_size]))]) hD hS hA [0] rfl
  refine va_csi (va_runV (As := [.int a1, .int a2]) (rest := []) ⟨hx, hb, hml, hown, hts⟩ (k_X2_has_debts l D c ts s.heap.size A_cells A_self self_size i_self_size hi_self_size a1 i_a1 hi_a1 a2 i_a2 hi_a2 (by omega)) (cwV 2 hts gX2_get_X2_has rfl rfl rfl ⟨rfl, hdX2_has⟩ ⟨(show 0 + 1 ≤ 1 by decide), (show 8 + (3 + 11) + 0 ≤ 22 by decide)⟩) ⟨Pre0.blind, va_recv hK hPc (ci := 2) (q0 := 0) rfl rfl, Pre0.at hPc hDc hAm hSt hS hFc⟩ rfl rfl hl.1 rfl (lv_room (Nat.le_of_ble_eq_true rfl)) dX2_get_3 ⟨(show 0 + 0 ≤ 0 by decide), (show 0 + 0 ≤ 0 by decide)⟩) (fun r_2 hw_1 => ?_)
  rcases hw_1 with ⟨hw_1, rfl⟩ | ⟨hw_1, rfl⟩
  · skip
    refine iif_eqF (a := 1) (tgt := 25) hx hb (by decide) dX2_get_6 (by decide) (by decide) ?_
    refine lv_aload_n hx hb dX2_get_9 rfl (lv_at hl 0 rfl) ?_
    refine va_get (D := D) (ci := 2) (v := .ref A_cells) (C := RX2) (T := TX2) (N := 4) hx hb hts (fun _ h => List.mem_cons_of_mem _ (List.mem_append_right _ h)) hown hK hP 0 rfl rfl 2 (by decide) (hts (.fieldLink RX2 24 "CrownTable$Rows" "cells" "[I") (mem_i 1 rfl)) (fun _ h9 => h9) rfl dX2_get_10 ?_
    refine lv_iload_n hx hb dX2_get_13 rfl (lv_at hl 1 rfl) ?_
    refine lv_aload_n hx hb dX2_get_14 rfl (lv_at hl 0 rfl) ?_
    refine va_get (D := D) (ci := 2) (v := .int 7) (C := RX2) (T := TX2) (N := 4) hx hb hts (fun _ h => List.mem_cons_of_mem _ (List.mem_append_right _ h)) hown hK hP 0 rfl rfl 0 (by decide) (hts (.fieldLink RX2 15 "CrownTable$Rows" "width" "I") (mem_i 2 rfl)) (fun _ h9 => h9) rfl dX2_get_15 ?_
    refine lv_imul hx hb dX2_get_18 ?_
    refine lv_topi (fun x_3 ex_3 => ?_)
    have tx_3 : x_3.toInt = (i_a1 * 7) := by rw [ex_3]; exact mul_ti (a := i_a1) (b := 7) hi_a1 (by decide) (by omega) (by omega)
    refine lv_iload_n hx hb dX2_get_19 rfl (lv_at hl 2 rfl) ?_
    refine lv_iadd hx hb dX2_get_20 ?_
    refine lv_topi (fun x_4 ex_4 => ?_)
    have tx_4 : x_4.toInt = ((i_a1 * 7) + i_a2) := by rw [ex_4]; exact add_ti (a := (i_a1 * 7)) (b := i_a2) tx_3 hi_a2 (by omega) (by omega)
    refine va_iald hx hb hK hP 1 1 rfl rfl (vin (a := ((i_a1 * 7) + i_a2)) tx_4 (by omega) (by omega)) dX2_get_21 ?_
    refine lv_topi (fun x_5 ex_5 => ?_)
    refine lv_goto (tgt := 26) hx hb dX2_get_22 (by decide) ?_
    exact W.iret (v := x_5) hx hb hr (fun t ht hW => ⟨_, rfl, (fun _ => by rw [ex_5, clampN (a := 7 * i_a1 + i_a2) (by omega)]), ht⟩) (fun _ h => by cases h) dX2_get_26
  · skip
    refine iif_eqT (a := 0) (tgt := 25) hx hb (by decide) dX2_get_6 (by decide) (by decide) ?_
    refine lv_iconst (v := 0) hx hb dX2_get_25 (by decide) ?_
    have kzz_6 : (0 : Int32).toInt = 0 := by decide
    exact W.iret (v := 0) hx hb hr (fun t ht hW => ⟨_, rfl, (fun z9 => absurd z9 (by omega)), ht⟩) (fun _ h => by cases h) dX2_get_26

set_option maxHeartbeats 4000000 in
set_option maxRecDepth 100000 in
theorem k_X2_get_roll (l : Launch) (D : va_G) (c : Nat → ClassId) (ts : Nat × Nat) (sz : Nat) (A_cells : Nat) (A_self : Nat) (n_cells : Nat) (f_cells : Nat → Int32) (self_size : Int32) (i_self_size : Int) (hi_self_size : self_size.toInt = i_self_size) (a1 : Int32) (i_a1 : Int) (hi_a1 : a1.toInt = i_a1) (a2 : Int32) (i_a2 : Int) (hi_a2 : a2.toInt = i_a2) (hv_self_size : 0 ≤ i_self_size ∧ i_self_size ≤ 4000) (hn_cells : 128 ≤ n_cells ∧ n_cells ≤ 64000) (hm_cells : 8 * i_self_size ≤ (n_cells : Int)) : Met l yX2_get wsX2_get ({ frames := 1, cells := 0, slots := 0, locals := 22 }) (va_Pc [.ref A_self, .int a1, .int a2] (Pre0 D c ts [(A_self, .inr (2, [.int 8, .int 4000, .ref A_cells, .int self_size])), (A_cells, .inl (c 1, n_cells, .inl f_cells))] sz)) (vp_Si (fun r : Int32 => ((0 ≤ i_a1 ∧ i_a1 < i_self_size ∧ 0 ≤ i_a2 ∧ i_a2 < 8) → r = f_cells (8 * i_a1 + i_a2).toNat))) 0 0 (fun _ => False) := by
  refine Met.ofW (cc := cX2_get) (maxL := 3) (ret := (some .int)) (by decide) rfl ?_
  intro p e s m args below meth cd s₁ B hml hv
  obtain ⟨rfl, hsz, hP, hD0, hAm, hSt⟩ := hv
  have hx := B.exec
  have hb := B.bytes
  have hr := B.returns
  have hts := atoms_spec (ws := wsX2_get) B.pre
  have hown : s.vm.findClass RX2 = some m.cls := findClass_of_methodNamed B.named
  have hlocks := B.notSynchronized
  have hK := hAm.1
  subst hsz
  have hD := hD0.self (sz := s.heap.size)
  generalize hAe : va_A [(A_self, .inr (2, [.int 8, .int 4000, .ref A_cells, .int self_size])), (A_cells, .inl (c 1, n_cells, .inl f_cells))] s.heap.size = A at hD hSt
  have hA : ∀ q : Nat, s.heap.size ≤ q → A q := fun q h => by rw [← hAe]; exact Or.inr h
  have hS : va_S A s.heap s.heap [] := va_S.rf
  clear hD0 hAe
  have hl := lv_entry ([.ref A_self, .int a1, .int a2]) (n := 3) (Nat.le_of_ble_eq_true rfl)
  rw [lg_entry_eq]
  generalize (lg_sl ([.ref A_self, .int a1, .int a2]) ++ List.replicate (3 - (lg_sl ([.ref A_self, .int a1, .int a2])).length) Slot.unset).toArray = ls at hl ⊢
  have hl : lv_has ls 3 [(0, .ref A_self), (1, .int a1), (2, .int a2)] := hl
  have rg_a1 := i32r a1
  have rg_a2 := i32r a2
  refine lv_aload_n hx hb dX2_get_0 rfl (lv_at hl 0 rfl) ?_
  refine lv_iload_n hx hb dX2_get_1 rfl (lv_at hl 1 rfl) ?_
  refine lv_iload_n hx hb dX2_get_2 rfl (lv_at hl 2 rfl) ?_
  have hPc := hP.sub (ws' := [(A_self, .inr (2, [.int 8, .int 4000, .ref A_cells, .int self_size]))]) [0] rfl
  have hDc := hD.sub (ws' := [(A_self, .inr (2, [.int 8, .int 4000, .ref A_cells, .int self_size]))]) [0] (by decide) rfl
  have hFc := va_free (wc := [(A_self, .inr (2, [.int 8, .int 4000, .ref A_cells, .int self_size]))]) hD hS hA [0] rfl
  refine va_csi (va_runV (As := [.int a1, .int a2]) (rest := []) ⟨hx, hb, hml, hown, hts⟩ (k_X2_has_roll l D c ts s.heap.size A_cells A_self self_size i_self_size hi_self_size a1 i_a1 hi_a1 a2 i_a2 hi_a2 (by omega)) (cwV 2 hts gX2_get_X2_has rfl rfl rfl ⟨rfl, hdX2_has⟩ ⟨(show 0 + 1 ≤ 1 by decide), (show 8 + (3 + 11) + 0 ≤ 22 by decide)⟩) ⟨Pre0.blind, va_recv hK hPc (ci := 2) (q0 := 0) rfl rfl, Pre0.at hPc hDc hAm hSt hS hFc⟩ rfl rfl hl.1 rfl (lv_room (Nat.le_of_ble_eq_true rfl)) dX2_get_3 ⟨(show 0 + 0 ≤ 0 by decide), (show 0 + 0 ≤ 0 by decide)⟩) (fun r_2 hw_1 => ?_)
  rcases hw_1 with ⟨hw_1, rfl⟩ | ⟨hw_1, rfl⟩
  · skip
    refine iif_eqF (a := 1) (tgt := 25) hx hb (by decide) dX2_get_6 (by decide) (by decide) ?_
    refine lv_aload_n hx hb dX2_get_9 rfl (lv_at hl 0 rfl) ?_
    refine va_get (D := D) (ci := 2) (v := .ref A_cells) (C := RX2) (T := TX2) (N := 4) hx hb hts (fun _ h => List.mem_cons_of_mem _ (List.mem_append_right _ h)) hown hK hP 0 rfl rfl 2 (by decide) (hts (.fieldLink RX2 24 "CrownTable$Rows" "cells" "[I") (mem_i 1 rfl)) (fun _ h9 => h9) rfl dX2_get_10 ?_
    refine lv_iload_n hx hb dX2_get_13 rfl (lv_at hl 1 rfl) ?_
    refine lv_aload_n hx hb dX2_get_14 rfl (lv_at hl 0 rfl) ?_
    refine va_get (D := D) (ci := 2) (v := .int 8) (C := RX2) (T := TX2) (N := 4) hx hb hts (fun _ h => List.mem_cons_of_mem _ (List.mem_append_right _ h)) hown hK hP 0 rfl rfl 0 (by decide) (hts (.fieldLink RX2 15 "CrownTable$Rows" "width" "I") (mem_i 2 rfl)) (fun _ h9 => h9) rfl dX2_get_15 ?_
    refine lv_imul hx hb dX2_get_18 ?_
    refine lv_topi (fun x_3 ex_3 => ?_)
    have tx_3 : x_3.toInt = (i_a1 * 8) := by rw [ex_3]; exact mul_ti (a := i_a1) (b := 8) hi_a1 (by decide) (by omega) (by omega)
    refine lv_iload_n hx hb dX2_get_19 rfl (lv_at hl 2 rfl) ?_
    refine lv_iadd hx hb dX2_get_20 ?_
    refine lv_topi (fun x_4 ex_4 => ?_)
    have tx_4 : x_4.toInt = ((i_a1 * 8) + i_a2) := by rw [ex_4]; exact add_ti (a := (i_a1 * 8)) (b := i_a2) tx_3 hi_a2 (by omega) (by omega)
    refine va_iald hx hb hK hP 1 1 rfl rfl (vin (a := ((i_a1 * 8) + i_a2)) tx_4 (by omega) (by omega)) dX2_get_21 ?_
    refine lv_topi (fun x_5 ex_5 => ?_)
    refine lv_goto (tgt := 26) hx hb dX2_get_22 (by decide) ?_
    exact W.iret (v := x_5) hx hb hr (fun t ht hW => ⟨_, rfl, (fun _ => by rw [ex_5, clampN (a := 8 * i_a1 + i_a2) (by omega)]), ht⟩) (fun _ h => by cases h) dX2_get_26
  · skip
    refine iif_eqT (a := 0) (tgt := 25) hx hb (by decide) dX2_get_6 (by decide) (by decide) ?_
    refine lv_iconst (v := 0) hx hb dX2_get_25 (by decide) ?_
    have kzz_6 : (0 : Int32).toInt = 0 := by decide
    exact W.iret (v := 0) hx hb hr (fun t ht hW => ⟨_, rfl, (fun z9 => absurd z9 (by omega)), ht⟩) (fun _ h => by cases h) dX2_get_26

set_option maxHeartbeats 4000000 in
set_option maxRecDepth 100000 in
theorem k_X2_get_sticks (l : Launch) (D : va_G) (c : Nat → ClassId) (ts : Nat × Nat) (sz : Nat) (A_cells : Nat) (A_self : Nat) (n_cells : Nat) (f_cells : Nat → Int32) (self_size : Int32) (i_self_size : Int) (hi_self_size : self_size.toInt = i_self_size) (a1 : Int32) (i_a1 : Int) (hi_a1 : a1.toInt = i_a1) (a2 : Int32) (i_a2 : Int) (hi_a2 : a2.toInt = i_a2) (hv_self_size : 0 ≤ i_self_size ∧ i_self_size ≤ 2000) (hn_cells : 16 ≤ n_cells ∧ n_cells ≤ 4000) (hm_cells : 1 * i_self_size ≤ (n_cells : Int)) : Met l yX2_get wsX2_get ({ frames := 1, cells := 0, slots := 0, locals := 22 }) (va_Pc [.ref A_self, .int a1, .int a2] (Pre0 D c ts [(A_self, .inr (2, [.int 1, .int 2000, .ref A_cells, .int self_size])), (A_cells, .inl (c 1, n_cells, .inl f_cells))] sz)) (vp_Si (fun r : Int32 => ((0 ≤ i_a1 ∧ i_a1 < i_self_size ∧ 0 ≤ i_a2 ∧ i_a2 < 1) → r = f_cells (1 * i_a1 + i_a2).toNat))) 0 0 (fun _ => False) := by
  refine Met.ofW (cc := cX2_get) (maxL := 3) (ret := (some .int)) (by decide) rfl ?_
  intro p e s m args below meth cd s₁ B hml hv
  obtain ⟨rfl, hsz, hP, hD0, hAm, hSt⟩ := hv
  have hx := B.exec
  have hb := B.bytes
  have hr := B.returns
  have hts := atoms_spec (ws := wsX2_get) B.pre
  have hown : s.vm.findClass RX2 = some m.cls := findClass_of_methodNamed B.named
  have hlocks := B.notSynchronized
  have hK := hAm.1
  subst hsz
  have hD := hD0.self (sz := s.heap.size)
  generalize hAe : va_A [(A_self, .inr (2, [.int 1, .int 2000, .ref A_cells, .int self_size])), (A_cells, .inl (c 1, n_cells, .inl f_cells))] s.heap.size = A at hD hSt
  have hA : ∀ q : Nat, s.heap.size ≤ q → A q := fun q h => by rw [← hAe]; exact Or.inr h
  have hS : va_S A s.heap s.heap [] := va_S.rf
  clear hD0 hAe
  have hl := lv_entry ([.ref A_self, .int a1, .int a2]) (n := 3) (Nat.le_of_ble_eq_true rfl)
  rw [lg_entry_eq]
  generalize (lg_sl ([.ref A_self, .int a1, .int a2]) ++ List.replicate (3 - (lg_sl ([.ref A_self, .int a1, .int a2])).length) Slot.unset).toArray = ls at hl ⊢
  have hl : lv_has ls 3 [(0, .ref A_self), (1, .int a1), (2, .int a2)] := hl
  have rg_a1 := i32r a1
  have rg_a2 := i32r a2
  refine lv_aload_n hx hb dX2_get_0 rfl (lv_at hl 0 rfl) ?_
  refine lv_iload_n hx hb dX2_get_1 rfl (lv_at hl 1 rfl) ?_
  refine lv_iload_n hx hb dX2_get_2 rfl (lv_at hl 2 rfl) ?_
  have hPc := hP.sub (ws' := [(A_self, .inr (2, [.int 1, .int 2000, .ref A_cells, .int self_size]))]) [0] rfl
  have hDc := hD.sub (ws' := [(A_self, .inr (2, [.int 1, .int 2000, .ref A_cells, .int self_size]))]) [0] (by decide) rfl
  have hFc := va_free (wc := [(A_self, .inr (2, [.int 1, .int 2000, .ref A_cells, .int self_size]))]) hD hS hA [0] rfl
  refine va_csi (va_runV (As := [.int a1, .int a2]) (rest := []) ⟨hx, hb, hml, hown, hts⟩ (k_X2_has_sticks l D c ts s.heap.size A_cells A_self self_size i_self_size hi_self_size a1 i_a1 hi_a1 a2 i_a2 hi_a2 (by omega)) (cwV 2 hts gX2_get_X2_has rfl rfl rfl ⟨rfl, hdX2_has⟩ ⟨(show 0 + 1 ≤ 1 by decide), (show 8 + (3 + 11) + 0 ≤ 22 by decide)⟩) ⟨Pre0.blind, va_recv hK hPc (ci := 2) (q0 := 0) rfl rfl, Pre0.at hPc hDc hAm hSt hS hFc⟩ rfl rfl hl.1 rfl (lv_room (Nat.le_of_ble_eq_true rfl)) dX2_get_3 ⟨(show 0 + 0 ≤ 0 by decide), (show 0 + 0 ≤ 0 by decide)⟩) (fun r_2 hw_1 => ?_)
  rcases hw_1 with ⟨hw_1, rfl⟩ | ⟨hw_1, rfl⟩
  · skip
    refine iif_eqF (a := 1) (tgt := 25) hx hb (by decide) dX2_get_6 (by decide) (by decide) ?_
    refine lv_aload_n hx hb dX2_get_9 rfl (lv_at hl 0 rfl) ?_
    refine va_get (D := D) (ci := 2) (v := .ref A_cells) (C := RX2) (T := TX2) (N := 4) hx hb hts (fun _ h => List.mem_cons_of_mem _ (List.mem_append_right _ h)) hown hK hP 0 rfl rfl 2 (by decide) (hts (.fieldLink RX2 24 "CrownTable$Rows" "cells" "[I") (mem_i 1 rfl)) (fun _ h9 => h9) rfl dX2_get_10 ?_
    refine lv_iload_n hx hb dX2_get_13 rfl (lv_at hl 1 rfl) ?_
    refine lv_aload_n hx hb dX2_get_14 rfl (lv_at hl 0 rfl) ?_
    refine va_get (D := D) (ci := 2) (v := .int 1) (C := RX2) (T := TX2) (N := 4) hx hb hts (fun _ h => List.mem_cons_of_mem _ (List.mem_append_right _ h)) hown hK hP 0 rfl rfl 0 (by decide) (hts (.fieldLink RX2 15 "CrownTable$Rows" "width" "I") (mem_i 2 rfl)) (fun _ h9 => h9) rfl dX2_get_15 ?_
    refine lv_imul hx hb dX2_get_18 ?_
    refine lv_topi (fun x_3 ex_3 => ?_)
    have tx_3 : x_3.toInt = (i_a1 * 1) := by rw [ex_3]; exact mul_ti (a := i_a1) (b := 1) hi_a1 (by decide) (by omega) (by omega)
    refine lv_iload_n hx hb dX2_get_19 rfl (lv_at hl 2 rfl) ?_
    refine lv_iadd hx hb dX2_get_20 ?_
    refine lv_topi (fun x_4 ex_4 => ?_)
    have tx_4 : x_4.toInt = ((i_a1 * 1) + i_a2) := by rw [ex_4]; exact add_ti (a := (i_a1 * 1)) (b := i_a2) tx_3 hi_a2 (by omega) (by omega)
    refine va_iald hx hb hK hP 1 1 rfl rfl (vin (a := ((i_a1 * 1) + i_a2)) tx_4 (by omega) (by omega)) dX2_get_21 ?_
    refine lv_topi (fun x_5 ex_5 => ?_)
    refine lv_goto (tgt := 26) hx hb dX2_get_22 (by decide) ?_
    exact W.iret (v := x_5) hx hb hr (fun t ht hW => ⟨_, rfl, (fun _ => by rw [ex_5, clampN (a := 1 * i_a1 + i_a2) (by omega)]), ht⟩) (fun _ h => by cases h) dX2_get_26
  · skip
    refine iif_eqT (a := 0) (tgt := 25) hx hb (by decide) dX2_get_6 (by decide) (by decide) ?_
    refine lv_iconst (v := 0) hx hb dX2_get_25 (by decide) ?_
    have kzz_6 : (0 : Int32).toInt = 0 := by decide
    exact W.iret (v := 0) hx hb hr (fun t ht hW => ⟨_, rfl, (fun z9 => absurd z9 (by omega)), ht⟩) (fun _ h => by cases h) dX2_get_26

set_option maxHeartbeats 4000000 in
set_option maxRecDepth 100000 in
theorem k_X2_set_forces (l : Launch) (D : va_G) (c : Nat → ClassId) (ts : Nat × Nat) (sz : Nat) (A_cells : Nat) (A_self : Nat) (n_cells : Nat) (f_cells : Nat → Int32) (self_size : Int32) (i_self_size : Int) (hi_self_size : self_size.toInt = i_self_size) (a1 : Int32) (i_a1 : Int) (hi_a1 : a1.toInt = i_a1) (a2 : Int32) (i_a2 : Int) (hi_a2 : a2.toInt = i_a2) (a3 : Int32) (i_a3 : Int) (hi_a3 : a3.toInt = i_a3) (hv_self_size : 0 ≤ i_self_size ∧ i_self_size ≤ 40) (hn_cells : 32 ≤ n_cells ∧ n_cells ≤ 160) (hm_cells : 2 * i_self_size ≤ (n_cells : Int)) : Met l yX2_set wsX2_set ({ frames := 1, cells := 0, slots := 0, locals := 22 }) (va_Pc [.ref A_self, .int a1, .int a2, .int a3] (Pre0 D c ts [(A_self, .inr (2, [.int 2, .int 40, .ref A_cells, .int self_size])), (A_cells, .inl (c 1, n_cells, .inl f_cells))] sz)) (va_Qv (fun (u : (Nat → Int32) × Unit) => (∀ j : Nat, ¬ ((j : Int) = 2 * i_a1 + i_a2) → u.1 j = f_cells j) ∧ ((0 ≤ i_a1 ∧ i_a1 < i_self_size ∧ 0 ≤ i_a2 ∧ i_a2 < 2) → u.1 (2 * i_a1 + i_a2).toNat = a3)) (fun u t => va_P D vwCl [(A_self, .inr (2, [.int 2, .int 40, .ref A_cells, .int self_size])), (A_cells, .inl (c 1, n_cells, .inl u.1))] t.heap ∧ va_D (va_A [(A_self, .inr (2, [.int 2, .int 40, .ref A_cells, .int self_size])), (A_cells, .inl (c 1, n_cells, .inl f_cells))] sz) [(A_self, .inr (2, [.int 2, .int 40, .ref A_cells, .int self_size])), (A_cells, .inl (c 1, n_cells, .inl u.1))]) (va_A [(A_self, .inr (2, [.int 2, .int 40, .ref A_cells, .int self_size])), (A_cells, .inl (c 1, n_cells, .inl f_cells))] sz)) 0 0 (va_A [(A_self, .inr (2, [.int 2, .int 40, .ref A_cells, .int self_size])), (A_cells, .inl (c 1, n_cells, .inl f_cells))] sz) := by
  refine Met.ofW (cc := cX2_set) (maxL := 4) (ret := none) (by decide) rfl ?_
  intro p e s m args below meth cd s₁ B hml hv
  obtain ⟨rfl, hsz, hP, hD0, hAm, hSt⟩ := hv
  have hx := B.exec
  have hb := B.bytes
  have hr := B.returns
  have hts := atoms_spec (ws := wsX2_set) B.pre
  have hown : s.vm.findClass RX2 = some m.cls := findClass_of_methodNamed B.named
  have hlocks := B.notSynchronized
  have hK := hAm.1
  subst hsz
  have hD := hD0.self (sz := s.heap.size)
  generalize hAe : va_A [(A_self, .inr (2, [.int 2, .int 40, .ref A_cells, .int self_size])), (A_cells, .inl (c 1, n_cells, .inl f_cells))] s.heap.size = A at hD hSt ⊢
  have hA : ∀ q : Nat, s.heap.size ≤ q → A q := fun q h => by rw [← hAe]; exact Or.inr h
  have hS : va_S A s.heap s.heap [] := va_S.rf
  clear hD0 hAe
  have hl := lv_entry ([.ref A_self, .int a1, .int a2, .int a3]) (n := 4) (Nat.le_of_ble_eq_true rfl)
  rw [lg_entry_eq]
  generalize (lg_sl ([.ref A_self, .int a1, .int a2, .int a3]) ++ List.replicate (4 - (lg_sl ([.ref A_self, .int a1, .int a2, .int a3])).length) Slot.unset).toArray = ls at hl ⊢
  have hl : lv_has ls 4 [(0, .ref A_self), (1, .int a1), (2, .int a2), (3, .int a3)] := hl
  have rg_a1 := i32r a1
  have rg_a2 := i32r a2
  have rg_a3 := i32r a3
  refine lv_aload_n hx hb dX2_set_0 rfl (lv_at hl 0 rfl) ?_
  refine lv_iload_n hx hb dX2_set_1 rfl (lv_at hl 1 rfl) ?_
  refine lv_iload_n hx hb dX2_set_2 rfl (lv_at hl 2 rfl) ?_
  have hPc := hP.sub (ws' := [(A_self, .inr (2, [.int 2, .int 40, .ref A_cells, .int self_size]))]) [0] rfl
  have hDc := hD.sub (ws' := [(A_self, .inr (2, [.int 2, .int 40, .ref A_cells, .int self_size]))]) [0] (by decide) rfl
  have hFc := va_free (wc := [(A_self, .inr (2, [.int 2, .int 40, .ref A_cells, .int self_size]))]) hD hS hA [0] rfl
  refine va_csi (va_runV (As := [.int a1, .int a2]) (rest := []) ⟨hx, hb, hml, hown, hts⟩ (k_X2_has_forces l D c ts s.heap.size A_cells A_self self_size i_self_size hi_self_size a1 i_a1 hi_a1 a2 i_a2 hi_a2 (by omega)) (cwV 2 hts gX2_set_X2_has rfl rfl rfl ⟨rfl, hdX2_has⟩ ⟨(show 0 + 1 ≤ 1 by decide), (show 8 + (3 + 11) + 0 ≤ 22 by decide)⟩) ⟨Pre0.blind, va_recv hK hPc (ci := 2) (q0 := 0) rfl rfl, Pre0.at hPc hDc hAm hSt hS hFc⟩ rfl rfl hl.1 rfl (lv_room (Nat.le_of_ble_eq_true rfl)) dX2_set_3 ⟨(show 0 + 0 ≤ 0 by decide), (show 0 + 0 ≤ 0 by decide)⟩) (fun r_2 hw_1 => ?_)
  rcases hw_1 with ⟨hw_1, rfl⟩ | ⟨hw_1, rfl⟩
  · skip
    refine iif_eqF (a := 1) (tgt := 23) hx hb (by decide) dX2_set_6 (by decide) (by decide) ?_
    refine lv_aload_n hx hb dX2_set_9 rfl (lv_at hl 0 rfl) ?_
    refine va_get (D := D) (ci := 2) (v := .ref A_cells) (C := RX2) (T := TX2) (N := 4) hx hb hts (fun _ h => List.mem_cons_of_mem _ (List.mem_append_right _ h)) hown hK hP 0 rfl rfl 2 (by decide) (hts (.fieldLink RX2 24 "CrownTable$Rows" "cells" "[I") (mem_i 1 rfl)) (fun _ h9 => h9) rfl dX2_set_10 ?_
    refine lv_iload_n hx hb dX2_set_13 rfl (lv_at hl 1 rfl) ?_
    refine lv_aload_n hx hb dX2_set_14 rfl (lv_at hl 0 rfl) ?_
    refine va_get (D := D) (ci := 2) (v := .int 2) (C := RX2) (T := TX2) (N := 4) hx hb hts (fun _ h => List.mem_cons_of_mem _ (List.mem_append_right _ h)) hown hK hP 0 rfl rfl 0 (by decide) (hts (.fieldLink RX2 15 "CrownTable$Rows" "width" "I") (mem_i 2 rfl)) (fun _ h9 => h9) rfl dX2_set_15 ?_
    refine lv_imul hx hb dX2_set_18 ?_
    refine lv_topi (fun x_3 ex_3 => ?_)
    have tx_3 : x_3.toInt = (i_a1 * 2) := by rw [ex_3]; exact mul_ti (a := i_a1) (b := 2) hi_a1 (by decide) (by omega) (by omega)
    refine lv_iload_n hx hb dX2_set_19 rfl (lv_at hl 2 rfl) ?_
    refine lv_iadd hx hb dX2_set_20 ?_
    refine lv_topi (fun x_4 ex_4 => ?_)
    have tx_4 : x_4.toInt = ((i_a1 * 2) + i_a2) := by rw [ex_4]; exact add_ti (a := (i_a1 * 2)) (b := i_a2) tx_3 hi_a2 (by omega) (by omega)
    refine lv_iload_n hx hb dX2_set_21 rfl (lv_at hl 3 rfl) ?_
    refine va_iast hx hb hK hP hD hS 1 1 rfl rfl (vin (a := ((i_a1 * 2) + i_a2)) tx_4 (by omega) (by omega)) dX2_set_22 (fun H locs hP hD hS => ?_)
    obtain ⟨f_5, ef_5, hP, hD⟩ : ∃ f_5 : Nat → Int32, f_5 = upd f_cells x_4.toNatClampNeg a3 ∧ va_P D vwCl [(A_self, .inr (2, [.int 2, .int 40, .ref A_cells, .int self_size])), (A_cells, .inl (c 1, n_cells, .inl f_5))] H ∧ va_D A [(A_self, .inr (2, [.int 2, .int 40, .ref A_cells, .int self_size])), (A_cells, .inl (c 1, n_cells, .inl f_5))] := ⟨_, rfl, hP, hD⟩
    have hP9 := hP.sub (ws' := [(A_self, .inr (2, [.int 2, .int 40, .ref A_cells, .int self_size])), (A_cells, .inl (c 1, n_cells, .inl f_5))]) [0, 1] rfl
    have hD9 := hD.sub (ws' := [(A_self, .inr (2, [.int 2, .int 40, .ref A_cells, .int self_size])), (A_cells, .inl (c 1, n_cells, .inl f_5))]) [0, 1] (by decide) rfl
    refine W.widen (k := 0) (n := 0) (by omega) (by omega) ?_
    exact W.vret hx hb hr (fun t ht hW => ⟨⟨(f_5, ()), rfl, ⟨(show ∀ j : Nat, ¬ ((j : Int) = 2 * i_a1 + i_a2) → f_5 j = f_cells j from (fun j hj => by rw [ef_5]; exact upd_ne _ _ (fun z => hj (by rw [z, clampN (x := x_4) (a := 2 * i_a1 + i_a2) (by omega)]; omega)))), (show (0 ≤ i_a1 ∧ i_a1 < i_self_size ∧ 0 ≤ i_a2 ∧ i_a2 < 2) → f_5 (2 * i_a1 + i_a2).toNat = a3 from (fun _ => by rw [ef_5, ← clampN (x := x_4) (a := 2 * i_a1 + i_a2) (by omega)]; exact upd_eq _ _ _))⟩, ⟨by rw [ht]; exact hP9, hD9⟩⟩, hS.F ht⟩) hS.2.2 dX2_set_23
  · skip
    refine iif_eqT (a := 0) (tgt := 23) hx hb (by decide) dX2_set_6 (by decide) (by decide) ?_
    have hP9 := hP.sub (ws' := [(A_self, .inr (2, [.int 2, .int 40, .ref A_cells, .int self_size])), (A_cells, .inl (c 1, n_cells, .inl f_cells))]) [0, 1] rfl
    have hD9 := hD.sub (ws' := [(A_self, .inr (2, [.int 2, .int 40, .ref A_cells, .int self_size])), (A_cells, .inl (c 1, n_cells, .inl f_cells))]) [0, 1] (by decide) rfl
    refine W.widen (k := 0) (n := 0) (by omega) (by omega) ?_
    exact W.vret hx hb hr (fun t ht hW => ⟨⟨(f_cells, ()), rfl, ⟨(show ∀ j : Nat, ¬ ((j : Int) = 2 * i_a1 + i_a2) → f_cells j = f_cells j from (fun _ _ => rfl)), (show (0 ≤ i_a1 ∧ i_a1 < i_self_size ∧ 0 ≤ i_a2 ∧ i_a2 < 2) → f_cells (2 * i_a1 + i_a2).toNat = a3 from (fun z9 => absurd z9 (by omega)))⟩, ⟨by rw [ht]; exact hP9, hD9⟩⟩, hS.F ht⟩) hS.2.2 dX2_set_23

set_option maxHeartbeats 4000000 in
set_option maxRecDepth 100000 in
theorem k_X2_set_debts (l : Launch) (D : va_G) (c : Nat → ClassId) (ts : Nat × Nat) (sz : Nat) (A_cells : Nat) (A_self : Nat) (n_cells : Nat) (f_cells : Nat → Int32) (self_size : Int32) (i_self_size : Int) (hi_self_size : self_size.toInt = i_self_size) (a1 : Int32) (i_a1 : Int) (hi_a1 : a1.toInt = i_a1) (a2 : Int32) (i_a2 : Int) (hi_a2 : a2.toInt = i_a2) (a3 : Int32) (i_a3 : Int) (hi_a3 : a3.toInt = i_a3) (hv_self_size : 0 ≤ i_self_size ∧ i_self_size ≤ 400) (hn_cells : 112 ≤ n_cells ∧ n_cells ≤ 5600) (hm_cells : 7 * i_self_size ≤ (n_cells : Int)) : Met l yX2_set wsX2_set ({ frames := 1, cells := 0, slots := 0, locals := 22 }) (va_Pc [.ref A_self, .int a1, .int a2, .int a3] (Pre0 D c ts [(A_self, .inr (2, [.int 7, .int 400, .ref A_cells, .int self_size])), (A_cells, .inl (c 1, n_cells, .inl f_cells))] sz)) (va_Qv (fun (u : (Nat → Int32) × Unit) => (∀ j : Nat, ¬ ((j : Int) = 7 * i_a1 + i_a2) → u.1 j = f_cells j) ∧ ((0 ≤ i_a1 ∧ i_a1 < i_self_size ∧ 0 ≤ i_a2 ∧ i_a2 < 7) → u.1 (7 * i_a1 + i_a2).toNat = a3)) (fun u t => va_P D vwCl [(A_self, .inr (2, [.int 7, .int 400, .ref A_cells, .int self_size])), (A_cells, .inl (c 1, n_cells, .inl u.1))] t.heap ∧ va_D (va_A [(A_self, .inr (2, [.int 7, .int 400, .ref A_cells, .int self_size])), (A_cells, .inl (c 1, n_cells, .inl f_cells))] sz) [(A_self, .inr (2, [.int 7, .int 400, .ref A_cells, .int self_size])), (A_cells, .inl (c 1, n_cells, .inl u.1))]) (va_A [(A_self, .inr (2, [.int 7, .int 400, .ref A_cells, .int self_size])), (A_cells, .inl (c 1, n_cells, .inl f_cells))] sz)) 0 0 (va_A [(A_self, .inr (2, [.int 7, .int 400, .ref A_cells, .int self_size])), (A_cells, .inl (c 1, n_cells, .inl f_cells))] sz) := by
  refine Met.ofW (cc := cX2_set) (maxL := 4) (ret := none) (by decide) rfl ?_
  intro p e s m args below meth cd s₁ B hml hv
  obtain ⟨rfl, hsz, hP, hD0, hAm, hSt⟩ := hv
  have hx := B.exec
  have hb := B.bytes
  have hr := B.returns
  have hts := atoms_spec (ws := wsX2_set) B.pre
  have hown : s.vm.findClass RX2 = some m.cls := findClass_of_methodNamed B.named
  have hlocks := B.notSynchronized
  have hK := hAm.1
  subst hsz
  have hD := hD0.self (sz := s.heap.size)
  generalize hAe : va_A [(A_self, .inr (2, [.int 7, .int 400, .ref A_cells, .int self_size])), (A_cells, .inl (c 1, n_cells, .inl f_cells))] s.heap.size = A at hD hSt ⊢
  have hA : ∀ q : Nat, s.heap.size ≤ q → A q := fun q h => by rw [← hAe]; exact Or.inr h
  have hS : va_S A s.heap s.heap [] := va_S.rf
  clear hD0 hAe
  have hl := lv_entry ([.ref A_self, .int a1, .int a2, .int a3]) (n := 4) (Nat.le_of_ble_eq_true rfl)
  rw [lg_entry_eq]
  generalize (lg_sl ([.ref A_self, .int a1, .int a2, .int a3]) ++ List.replicate (4 - (lg_sl ([.ref A_self, .int a1, .int a2, .int a3])).length) Slot.unset).toArray = ls at hl ⊢
  have hl : lv_has ls 4 [(0, .ref A_self), (1, .int a1), (2, .int a2), (3, .int a3)] := hl
  have rg_a1 := i32r a1
  have rg_a2 := i32r a2
  have rg_a3 := i32r a3
  refine lv_aload_n hx hb dX2_set_0 rfl (lv_at hl 0 rfl) ?_
  refine lv_iload_n hx hb dX2_set_1 rfl (lv_at hl 1 rfl) ?_
  refine lv_iload_n hx hb dX2_set_2 rfl (lv_at hl 2 rfl) ?_
  have hPc := hP.sub (ws' := [(A_self, .inr (2, [.int 7, .int 400, .ref A_cells, .int self_size]))]) [0] rfl
  have hDc := hD.sub (ws' := [(A_self, .inr (2, [.int 7, .int 400, .ref A_cells, .int self_size]))]) [0] (by decide) rfl
  have hFc := va_free (wc := [(A_self, .inr (2, [.int 7, .int 400, .ref A_cells, .int self_size]))]) hD hS hA [0] rfl
  refine va_csi (va_runV (As := [.int a1, .int a2]) (rest := []) ⟨hx, hb, hml, hown, hts⟩ (k_X2_has_debts l D c ts s.heap.size A_cells A_self self_size i_self_size hi_self_size a1 i_a1 hi_a1 a2 i_a2 hi_a2 (by omega)) (cwV 2 hts gX2_set_X2_has rfl rfl rfl ⟨rfl, hdX2_has⟩ ⟨(show 0 + 1 ≤ 1 by decide), (show 8 + (3 + 11) + 0 ≤ 22 by decide)⟩) ⟨Pre0.blind, va_recv hK hPc (ci := 2) (q0 := 0) rfl rfl, Pre0.at hPc hDc hAm hSt hS hFc⟩ rfl rfl hl.1 rfl (lv_room (Nat.le_of_ble_eq_true rfl)) dX2_set_3 ⟨(show 0 + 0 ≤ 0 by decide), (show 0 + 0 ≤ 0 by decide)⟩) (fun r_2 hw_1 => ?_)
  rcases hw_1 with ⟨hw_1, rfl⟩ | ⟨hw_1, rfl⟩
  · skip
    refine iif_eqF (a := 1) (tgt := 23) hx hb (by decide) dX2_set_6 (by decide) (by decide) ?_
    refine lv_aload_n hx hb dX2_set_9 rfl (lv_at hl 0 rfl) ?_
    refine va_get (D := D) (ci := 2) (v := .ref A_cells) (C := RX2) (T := TX2) (N := 4) hx hb hts (fun _ h => List.mem_cons_of_mem _ (List.mem_append_right _ h)) hown hK hP 0 rfl rfl 2 (by decide) (hts (.fieldLink RX2 24 "CrownTable$Rows" "cells" "[I") (mem_i 1 rfl)) (fun _ h9 => h9) rfl dX2_set_10 ?_
    refine lv_iload_n hx hb dX2_set_13 rfl (lv_at hl 1 rfl) ?_
    refine lv_aload_n hx hb dX2_set_14 rfl (lv_at hl 0 rfl) ?_
    refine va_get (D := D) (ci := 2) (v := .int 7) (C := RX2) (T := TX2) (N := 4) hx hb hts (fun _ h => List.mem_cons_of_mem _ (List.mem_append_right _ h)) hown hK hP 0 rfl rfl 0 (by decide) (hts (.fieldLink RX2 15 "CrownTable$Rows" "width" "I") (mem_i 2 rfl)) (fun _ h9 => h9) rfl dX2_set_15 ?_
    refine lv_imul hx hb dX2_set_18 ?_
    refine lv_topi (fun x_3 ex_3 => ?_)
    have tx_3 : x_3.toInt = (i_a1 * 7) := by rw [ex_3]; exact mul_ti (a := i_a1) (b := 7) hi_a1 (by decide) (by omega) (by omega)
    refine lv_iload_n hx hb dX2_set_19 rfl (lv_at hl 2 rfl) ?_
    refine lv_iadd hx hb dX2_set_20 ?_
    refine lv_topi (fun x_4 ex_4 => ?_)
    have tx_4 : x_4.toInt = ((i_a1 * 7) + i_a2) := by rw [ex_4]; exact add_ti (a := (i_a1 * 7)) (b := i_a2) tx_3 hi_a2 (by omega) (by omega)
    refine lv_iload_n hx hb dX2_set_21 rfl (lv_at hl 3 rfl) ?_
    refine va_iast hx hb hK hP hD hS 1 1 rfl rfl (vin (a := ((i_a1 * 7) + i_a2)) tx_4 (by omega) (by omega)) dX2_set_22 (fun H locs hP hD hS => ?_)
    obtain ⟨f_5, ef_5, hP, hD⟩ : ∃ f_5 : Nat → Int32, f_5 = upd f_cells x_4.toNatClampNeg a3 ∧ va_P D vwCl [(A_self, .inr (2, [.int 7, .int 400, .ref A_cells, .int self_size])), (A_cells, .inl (c 1, n_cells, .inl f_5))] H ∧ va_D A [(A_self, .inr (2, [.int 7, .int 400, .ref A_cells, .int self_size])), (A_cells, .inl (c 1, n_cells, .inl f_5))] := ⟨_, rfl, hP, hD⟩
    have hP9 := hP.sub (ws' := [(A_self, .inr (2, [.int 7, .int 400, .ref A_cells, .int self_size])), (A_cells, .inl (c 1, n_cells, .inl f_5))]) [0, 1] rfl
    have hD9 := hD.sub (ws' := [(A_self, .inr (2, [.int 7, .int 400, .ref A_cells, .int self_size])), (A_cells, .inl (c 1, n_cells, .inl f_5))]) [0, 1] (by decide) rfl
    refine W.widen (k := 0) (n := 0) (by omega) (by omega) ?_
    exact W.vret hx hb hr (fun t ht hW => ⟨⟨(f_5, ()), rfl, ⟨(show ∀ j : Nat, ¬ ((j : Int) = 7 * i_a1 + i_a2) → f_5 j = f_cells j from (fun j hj => by rw [ef_5]; exact upd_ne _ _ (fun z => hj (by rw [z, clampN (x := x_4) (a := 7 * i_a1 + i_a2) (by omega)]; omega)))), (show (0 ≤ i_a1 ∧ i_a1 < i_self_size ∧ 0 ≤ i_a2 ∧ i_a2 < 7) → f_5 (7 * i_a1 + i_a2).toNat = a3 from (fun _ => by rw [ef_5, ← clampN (x := x_4) (a := 7 * i_a1 + i_a2) (by omega)]; exact upd_eq _ _ _))⟩, ⟨by rw [ht]; exact hP9, hD9⟩⟩, hS.F ht⟩) hS.2.2 dX2_set_23
  · skip
    refine iif_eqT (a := 0) (tgt := 23) hx hb (by decide) dX2_set_6 (by decide) (by decide) ?_
    have hP9 := hP.sub (ws' := [(A_self, .inr (2, [.int 7, .int 400, .ref A_cells, .int self_size])), (A_cells, .inl (c 1, n_cells, .inl f_cells))]) [0, 1] rfl
    have hD9 := hD.sub (ws' := [(A_self, .inr (2, [.int 7, .int 400, .ref A_cells, .int self_size])), (A_cells, .inl (c 1, n_cells, .inl f_cells))]) [0, 1] (by decide) rfl
    refine W.widen (k := 0) (n := 0) (by omega) (by omega) ?_
    exact W.vret hx hb hr (fun t ht hW => ⟨⟨(f_cells, ()), rfl, ⟨(show ∀ j : Nat, ¬ ((j : Int) = 7 * i_a1 + i_a2) → f_cells j = f_cells j from (fun _ _ => rfl)), (show (0 ≤ i_a1 ∧ i_a1 < i_self_size ∧ 0 ≤ i_a2 ∧ i_a2 < 7) → f_cells (7 * i_a1 + i_a2).toNat = a3 from (fun z9 => absurd z9 (by omega)))⟩, ⟨by rw [ht]; exact hP9, hD9⟩⟩, hS.F ht⟩) hS.2.2 dX2_set_23

set_option maxHeartbeats 4000000 in
set_option maxRecDepth 100000 in
theorem k_X2_set_roll (l : Launch) (D : va_G) (c : Nat → ClassId) (ts : Nat × Nat) (sz : Nat) (A_cells : Nat) (A_self : Nat) (n_cells : Nat) (f_cells : Nat → Int32) (self_size : Int32) (i_self_size : Int) (hi_self_size : self_size.toInt = i_self_size) (a1 : Int32) (i_a1 : Int) (hi_a1 : a1.toInt = i_a1) (a2 : Int32) (i_a2 : Int) (hi_a2 : a2.toInt = i_a2) (a3 : Int32) (i_a3 : Int) (hi_a3 : a3.toInt = i_a3) (hv_self_size : 0 ≤ i_self_size ∧ i_self_size ≤ 4000) (hn_cells : 128 ≤ n_cells ∧ n_cells ≤ 64000) (hm_cells : 8 * i_self_size ≤ (n_cells : Int)) : Met l yX2_set wsX2_set ({ frames := 1, cells := 0, slots := 0, locals := 22 }) (va_Pc [.ref A_self, .int a1, .int a2, .int a3] (Pre0 D c ts [(A_self, .inr (2, [.int 8, .int 4000, .ref A_cells, .int self_size])), (A_cells, .inl (c 1, n_cells, .inl f_cells))] sz)) (va_Qv (fun (u : (Nat → Int32) × Unit) => (∀ j : Nat, ¬ ((j : Int) = 8 * i_a1 + i_a2) → u.1 j = f_cells j) ∧ ((0 ≤ i_a1 ∧ i_a1 < i_self_size ∧ 0 ≤ i_a2 ∧ i_a2 < 8) → u.1 (8 * i_a1 + i_a2).toNat = a3)) (fun u t => va_P D vwCl [(A_self, .inr (2, [.int 8, .int 4000, .ref A_cells, .int self_size])), (A_cells, .inl (c 1, n_cells, .inl u.1))] t.heap ∧ va_D (va_A [(A_self, .inr (2, [.int 8, .int 4000, .ref A_cells, .int self_size])), (A_cells, .inl (c 1, n_cells, .inl f_cells))] sz) [(A_self, .inr (2, [.int 8, .int 4000, .ref A_cells, .int self_size])), (A_cells, .inl (c 1, n_cells, .inl u.1))]) (va_A [(A_self, .inr (2, [.int 8, .int 4000, .ref A_cells, .int self_size])), (A_cells, .inl (c 1, n_cells, .inl f_cells))] sz)) 0 0 (va_A [(A_self, .inr (2, [.int 8, .int 4000, .ref A_cells, .int self_size])), (A_cells, .inl (c 1, n_cells, .inl f_cells))] sz) := by
  refine Met.ofW (cc := cX2_set) (maxL := 4) (ret := none) (by decide) rfl ?_
  intro p e s m args below meth cd s₁ B hml hv
  obtain ⟨rfl, hsz, hP, hD0, hAm, hSt⟩ := hv
  have hx := B.exec
  have hb := B.bytes
  have hr := B.returns
  have hts := atoms_spec (ws := wsX2_set) B.pre
  have hown : s.vm.findClass RX2 = some m.cls := findClass_of_methodNamed B.named
  have hlocks := B.notSynchronized
  have hK := hAm.1
  subst hsz
  have hD := hD0.self (sz := s.heap.size)
  generalize hAe : va_A [(A_self, .inr (2, [.int 8, .int 4000, .ref A_cells, .int self_size])), (A_cells, .inl (c 1, n_cells, .inl f_cells))] s.heap.size = A at hD hSt ⊢
  have hA : ∀ q : Nat, s.heap.size ≤ q → A q := fun q h => by rw [← hAe]; exact Or.inr h
  have hS : va_S A s.heap s.heap [] := va_S.rf
  clear hD0 hAe
  have hl := lv_entry ([.ref A_self, .int a1, .int a2, .int a3]) (n := 4) (Nat.le_of_ble_eq_true rfl)
  rw [lg_entry_eq]
  generalize (lg_sl ([.ref A_self, .int a1, .int a2, .int a3]) ++ List.replicate (4 - (lg_sl ([.ref A_self, .int a1, .int a2, .int a3])).length) Slot.unset).toArray = ls at hl ⊢
  have hl : lv_has ls 4 [(0, .ref A_self), (1, .int a1), (2, .int a2), (3, .int a3)] := hl
  have rg_a1 := i32r a1
  have rg_a2 := i32r a2
  have rg_a3 := i32r a3
  refine lv_aload_n hx hb dX2_set_0 rfl (lv_at hl 0 rfl) ?_
  refine lv_iload_n hx hb dX2_set_1 rfl (lv_at hl 1 rfl) ?_
  refine lv_iload_n hx hb dX2_set_2 rfl (lv_at hl 2 rfl) ?_
  have hPc := hP.sub (ws' := [(A_self, .inr (2, [.int 8, .int 4000, .ref A_cells, .int self_size]))]) [0] rfl
  have hDc := hD.sub (ws' := [(A_self, .inr (2, [.int 8, .int 4000, .ref A_cells, .int self_size]))]) [0] (by decide) rfl
  have hFc := va_free (wc := [(A_self, .inr (2, [.int 8, .int 4000, .ref A_cells, .int self_size]))]) hD hS hA [0] rfl
  refine va_csi (va_runV (As := [.int a1, .int a2]) (rest := []) ⟨hx, hb, hml, hown, hts⟩ (k_X2_has_roll l D c ts s.heap.size A_cells A_self self_size i_self_size hi_self_size a1 i_a1 hi_a1 a2 i_a2 hi_a2 (by omega)) (cwV 2 hts gX2_set_X2_has rfl rfl rfl ⟨rfl, hdX2_has⟩ ⟨(show 0 + 1 ≤ 1 by decide), (show 8 + (3 + 11) + 0 ≤ 22 by decide)⟩) ⟨Pre0.blind, va_recv hK hPc (ci := 2) (q0 := 0) rfl rfl, Pre0.at hPc hDc hAm hSt hS hFc⟩ rfl rfl hl.1 rfl (lv_room (Nat.le_of_ble_eq_true rfl)) dX2_set_3 ⟨(show 0 + 0 ≤ 0 by decide), (show 0 + 0 ≤ 0 by decide)⟩) (fun r_2 hw_1 => ?_)
  rcases hw_1 with ⟨hw_1, rfl⟩ | ⟨hw_1, rfl⟩
  · skip
    refine iif_eqF (a := 1) (tgt := 23) hx hb (by decide) dX2_set_6 (by decide) (by decide) ?_
    refine lv_aload_n hx hb dX2_set_9 rfl (lv_at hl 0 rfl) ?_
    refine va_get (D := D) (ci := 2) (v := .ref A_cells) (C := RX2) (T := TX2) (N := 4) hx hb hts (fun _ h => List.mem_cons_of_mem _ (List.mem_append_right _ h)) hown hK hP 0 rfl rfl 2 (by decide) (hts (.fieldLink RX2 24 "CrownTable$Rows" "cells" "[I") (mem_i 1 rfl)) (fun _ h9 => h9) rfl dX2_set_10 ?_
    refine lv_iload_n hx hb dX2_set_13 rfl (lv_at hl 1 rfl) ?_
    refine lv_aload_n hx hb dX2_set_14 rfl (lv_at hl 0 rfl) ?_
    refine va_get (D := D) (ci := 2) (v := .int 8) (C := RX2) (T := TX2) (N := 4) hx hb hts (fun _ h => List.mem_cons_of_mem _ (List.mem_append_right _ h)) hown hK hP 0 rfl rfl 0 (by decide) (hts (.fieldLink RX2 15 "CrownTable$Rows" "width" "I") (mem_i 2 rfl)) (fun _ h9 => h9) rfl dX2_set_15 ?_
    refine lv_imul hx hb dX2_set_18 ?_
    refine lv_topi (fun x_3 ex_3 => ?_)
    have tx_3 : x_3.toInt = (i_a1 * 8) := by rw [ex_3]; exact mul_ti (a := i_a1) (b := 8) hi_a1 (by decide) (by omega) (by omega)
    refine lv_iload_n hx hb dX2_set_19 rfl (lv_at hl 2 rfl) ?_
    refine lv_iadd hx hb dX2_set_20 ?_
    refine lv_topi (fun x_4 ex_4 => ?_)
    have tx_4 : x_4.toInt = ((i_a1 * 8) + i_a2) := by rw [ex_4]; exact add_ti (a := (i_a1 * 8)) (b := i_a2) tx_3 hi_a2 (by omega) (by omega)
    refine lv_iload_n hx hb dX2_set_21 rfl (lv_at hl 3 rfl) ?_
    refine va_iast hx hb hK hP hD hS 1 1 rfl rfl (vin (a := ((i_a1 * 8) + i_a2)) tx_4 (by omega) (by omega)) dX2_set_22 (fun H locs hP hD hS => ?_)
    obtain ⟨f_5, ef_5, hP, hD⟩ : ∃ f_5 : Nat → Int32, f_5 = upd f_cells x_4.toNatClampNeg a3 ∧ va_P D vwCl [(A_self, .inr (2, [.int 8, .int 4000, .ref A_cells, .int self_size])), (A_cells, .inl (c 1, n_cells, .inl f_5))] H ∧ va_D A [(A_self, .inr (2, [.int 8, .int 4000, .ref A_cells, .int self_size])), (A_cells, .inl (c 1, n_cells, .inl f_5))] := ⟨_, rfl, hP, hD⟩
    have hP9 := hP.sub (ws' := [(A_self, .inr (2, [.int 8, .int 4000, .ref A_cells, .int self_size])), (A_cells, .inl (c 1, n_cells, .inl f_5))]) [0, 1] rfl
    have hD9 := hD.sub (ws' := [(A_self, .inr (2, [.int 8, .int 4000, .ref A_cells, .int self_size])), (A_cells, .inl (c 1, n_cells, .inl f_5))]) [0, 1] (by decide) rfl
    refine W.widen (k := 0) (n := 0) (by omega) (by omega) ?_
    exact W.vret hx hb hr (fun t ht hW => ⟨⟨(f_5, ()), rfl, ⟨(show ∀ j : Nat, ¬ ((j : Int) = 8 * i_a1 + i_a2) → f_5 j = f_cells j from (fun j hj => by rw [ef_5]; exact upd_ne _ _ (fun z => hj (by rw [z, clampN (x := x_4) (a := 8 * i_a1 + i_a2) (by omega)]; omega)))), (show (0 ≤ i_a1 ∧ i_a1 < i_self_size ∧ 0 ≤ i_a2 ∧ i_a2 < 8) → f_5 (8 * i_a1 + i_a2).toNat = a3 from (fun _ => by rw [ef_5, ← clampN (x := x_4) (a := 8 * i_a1 + i_a2) (by omega)]; exact upd_eq _ _ _))⟩, ⟨by rw [ht]; exact hP9, hD9⟩⟩, hS.F ht⟩) hS.2.2 dX2_set_23
  · skip
    refine iif_eqT (a := 0) (tgt := 23) hx hb (by decide) dX2_set_6 (by decide) (by decide) ?_
    have hP9 := hP.sub (ws' := [(A_self, .inr (2, [.int 8, .int 4000, .ref A_cells, .int self_size])), (A_cells, .inl (c 1, n_cells, .inl f_cells))]) [0, 1] rfl
    have hD9 := hD.sub (ws' := [(A_self, .inr (2, [.int 8, .int 4000, .ref A_cells, .int self_size])), (A_cells, .inl (c 1, n_cells, .inl f_cells))]) [0, 1] (by decide) rfl
    refine W.widen (k := 0) (n := 0) (by omega) (by omega) ?_
    exact W.vret hx hb hr (fun t ht hW => ⟨⟨(f_cells, ()), rfl, ⟨(show ∀ j : Nat, ¬ ((j : Int) = 8 * i_a1 + i_a2) → f_cells j = f_cells j from (fun _ _ => rfl)), (show (0 ≤ i_a1 ∧ i_a1 < i_self_size ∧ 0 ≤ i_a2 ∧ i_a2 < 8) → f_cells (8 * i_a1 + i_a2).toNat = a3 from (fun z9 => absurd z9 (by omega)))⟩, ⟨by rw [ht]; exact hP9, hD9⟩⟩, hS.F ht⟩) hS.2.2 dX2_set_23

set_option maxHeartbeats 4000000 in
set_option maxRecDepth 100000 in
theorem k_X2_set_sticks (l : Launch) (D : va_G) (c : Nat → ClassId) (ts : Nat × Nat) (sz : Nat) (A_cells : Nat) (A_self : Nat) (n_cells : Nat) (f_cells : Nat → Int32) (self_size : Int32) (i_self_size : Int) (hi_self_size : self_size.toInt = i_self_size) (a1 : Int32) (i_a1 : Int) (hi_a1 : a1.toInt = i_a1) (a2 : Int32) (i_a2 : Int) (hi_a2 : a2.toInt = i_a2) (a3 : Int32) (i_a3 : Int) (hi_a3 : a3.toInt = i_a3) (hv_self_size : 0 ≤ i_self_size ∧ i_self_size ≤ 2000) (hn_cells : 16 ≤ n_cells ∧ n_cells ≤ 4000) (hm_cells : 1 * i_self_size ≤ (n_cells : Int)) : Met l yX2_set wsX2_set ({ frames := 1, cells := 0, slots := 0, locals := 22 }) (va_Pc [.ref A_self, .int a1, .int a2, .int a3] (Pre0 D c ts [(A_self, .inr (2, [.int 1, .int 2000, .ref A_cells, .int self_size])), (A_cells, .inl (c 1, n_cells, .inl f_cells))] sz)) (va_Qv (fun (u : (Nat → Int32) × Unit) => (∀ j : Nat, ¬ ((j : Int) = 1 * i_a1 + i_a2) → u.1 j = f_cells j) ∧ ((0 ≤ i_a1 ∧ i_a1 < i_self_size ∧ 0 ≤ i_a2 ∧ i_a2 < 1) → u.1 (1 * i_a1 + i_a2).toNat = a3)) (fun u t => va_P D vwCl [(A_self, .inr (2, [.int 1, .int 2000, .ref A_cells, .int self_size])), (A_cells, .inl (c 1, n_cells, .inl u.1))] t.heap ∧ va_D (va_A [(A_self, .inr (2, [.int 1, .int 2000, .ref A_cells, .int self_size])), (A_cells, .inl (c 1, n_cells, .inl f_cells))] sz) [(A_self, .inr (2, [.int 1, .int 2000, .ref A_cells, .int self_size])), (A_cells, .inl (c 1, n_cells, .inl u.1))]) (va_A [(A_self, .inr (2, [.int 1, .int 2000, .ref A_cells, .int self_size])), (A_cells, .inl (c 1, n_cells, .inl f_cells))] sz)) 0 0 (va_A [(A_self, .inr (2, [.int 1, .int 2000, .ref A_cells, .int self_size])), (A_cells, .inl (c 1, n_cells, .inl f_cells))] sz) := by
  refine Met.ofW (cc := cX2_set) (maxL := 4) (ret := none) (by decide) rfl ?_
  intro p e s m args below meth cd s₁ B hml hv
  obtain ⟨rfl, hsz, hP, hD0, hAm, hSt⟩ := hv
  have hx := B.exec
  have hb := B.bytes
  have hr := B.returns
  have hts := atoms_spec (ws := wsX2_set) B.pre
  have hown : s.vm.findClass RX2 = some m.cls := findClass_of_methodNamed B.named
  have hlocks := B.notSynchronized
  have hK := hAm.1
  subst hsz
  have hD := hD0.self (sz := s.heap.size)
  generalize hAe : va_A [(A_self, .inr (2, [.int 1, .int 2000, .ref A_cells, .int self_size])), (A_cells, .inl (c 1, n_cells, .inl f_cells))] s.heap.size = A at hD hSt ⊢
  have hA : ∀ q : Nat, s.heap.size ≤ q → A q := fun q h => by rw [← hAe]; exact Or.inr h
  have hS : va_S A s.heap s.heap [] := va_S.rf
  clear hD0 hAe
  have hl := lv_entry ([.ref A_self, .int a1, .int a2, .int a3]) (n := 4) (Nat.le_of_ble_eq_true rfl)
  rw [lg_entry_eq]
  generalize (lg_sl ([.ref A_self, .int a1, .int a2, .int a3]) ++ List.replicate (4 - (lg_sl ([.ref A_self, .int a1, .int a2, .int a3])).length) Slot.unset).toArray = ls at hl ⊢
  have hl : lv_has ls 4 [(0, .ref A_self), (1, .int a1), (2, .int a2), (3, .int a3)] := hl
  have rg_a1 := i32r a1
  have rg_a2 := i32r a2
  have rg_a3 := i32r a3
  refine lv_aload_n hx hb dX2_set_0 rfl (lv_at hl 0 rfl) ?_
  refine lv_iload_n hx hb dX2_set_1 rfl (lv_at hl 1 rfl) ?_
  refine lv_iload_n hx hb dX2_set_2 rfl (lv_at hl 2 rfl) ?_
  have hPc := hP.sub (ws' := [(A_self, .inr (2, [.int 1, .int 2000, .ref A_cells, .int self_size]))]) [0] rfl
  have hDc := hD.sub (ws' := [(A_self, .inr (2, [.int 1, .int 2000, .ref A_cells, .int self_size]))]) [0] (by decide) rfl
  have hFc := va_free (wc := [(A_self, .inr (2, [.int 1, .int 2000, .ref A_cells, .int self_size]))]) hD hS hA [0] rfl
  refine va_csi (va_runV (As := [.int a1, .int a2]) (rest := []) ⟨hx, hb, hml, hown, hts⟩ (k_X2_has_sticks l D c ts s.heap.size A_cells A_self self_size i_self_size hi_self_size a1 i_a1 hi_a1 a2 i_a2 hi_a2 (by omega)) (cwV 2 hts gX2_set_X2_has rfl rfl rfl ⟨rfl, hdX2_has⟩ ⟨(show 0 + 1 ≤ 1 by decide), (show 8 + (3 + 11) + 0 ≤ 22 by decide)⟩) ⟨Pre0.blind, va_recv hK hPc (ci := 2) (q0 := 0) rfl rfl, Pre0.at hPc hDc hAm hSt hS hFc⟩ rfl rfl hl.1 rfl (lv_room (Nat.le_of_ble_eq_true rfl)) dX2_set_3 ⟨(show 0 + 0 ≤ 0 by decide), (show 0 + 0 ≤ 0 by decide)⟩) (fun r_2 hw_1 => ?_)
  rcases hw_1 with ⟨hw_1, rfl⟩ | ⟨hw_1, rfl⟩
  · skip
    refine iif_eqF (a := 1) (tgt := 23) hx hb (by decide) dX2_set_6 (by decide) (by decide) ?_
    refine lv_aload_n hx hb dX2_set_9 rfl (lv_at hl 0 rfl) ?_
    refine va_get (D := D) (ci := 2) (v := .ref A_cells) (C := RX2) (T := TX2) (N := 4) hx hb hts (fun _ h => List.mem_cons_of_mem _ (List.mem_append_right _ h)) hown hK hP 0 rfl rfl 2 (by decide) (hts (.fieldLink RX2 24 "CrownTable$Rows" "cells" "[I") (mem_i 1 rfl)) (fun _ h9 => h9) rfl dX2_set_10 ?_
    refine lv_iload_n hx hb dX2_set_13 rfl (lv_at hl 1 rfl) ?_
    refine lv_aload_n hx hb dX2_set_14 rfl (lv_at hl 0 rfl) ?_
    refine va_get (D := D) (ci := 2) (v := .int 1) (C := RX2) (T := TX2) (N := 4) hx hb hts (fun _ h => List.mem_cons_of_mem _ (List.mem_append_right _ h)) hown hK hP 0 rfl rfl 0 (by decide) (hts (.fieldLink RX2 15 "CrownTable$Rows" "width" "I") (mem_i 2 rfl)) (fun _ h9 => h9) rfl dX2_set_15 ?_
    refine lv_imul hx hb dX2_set_18 ?_
    refine lv_topi (fun x_3 ex_3 => ?_)
    have tx_3 : x_3.toInt = (i_a1 * 1) := by rw [ex_3]; exact mul_ti (a := i_a1) (b := 1) hi_a1 (by decide) (by omega) (by omega)
    refine lv_iload_n hx hb dX2_set_19 rfl (lv_at hl 2 rfl) ?_
    refine lv_iadd hx hb dX2_set_20 ?_
    refine lv_topi (fun x_4 ex_4 => ?_)
    have tx_4 : x_4.toInt = ((i_a1 * 1) + i_a2) := by rw [ex_4]; exact add_ti (a := (i_a1 * 1)) (b := i_a2) tx_3 hi_a2 (by omega) (by omega)
    refine lv_iload_n hx hb dX2_set_21 rfl (lv_at hl 3 rfl) ?_
    refine va_iast hx hb hK hP hD hS 1 1 rfl rfl (vin (a := ((i_a1 * 1) + i_a2)) tx_4 (by omega) (by omega)) dX2_set_22 (fun H locs hP hD hS => ?_)
    obtain ⟨f_5, ef_5, hP, hD⟩ : ∃ f_5 : Nat → Int32, f_5 = upd f_cells x_4.toNatClampNeg a3 ∧ va_P D vwCl [(A_self, .inr (2, [.int 1, .int 2000, .ref A_cells, .int self_size])), (A_cells, .inl (c 1, n_cells, .inl f_5))] H ∧ va_D A [(A_self, .inr (2, [.int 1, .int 2000, .ref A_cells, .int self_size])), (A_cells, .inl (c 1, n_cells, .inl f_5))] := ⟨_, rfl, hP, hD⟩
    have hP9 := hP.sub (ws' := [(A_self, .inr (2, [.int 1, .int 2000, .ref A_cells, .int self_size])), (A_cells, .inl (c 1, n_cells, .inl f_5))]) [0, 1] rfl
    have hD9 := hD.sub (ws' := [(A_self, .inr (2, [.int 1, .int 2000, .ref A_cells, .int self_size])), (A_cells, .inl (c 1, n_cells, .inl f_5))]) [0, 1] (by decide) rfl
    refine W.widen (k := 0) (n := 0) (by omega) (by omega) ?_
    exact W.vret hx hb hr (fun t ht hW => ⟨⟨(f_5, ()), rfl, ⟨(show ∀ j : Nat, ¬ ((j : Int) = 1 * i_a1 + i_a2) → f_5 j = f_cells j from (fun j hj => by rw [ef_5]; exact upd_ne _ _ (fun z => hj (by rw [z, clampN (x := x_4) (a := 1 * i_a1 + i_a2) (by omega)]; omega)))), (show (0 ≤ i_a1 ∧ i_a1 < i_self_size ∧ 0 ≤ i_a2 ∧ i_a2 < 1) → f_5 (1 * i_a1 + i_a2).toNat = a3 from (fun _ => by rw [ef_5, ← clampN (x := x_4) (a := 1 * i_a1 + i_a2) (by omega)]; exact upd_eq _ _ _))⟩, ⟨by rw [ht]; exact hP9, hD9⟩⟩, hS.F ht⟩) hS.2.2 dX2_set_23
  · skip
    refine iif_eqT (a := 0) (tgt := 23) hx hb (by decide) dX2_set_6 (by decide) (by decide) ?_
    have hP9 := hP.sub (ws' := [(A_self, .inr (2, [.int 1, .int 2000, .ref A_cells, .int self_size])), (A_cells, .inl (c 1, n_cells, .inl f_cells))]) [0, 1] rfl
    have hD9 := hD.sub (ws' := [(A_self, .inr (2, [.int 1, .int 2000, .ref A_cells, .int self_size])), (A_cells, .inl (c 1, n_cells, .inl f_cells))]) [0, 1] (by decide) rfl
    refine W.widen (k := 0) (n := 0) (by omega) (by omega) ?_
    exact W.vret hx hb hr (fun t ht hW => ⟨⟨(f_cells, ()), rfl, ⟨(show ∀ j : Nat, ¬ ((j : Int) = 1 * i_a1 + i_a2) → f_cells j = f_cells j from (fun _ _ => rfl)), (show (0 ≤ i_a1 ∧ i_a1 < i_self_size ∧ 0 ≤ i_a2 ∧ i_a2 < 1) → f_cells (1 * i_a1 + i_a2).toNat = a3 from (fun z9 => absurd z9 (by omega)))⟩, ⟨by rw [ht]; exact hP9, hD9⟩⟩, hS.F ht⟩) hS.2.2 dX2_set_23

set_option maxHeartbeats 4000000 in
set_option maxRecDepth 100000 in
theorem k_X2_total_forces (l : Launch) (D : va_G) (c : Nat → ClassId) (ts : Nat × Nat) (sz : Nat) (A_cells : Nat) (A_self : Nat) (n_cells : Nat) (f_cells : Nat → Int32) (self_size : Int32) (i_self_size : Int) (hi_self_size : self_size.toInt = i_self_size) (a1 : Int32) (i_a1 : Int) (hi_a1 : a1.toInt = i_a1) (hv_self_size : 0 ≤ i_self_size ∧ i_self_size ≤ 40) (hn_cells : 32 ≤ n_cells ∧ n_cells ≤ 160) (hm_cells : 2 * i_self_size ≤ (n_cells : Int)) : Met l yX2_total wsX2_total ({ frames := 2, cells := 0, slots := 0, locals := 44 }) (va_Pc [.ref A_self, .int a1] (Pre0 D c ts [(A_self, .inr (2, [.int 2, .int 40, .ref A_cells, .int self_size])), (A_cells, .inl (c 1, n_cells, .inl f_cells))] sz)) (vp_Sl (fun r : Int64 => True)) 0 0 (fun _ => False) := by
  refine Met.ofW (cc := cX2_total) (maxL := 5) (ret := (some .long)) (by decide) rfl ?_
  intro p e s m args below meth cd s₁ B hml hv
  obtain ⟨rfl, hsz, hP, hD0, hAm, hSt⟩ := hv
  have hx := B.exec
  have hb := B.bytes
  have hr := B.returns
  have hts := atoms_spec (ws := wsX2_total) B.pre
  have hown : s.vm.findClass RX2 = some m.cls := findClass_of_methodNamed B.named
  have hlocks := B.notSynchronized
  have hK := hAm.1
  subst hsz
  have hD := hD0.self (sz := s.heap.size)
  generalize hAe : va_A [(A_self, .inr (2, [.int 2, .int 40, .ref A_cells, .int self_size])), (A_cells, .inl (c 1, n_cells, .inl f_cells))] s.heap.size = A at hD hSt
  have hA : ∀ q : Nat, s.heap.size ≤ q → A q := fun q h => by rw [← hAe]; exact Or.inr h
  have hS : va_S A s.heap s.heap [] := va_S.rf
  clear hD0 hAe
  have hl := lv_entry ([.ref A_self, .int a1]) (n := 5) (Nat.le_of_ble_eq_true rfl)
  rw [lg_entry_eq]
  generalize (lg_sl ([.ref A_self, .int a1]) ++ List.replicate (5 - (lg_sl ([.ref A_self, .int a1])).length) Slot.unset).toArray = ls at hl ⊢
  have hl : lv_has ls 5 [(0, .ref A_self), (1, .int a1)] := hl
  have rg_a1 := i32r a1
  refine lv_lconst (v := 0) hx hb dX2_total_0 (by decide) ?_
  refine lv_lstore_n (lv' := [(2, .long 0), (0, .ref A_self), (1, .int a1)]) hx hb dX2_total_1 rfl hl (by decide) rfl (fun ls hl => ?_)
  refine lv_iconst (v := 0) hx hb dX2_total_2 (by decide) ?_
  refine lv_istore (lv' := [(4, .int 0), (2, .long 0), (0, .ref A_self), (1, .int a1)]) hx hb dX2_total_3 hl (by decide) rfl (fun ls hl => ?_)
  have lp_5 : ∀ (N : Nat) (L2 : Int64) (L4 : Int32) (hf5_0 : 0 ≤ L4.toInt) (hf5_1 : L4.toInt ≤ i_self_size) (hN5 : (4000 - L4.toInt).toNat = N) (ls : Array Slot), lv_has ls 5 [(0, .ref A_self), (1, .int a1), (2, .long L2), (4, .int L4)] → W p l e (headSpec wsX2_total ({ frames := 2, cells := 0, slots := 0, locals := 44 })).room s m (([.ref A_self, .int a1] : List Value).toArray) below meth cd s.heap [] 0 0 (MQ below (vp_Sl (fun r : Int64 => True)) ([.ref A_self, .int a1] : List Value).toArray s 0 0 (fun _ => False)) (F0 m 5 ls []) := by
    refine st_ind (fun N ih5 => ?_)
    intro L2 L4 hf5_0 hf5_1 hN5 ls hl
    refine lv_iload hx hb dX2_total_5 (lv_at hl 3 rfl) ?_
    refine lv_aload_n hx hb dX2_total_7 rfl (lv_at hl 0 rfl) ?_
    refine va_get (D := D) (ci := 2) (v := .int self_size) (C := RX2) (T := TX2) (N := 4) hx hb hts (fun _ h => List.mem_cons_of_mem _ (List.mem_append_right _ h)) hown hK hP 0 rfl rfl 3 (by decide) (hts (.fieldLink RX2 28 "CrownTable$Rows" "size" "I") (mem_i 1 rfl)) (fun _ h9 => h9) rfl dX2_total_8 ?_
    refine iicmp_ge (a := L4.toInt) (b := i_self_size) (tgt := 31) hx hb rfl hi_self_size dX2_total_11 (by decide) (fun k_1 => ?_) (fun k_1 => ?_)
    · skip
      refine lv_lload_n hx hb dX2_total_31 rfl (lv_at hl 2 rfl) ?_
      exact W.lret (v := L2) hx hb hr (fun t ht hW => ⟨_, rfl, trivial, ht⟩) (fun _ h => by cases h) dX2_total_32
    · skip
      refine lv_lload_n hx hb dX2_total_14 rfl (lv_at hl 2 rfl) ?_
      refine lv_aload_n hx hb dX2_total_15 rfl (lv_at hl 0 rfl) ?_
      refine lv_iload hx hb dX2_total_16 (lv_at hl 3 rfl) ?_
      refine lv_iload_n hx hb dX2_total_18 rfl (lv_at hl 1 rfl) ?_
      have hPc := hP.sub (ws' := [(A_self, .inr (2, [.int 2, .int 40, .ref A_cells, .int self_size])), (A_cells, .inl (c 1, n_cells, .inl f_cells))]) [0, 1] rfl
      have hDc := hD.sub (ws' := [(A_self, .inr (2, [.int 2, .int 40, .ref A_cells, .int self_size])), (A_cells, .inl (c 1, n_cells, .inl f_cells))]) [0, 1] (by decide) rfl
      have hFc := va_free (wc := [(A_self, .inr (2, [.int 2, .int 40, .ref A_cells, .int self_size])), (A_cells, .inl (c 1, n_cells, .inl f_cells))]) hD hS hA [0, 1] rfl
      refine va_csi (va_runV (As := [.int L4, .int a1]) (rest := [.long L2]) ⟨hx, hb, hml, hown, hts⟩ (k_X2_get_forces l D c ts s.heap.size A_cells A_self n_cells f_cells self_size i_self_size hi_self_size L4 L4.toInt rfl a1 i_a1 hi_a1 (by omega) (by omega) (by omega)) (cwV 2 hts gX2_total_X2_get rfl rfl rfl ⟨rfl, hdX2_get⟩ ⟨(show 1 + 1 ≤ 2 by decide), (show 8 + (3 + 11) + 22 ≤ 44 by decide)⟩) ⟨Pre0.blind, va_recv hK hPc (ci := 2) (q0 := 0) rfl rfl, Pre0.at hPc hDc hAm hSt hS hFc⟩ rfl rfl hl.1 rfl (lv_room (Nat.le_of_ble_eq_true rfl)) dX2_total_19 ⟨(show 0 + 0 ≤ 0 by decide), (show 0 + 0 ≤ 0 by decide)⟩) (fun r_3 hw_2 => ?_)
      clear hw_2
      have rg_r_3 := i32r r_3
      refine lv_i2l hx hb dX2_total_22 rfl ?_
      refine lv_ladd hx hb dX2_total_23 ?_
      refine lv_topl (fun x_4 ex_4 => ?_)
      refine lv_lstore_n (lv' := [(2, .long x_4), (0, .ref A_self), (1, .int a1), (4, .int L4)]) hx hb dX2_total_24 rfl hl (by decide) rfl (fun ls hl => ?_)
      obtain ⟨x_5, ex_5⟩ : ∃ y : Int32, y = L4 + 1 := ⟨_, rfl⟩
      have tx_5 : x_5.toInt = L4.toInt + 1 := by rw [ex_5]; exact add_ti (a := L4.toInt) (b := 1) rfl (by decide) (by omega) (by omega)
      refine lv_iinc (v := x_5) (lv' := [(4, .int x_5), (2, .long x_4), (0, .ref A_self), (1, .int a1)]) hx hb dX2_total_25 hl (k := 3) rfl (by rw [ex_5]; rfl) (by decide) rfl (fun ls hl => ?_)
      refine lv_goto (tgt := 5) hx hb dX2_total_28 (by decide) ?_
      have hl := lv_sub hl [2, 3, 1, 0] rfl
      exact (ih5 ((4000 - x_5.toInt).toNat) (by omega) x_4 x_5 (by omega) (by omega) rfl _ hl)
  have kzz_6 : (0 : Int32).toInt = 0 := by decide
  have hl := lv_sub hl [2, 3, 1, 0] rfl
  exact (lp_5 _ 0 0 (by omega) (by omega) rfl _ hl)

set_option maxHeartbeats 4000000 in
set_option maxRecDepth 100000 in
theorem k_X2_total_debts (l : Launch) (D : va_G) (c : Nat → ClassId) (ts : Nat × Nat) (sz : Nat) (A_cells : Nat) (A_self : Nat) (n_cells : Nat) (f_cells : Nat → Int32) (self_size : Int32) (i_self_size : Int) (hi_self_size : self_size.toInt = i_self_size) (a1 : Int32) (i_a1 : Int) (hi_a1 : a1.toInt = i_a1) (hv_self_size : 0 ≤ i_self_size ∧ i_self_size ≤ 400) (hn_cells : 112 ≤ n_cells ∧ n_cells ≤ 5600) (hm_cells : 7 * i_self_size ≤ (n_cells : Int)) : Met l yX2_total wsX2_total ({ frames := 2, cells := 0, slots := 0, locals := 44 }) (va_Pc [.ref A_self, .int a1] (Pre0 D c ts [(A_self, .inr (2, [.int 7, .int 400, .ref A_cells, .int self_size])), (A_cells, .inl (c 1, n_cells, .inl f_cells))] sz)) (vp_Sl (fun r : Int64 => True)) 0 0 (fun _ => False) := by
  refine Met.ofW (cc := cX2_total) (maxL := 5) (ret := (some .long)) (by decide) rfl ?_
  intro p e s m args below meth cd s₁ B hml hv
  obtain ⟨rfl, hsz, hP, hD0, hAm, hSt⟩ := hv
  have hx := B.exec
  have hb := B.bytes
  have hr := B.returns
  have hts := atoms_spec (ws := wsX2_total) B.pre
  have hown : s.vm.findClass RX2 = some m.cls := findClass_of_methodNamed B.named
  have hlocks := B.notSynchronized
  have hK := hAm.1
  subst hsz
  have hD := hD0.self (sz := s.heap.size)
  generalize hAe : va_A [(A_self, .inr (2, [.int 7, .int 400, .ref A_cells, .int self_size])), (A_cells, .inl (c 1, n_cells, .inl f_cells))] s.heap.size = A at hD hSt
  have hA : ∀ q : Nat, s.heap.size ≤ q → A q := fun q h => by rw [← hAe]; exact Or.inr h
  have hS : va_S A s.heap s.heap [] := va_S.rf
  clear hD0 hAe
  have hl := lv_entry ([.ref A_self, .int a1]) (n := 5) (Nat.le_of_ble_eq_true rfl)
  rw [lg_entry_eq]
  generalize (lg_sl ([.ref A_self, .int a1]) ++ List.replicate (5 - (lg_sl ([.ref A_self, .int a1])).length) Slot.unset).toArray = ls at hl ⊢
  have hl : lv_has ls 5 [(0, .ref A_self), (1, .int a1)] := hl
  have rg_a1 := i32r a1
  refine lv_lconst (v := 0) hx hb dX2_total_0 (by decide) ?_
  refine lv_lstore_n (lv' := [(2, .long 0), (0, .ref A_self), (1, .int a1)]) hx hb dX2_total_1 rfl hl (by decide) rfl (fun ls hl => ?_)
  refine lv_iconst (v := 0) hx hb dX2_total_2 (by decide) ?_
  refine lv_istore (lv' := [(4, .int 0), (2, .long 0), (0, .ref A_self), (1, .int a1)]) hx hb dX2_total_3 hl (by decide) rfl (fun ls hl => ?_)
  have lp_5 : ∀ (N : Nat) (L2 : Int64) (L4 : Int32) (hf5_0 : 0 ≤ L4.toInt) (hf5_1 : L4.toInt ≤ i_self_size) (hN5 : (4000 - L4.toInt).toNat = N) (ls : Array Slot), lv_has ls 5 [(0, .ref A_self), (1, .int a1), (2, .long L2), (4, .int L4)] → W p l e (headSpec wsX2_total ({ frames := 2, cells := 0, slots := 0, locals := 44 })).room s m (([.ref A_self, .int a1] : List Value).toArray) below meth cd s.heap [] 0 0 (MQ below (vp_Sl (fun r : Int64 => True)) ([.ref A_self, .int a1] : List Value).toArray s 0 0 (fun _ => False)) (F0 m 5 ls []) := by
    refine st_ind (fun N ih5 => ?_)
    intro L2 L4 hf5_0 hf5_1 hN5 ls hl
    refine lv_iload hx hb dX2_total_5 (lv_at hl 3 rfl) ?_
    refine lv_aload_n hx hb dX2_total_7 rfl (lv_at hl 0 rfl) ?_
    refine va_get (D := D) (ci := 2) (v := .int self_size) (C := RX2) (T := TX2) (N := 4) hx hb hts (fun _ h => List.mem_cons_of_mem _ (List.mem_append_right _ h)) hown hK hP 0 rfl rfl 3 (by decide) (hts (.fieldLink RX2 28 "CrownTable$Rows" "size" "I") (mem_i 1 rfl)) (fun _ h9 => h9) rfl dX2_total_8 ?_
    refine iicmp_ge (a := L4.toInt) (b := i_self_size) (tgt := 31) hx hb rfl hi_self_size dX2_total_11 (by decide) (fun k_1 => ?_) (fun k_1 => ?_)
    · skip
      refine lv_lload_n hx hb dX2_total_31 rfl (lv_at hl 2 rfl) ?_
      exact W.lret (v := L2) hx hb hr (fun t ht hW => ⟨_, rfl, trivial, ht⟩) (fun _ h => by cases h) dX2_total_32
    · skip
      refine lv_lload_n hx hb dX2_total_14 rfl (lv_at hl 2 rfl) ?_
      refine lv_aload_n hx hb dX2_total_15 rfl (lv_at hl 0 rfl) ?_
      refine lv_iload hx hb dX2_total_16 (lv_at hl 3 rfl) ?_
      refine lv_iload_n hx hb dX2_total_18 rfl (lv_at hl 1 rfl) ?_
      have hPc := hP.sub (ws' := [(A_self, .inr (2, [.int 7, .int 400, .ref A_cells, .int self_size])), (A_cells, .inl (c 1, n_cells, .inl f_cells))]) [0, 1] rfl
      have hDc := hD.sub (ws' := [(A_self, .inr (2, [.int 7, .int 400, .ref A_cells, .int self_size])), (A_cells, .inl (c 1, n_cells, .inl f_cells))]) [0, 1] (by decide) rfl
      have hFc := va_free (wc := [(A_self, .inr (2, [.int 7, .int 400, .ref A_cells, .int self_size])), (A_cells, .inl (c 1, n_cells, .inl f_cells))]) hD hS hA [0, 1] rfl
      refine va_csi (va_runV (As := [.int L4, .int a1]) (rest := [.long L2]) ⟨hx, hb, hml, hown, hts⟩ (k_X2_get_debts l D c ts s.heap.size A_cells A_self n_cells f_cells self_size i_self_size hi_self_size L4 L4.toInt rfl a1 i_a1 hi_a1 (by omega) (by omega) (by omega)) (cwV 2 hts gX2_total_X2_get rfl rfl rfl ⟨rfl, hdX2_get⟩ ⟨(show 1 + 1 ≤ 2 by decide), (show 8 + (3 + 11) + 22 ≤ 44 by decide)⟩) ⟨Pre0.blind, va_recv hK hPc (ci := 2) (q0 := 0) rfl rfl, Pre0.at hPc hDc hAm hSt hS hFc⟩ rfl rfl hl.1 rfl (lv_room (Nat.le_of_ble_eq_true rfl)) dX2_total_19 ⟨(show 0 + 0 ≤ 0 by decide), (show 0 + 0 ≤ 0 by decide)⟩) (fun r_3 hw_2 => ?_)
      clear hw_2
      have rg_r_3 := i32r r_3
      refine lv_i2l hx hb dX2_total_22 rfl ?_
      refine lv_ladd hx hb dX2_total_23 ?_
      refine lv_topl (fun x_4 ex_4 => ?_)
      refine lv_lstore_n (lv' := [(2, .long x_4), (0, .ref A_self), (1, .int a1), (4, .int L4)]) hx hb dX2_total_24 rfl hl (by decide) rfl (fun ls hl => ?_)
      obtain ⟨x_5, ex_5⟩ : ∃ y : Int32, y = L4 + 1 := ⟨_, rfl⟩
      have tx_5 : x_5.toInt = L4.toInt + 1 := by rw [ex_5]; exact add_ti (a := L4.toInt) (b := 1) rfl (by decide) (by omega) (by omega)
      refine lv_iinc (v := x_5) (lv' := [(4, .int x_5), (2, .long x_4), (0, .ref A_self), (1, .int a1)]) hx hb dX2_total_25 hl (k := 3) rfl (by rw [ex_5]; rfl) (by decide) rfl (fun ls hl => ?_)
      refine lv_goto (tgt := 5) hx hb dX2_total_28 (by decide) ?_
      have hl := lv_sub hl [2, 3, 1, 0] rfl
      exact (ih5 ((4000 - x_5.toInt).toNat) (by omega) x_4 x_5 (by omega) (by omega) rfl _ hl)
  have kzz_6 : (0 : Int32).toInt = 0 := by decide
  have hl := lv_sub hl [2, 3, 1, 0] rfl
  exact (lp_5 _ 0 0 (by omega) (by omega) rfl _ hl)

set_option maxHeartbeats 4000000 in
set_option maxRecDepth 100000 in
theorem k_X2_total_roll (l : Launch) (D : va_G) (c : Nat → ClassId) (ts : Nat × Nat) (sz : Nat) (A_cells : Nat) (A_self : Nat) (n_cells : Nat) (f_cells : Nat → Int32) (self_size : Int32) (i_self_size : Int) (hi_self_size : self_size.toInt = i_self_size) (a1 : Int32) (i_a1 : Int) (hi_a1 : a1.toInt = i_a1) (hv_self_size : 0 ≤ i_self_size ∧ i_self_size ≤ 4000) (hn_cells : 128 ≤ n_cells ∧ n_cells ≤ 64000) (hm_cells : 8 * i_self_size ≤ (n_cells : Int)) : Met l yX2_total wsX2_total ({ frames := 2, cells := 0, slots := 0, locals := 44 }) (va_Pc [.ref A_self, .int a1] (Pre0 D c ts [(A_self, .inr (2, [.int 8, .int 4000, .ref A_cells, .int self_size])), (A_cells, .inl (c 1, n_cells, .inl f_cells))] sz)) (vp_Sl (fun r : Int64 => True)) 0 0 (fun _ => False) := by
  refine Met.ofW (cc := cX2_total) (maxL := 5) (ret := (some .long)) (by decide) rfl ?_
  intro p e s m args below meth cd s₁ B hml hv
  obtain ⟨rfl, hsz, hP, hD0, hAm, hSt⟩ := hv
  have hx := B.exec
  have hb := B.bytes
  have hr := B.returns
  have hts := atoms_spec (ws := wsX2_total) B.pre
  have hown : s.vm.findClass RX2 = some m.cls := findClass_of_methodNamed B.named
  have hlocks := B.notSynchronized
  have hK := hAm.1
  subst hsz
  have hD := hD0.self (sz := s.heap.size)
  generalize hAe : va_A [(A_self, .inr (2, [.int 8, .int 4000, .ref A_cells, .int self_size])), (A_cells, .inl (c 1, n_cells, .inl f_cells))] s.heap.size = A at hD hSt
  have hA : ∀ q : Nat, s.heap.size ≤ q → A q := fun q h => by rw [← hAe]; exact Or.inr h
  have hS : va_S A s.heap s.heap [] := va_S.rf
  clear hD0 hAe
  have hl := lv_entry ([.ref A_self, .int a1]) (n := 5) (Nat.le_of_ble_eq_true rfl)
  rw [lg_entry_eq]
  generalize (lg_sl ([.ref A_self, .int a1]) ++ List.replicate (5 - (lg_sl ([.ref A_self, .int a1])).length) Slot.unset).toArray = ls at hl ⊢
  have hl : lv_has ls 5 [(0, .ref A_self), (1, .int a1)] := hl
  have rg_a1 := i32r a1
  refine lv_lconst (v := 0) hx hb dX2_total_0 (by decide) ?_
  refine lv_lstore_n (lv' := [(2, .long 0), (0, .ref A_self), (1, .int a1)]) hx hb dX2_total_1 rfl hl (by decide) rfl (fun ls hl => ?_)
  refine lv_iconst (v := 0) hx hb dX2_total_2 (by decide) ?_
  refine lv_istore (lv' := [(4, .int 0), (2, .long 0), (0, .ref A_self), (1, .int a1)]) hx hb dX2_total_3 hl (by decide) rfl (fun ls hl => ?_)
  have lp_5 : ∀ (N : Nat) (L2 : Int64) (L4 : Int32) (hf5_0 : 0 ≤ L4.toInt) (hf5_1 : L4.toInt ≤ i_self_size) (hN5 : (4000 - L4.toInt).toNat = N) (ls : Array Slot), lv_has ls 5 [(0, .ref A_self), (1, .int a1), (2, .long L2), (4, .int L4)] → W p l e (headSpec wsX2_total ({ frames := 2, cells := 0, slots := 0, locals := 44 })).room s m (([.ref A_self, .int a1] : List Value).toArray) below meth cd s.heap [] 0 0 (MQ below (vp_Sl (fun r : Int64 => True)) ([.ref A_self, .int a1] : List Value).toArray s 0 0 (fun _ => False)) (F0 m 5 ls []) := by
    refine st_ind (fun N ih5 => ?_)
    intro L2 L4 hf5_0 hf5_1 hN5 ls hl
    refine lv_iload hx hb dX2_total_5 (lv_at hl 3 rfl) ?_
    refine lv_aload_n hx hb dX2_total_7 rfl (lv_at hl 0 rfl) ?_
    refine va_get (D := D) (ci := 2) (v := .int self_size) (C := RX2) (T := TX2) (N := 4) hx hb hts (fun _ h => List.mem_cons_of_mem _ (List.mem_append_right _ h)) hown hK hP 0 rfl rfl 3 (by decide) (hts (.fieldLink RX2 28 "CrownTable$Rows" "size" "I") (mem_i 1 rfl)) (fun _ h9 => h9) rfl dX2_total_8 ?_
    refine iicmp_ge (a := L4.toInt) (b := i_self_size) (tgt := 31) hx hb rfl hi_self_size dX2_total_11 (by decide) (fun k_1 => ?_) (fun k_1 => ?_)
    · skip
      refine lv_lload_n hx hb dX2_total_31 rfl (lv_at hl 2 rfl) ?_
      exact W.lret (v := L2) hx hb hr (fun t ht hW => ⟨_, rfl, trivial, ht⟩) (fun _ h => by cases h) dX2_total_32
    · skip
      refine lv_lload_n hx hb dX2_total_14 rfl (lv_at hl 2 rfl) ?_
      refine lv_aload_n hx hb dX2_total_15 rfl (lv_at hl 0 rfl) ?_
      refine lv_iload hx hb dX2_total_16 (lv_at hl 3 rfl) ?_
      refine lv_iload_n hx hb dX2_total_18 rfl (lv_at hl 1 rfl) ?_
      have hPc := hP.sub (ws' := [(A_self, .inr (2, [.int 8, .int 4000, .ref A_cells, .int self_size])), (A_cells, .inl (c 1, n_cells, .inl f_cells))]) [0, 1] rfl
      have hDc := hD.sub (ws' := [(A_self, .inr (2, [.int 8, .int 4000, .ref A_cells, .int self_size])), (A_cells, .inl (c 1, n_cells, .inl f_cells))]) [0, 1] (by decide) rfl
      have hFc := va_free (wc := [(A_self, .inr (2, [.int 8, .int 4000, .ref A_cells, .int self_size])), (A_cells, .inl (c 1, n_cells, .inl f_cells))]) hD hS hA [0, 1] rfl
      refine va_csi (va_runV (As := [.int L4, .int a1]) (rest := [.long L2]) ⟨hx, hb, hml, hown, hts⟩ (k_X2_get_roll l D c ts s.heap.size A_cells A_self n_cells f_cells self_size i_self_size hi_self_size L4 L4.toInt rfl a1 i_a1 hi_a1 (by omega) (by omega) (by omega)) (cwV 2 hts gX2_total_X2_get rfl rfl rfl ⟨rfl, hdX2_get⟩ ⟨(show 1 + 1 ≤ 2 by decide), (show 8 + (3 + 11) + 22 ≤ 44 by decide)⟩) ⟨Pre0.blind, va_recv hK hPc (ci := 2) (q0 := 0) rfl rfl, Pre0.at hPc hDc hAm hSt hS hFc⟩ rfl rfl hl.1 rfl (lv_room (Nat.le_of_ble_eq_true rfl)) dX2_total_19 ⟨(show 0 + 0 ≤ 0 by decide), (show 0 + 0 ≤ 0 by decide)⟩) (fun r_3 hw_2 => ?_)
      clear hw_2
      have rg_r_3 := i32r r_3
      refine lv_i2l hx hb dX2_total_22 rfl ?_
      refine lv_ladd hx hb dX2_total_23 ?_
      refine lv_topl (fun x_4 ex_4 => ?_)
      refine lv_lstore_n (lv' := [(2, .long x_4), (0, .ref A_self), (1, .int a1), (4, .int L4)]) hx hb dX2_total_24 rfl hl (by decide) rfl (fun ls hl => ?_)
      obtain ⟨x_5, ex_5⟩ : ∃ y : Int32, y = L4 + 1 := ⟨_, rfl⟩
      have tx_5 : x_5.toInt = L4.toInt + 1 := by rw [ex_5]; exact add_ti (a := L4.toInt) (b := 1) rfl (by decide) (by omega) (by omega)
      refine lv_iinc (v := x_5) (lv' := [(4, .int x_5), (2, .long x_4), (0, .ref A_self), (1, .int a1)]) hx hb dX2_total_25 hl (k := 3) rfl (by rw [ex_5]; rfl) (by decide) rfl (fun ls hl => ?_)
      refine lv_goto (tgt := 5) hx hb dX2_total_28 (by decide) ?_
      have hl := lv_sub hl [2, 3, 1, 0] rfl
      exact (ih5 ((4000 - x_5.toInt).toNat) (by omega) x_4 x_5 (by omega) (by omega) rfl _ hl)
  have kzz_6 : (0 : Int32).toInt = 0 := by decide
  have hl := lv_sub hl [2, 3, 1, 0] rfl
  exact (lp_5 _ 0 0 (by omega) (by omega) rfl _ hl)

set_option maxHeartbeats 4000000 in
set_option maxRecDepth 100000 in
theorem k_X2_total_sticks (l : Launch) (D : va_G) (c : Nat → ClassId) (ts : Nat × Nat) (sz : Nat) (A_cells : Nat) (A_self : Nat) (n_cells : Nat) (f_cells : Nat → Int32) (self_size : Int32) (i_self_size : Int) (hi_self_size : self_size.toInt = i_self_size) (a1 : Int32) (i_a1 : Int) (hi_a1 : a1.toInt = i_a1) (hv_self_size : 0 ≤ i_self_size ∧ i_self_size ≤ 2000) (hn_cells : 16 ≤ n_cells ∧ n_cells ≤ 4000) (hm_cells : 1 * i_self_size ≤ (n_cells : Int)) : Met l yX2_total wsX2_total ({ frames := 2, cells := 0, slots := 0, locals := 44 }) (va_Pc [.ref A_self, .int a1] (Pre0 D c ts [(A_self, .inr (2, [.int 1, .int 2000, .ref A_cells, .int self_size])), (A_cells, .inl (c 1, n_cells, .inl f_cells))] sz)) (vp_Sl (fun r : Int64 => True)) 0 0 (fun _ => False) := by
  refine Met.ofW (cc := cX2_total) (maxL := 5) (ret := (some .long)) (by decide) rfl ?_
  intro p e s m args below meth cd s₁ B hml hv
  obtain ⟨rfl, hsz, hP, hD0, hAm, hSt⟩ := hv
  have hx := B.exec
  have hb := B.bytes
  have hr := B.returns
  have hts := atoms_spec (ws := wsX2_total) B.pre
  have hown : s.vm.findClass RX2 = some m.cls := findClass_of_methodNamed B.named
  have hlocks := B.notSynchronized
  have hK := hAm.1
  subst hsz
  have hD := hD0.self (sz := s.heap.size)
  generalize hAe : va_A [(A_self, .inr (2, [.int 1, .int 2000, .ref A_cells, .int self_size])), (A_cells, .inl (c 1, n_cells, .inl f_cells))] s.heap.size = A at hD hSt
  have hA : ∀ q : Nat, s.heap.size ≤ q → A q := fun q h => by rw [← hAe]; exact Or.inr h
  have hS : va_S A s.heap s.heap [] := va_S.rf
  clear hD0 hAe
  have hl := lv_entry ([.ref A_self, .int a1]) (n := 5) (Nat.le_of_ble_eq_true rfl)
  rw [lg_entry_eq]
  generalize (lg_sl ([.ref A_self, .int a1]) ++ List.replicate (5 - (lg_sl ([.ref A_self, .int a1])).length) Slot.unset).toArray = ls at hl ⊢
  have hl : lv_has ls 5 [(0, .ref A_self), (1, .int a1)] := hl
  have rg_a1 := i32r a1
  refine lv_lconst (v := 0) hx hb dX2_total_0 (by decide) ?_
  refine lv_lstore_n (lv' := [(2, .long 0), (0, .ref A_self), (1, .int a1)]) hx hb dX2_total_1 rfl hl (by decide) rfl (fun ls hl => ?_)
  refine lv_iconst (v := 0) hx hb dX2_total_2 (by decide) ?_
  refine lv_istore (lv' := [(4, .int 0), (2, .long 0), (0, .ref A_self), (1, .int a1)]) hx hb dX2_total_3 hl (by decide) rfl (fun ls hl => ?_)
  have lp_5 : ∀ (N : Nat) (L2 : Int64) (L4 : Int32) (hf5_0 : 0 ≤ L4.toInt) (hf5_1 : L4.toInt ≤ i_self_size) (hN5 : (4000 - L4.toInt).toNat = N) (ls : Array Slot), lv_has ls 5 [(0, .ref A_self), (1, .int a1), (2, .long L2), (4, .int L4)] → W p l e (headSpec wsX2_total ({ frames := 2, cells := 0, slots := 0, locals := 44 })).room s m (([.ref A_self, .int a1] : List Value).toArray) below meth cd s.heap [] 0 0 (MQ below (vp_Sl (fun r : Int64 => True)) ([.ref A_self, .int a1] : List Value).toArray s 0 0 (fun _ => False)) (F0 m 5 ls []) := by
    refine st_ind (fun N ih5 => ?_)
    intro L2 L4 hf5_0 hf5_1 hN5 ls hl
    refine lv_iload hx hb dX2_total_5 (lv_at hl 3 rfl) ?_
    refine lv_aload_n hx hb dX2_total_7 rfl (lv_at hl 0 rfl) ?_
    refine va_get (D := D) (ci := 2) (v := .int self_size) (C := RX2) (T := TX2) (N := 4) hx hb hts (fun _ h => List.mem_cons_of_mem _ (List.mem_append_right _ h)) hown hK hP 0 rfl rfl 3 (by decide) (hts (.fieldLink RX2 28 "CrownTable$Rows" "size" "I") (mem_i 1 rfl)) (fun _ h9 => h9) rfl dX2_total_8 ?_
    refine iicmp_ge (a := L4.toInt) (b := i_self_size) (tgt := 31) hx hb rfl hi_self_size dX2_total_11 (by decide) (fun k_1 => ?_) (fun k_1 => ?_)
    · skip
      refine lv_lload_n hx hb dX2_total_31 rfl (lv_at hl 2 rfl) ?_
      exact W.lret (v := L2) hx hb hr (fun t ht hW => ⟨_, rfl, trivial, ht⟩) (fun _ h => by cases h) dX2_total_32
    · skip
      refine lv_lload_n hx hb dX2_total_14 rfl (lv_at hl 2 rfl) ?_
      refine lv_aload_n hx hb dX2_total_15 rfl (lv_at hl 0 rfl) ?_
      refine lv_iload hx hb dX2_total_16 (lv_at hl 3 rfl) ?_
      refine lv_iload_n hx hb dX2_total_18 rfl (lv_at hl 1 rfl) ?_
      have hPc := hP.sub (ws' := [(A_self, .inr (2, [.int 1, .int 2000, .ref A_cells, .int self_size])), (A_cells, .inl (c 1, n_cells, .inl f_cells))]) [0, 1] rfl
      have hDc := hD.sub (ws' := [(A_self, .inr (2, [.int 1, .int 2000, .ref A_cells, .int self_size])), (A_cells, .inl (c 1, n_cells, .inl f_cells))]) [0, 1] (by decide) rfl
      have hFc := va_free (wc := [(A_self, .inr (2, [.int 1, .int 2000, .ref A_cells, .int self_size])), (A_cells, .inl (c 1, n_cells, .inl f_cells))]) hD hS hA [0, 1] rfl
      refine va_csi (va_runV (As := [.int L4, .int a1]) (rest := [.long L2]) ⟨hx, hb, hml, hown, hts⟩ (k_X2_get_sticks l D c ts s.heap.size A_cells A_self n_cells f_cells self_size i_self_size hi_self_size L4 L4.toInt rfl a1 i_a1 hi_a1 (by omega) (by omega) (by omega)) (cwV 2 hts gX2_total_X2_get rfl rfl rfl ⟨rfl, hdX2_get⟩ ⟨(show 1 + 1 ≤ 2 by decide), (show 8 + (3 + 11) + 22 ≤ 44 by decide)⟩) ⟨Pre0.blind, va_recv hK hPc (ci := 2) (q0 := 0) rfl rfl, Pre0.at hPc hDc hAm hSt hS hFc⟩ rfl rfl hl.1 rfl (lv_room (Nat.le_of_ble_eq_true rfl)) dX2_total_19 ⟨(show 0 + 0 ≤ 0 by decide), (show 0 + 0 ≤ 0 by decide)⟩) (fun r_3 hw_2 => ?_)
      clear hw_2
      have rg_r_3 := i32r r_3
      refine lv_i2l hx hb dX2_total_22 rfl ?_
      refine lv_ladd hx hb dX2_total_23 ?_
      refine lv_topl (fun x_4 ex_4 => ?_)
      refine lv_lstore_n (lv' := [(2, .long x_4), (0, .ref A_self), (1, .int a1), (4, .int L4)]) hx hb dX2_total_24 rfl hl (by decide) rfl (fun ls hl => ?_)
      obtain ⟨x_5, ex_5⟩ : ∃ y : Int32, y = L4 + 1 := ⟨_, rfl⟩
      have tx_5 : x_5.toInt = L4.toInt + 1 := by rw [ex_5]; exact add_ti (a := L4.toInt) (b := 1) rfl (by decide) (by omega) (by omega)
      refine lv_iinc (v := x_5) (lv' := [(4, .int x_5), (2, .long x_4), (0, .ref A_self), (1, .int a1)]) hx hb dX2_total_25 hl (k := 3) rfl (by rw [ex_5]; rfl) (by decide) rfl (fun ls hl => ?_)
      refine lv_goto (tgt := 5) hx hb dX2_total_28 (by decide) ?_
      have hl := lv_sub hl [2, 3, 1, 0] rfl
      exact (ih5 ((4000 - x_5.toInt).toNat) (by omega) x_4 x_5 (by omega) (by omega) rfl _ hl)
  have kzz_6 : (0 : Int32).toInt = 0 := by decide
  have hl := lv_sub hl [2, 3, 1, 0] rfl
  exact (lp_5 _ 0 0 (by omega) (by omega) rfl _ hl)

set_option maxHeartbeats 4000000 in
set_option maxRecDepth 100000 in
theorem k_J7_copyOf_59c91 (l : Launch) (D : va_G) (c : Nat → ClassId) (ts : Nat × Nat) (sz : Nat) (A_src : Nat) (n_src : Nat) (f_src : Nat → Int32) (a2 : Int32) (i_a2 : Int) (hi_a2 : a2.toInt = i_a2) (hn_src : n_src ≤ 64000) (hv_a2 : 0 ≤ i_a2 ∧ i_a2 ≤ 64000) : Met l yJ7_copyOf_59c91 wsJ7_copyOf_59c91 ({ frames := 1, cells := 1, slots := i_a2.toNat, locals := 18 }) (va_Pc [.ref A_src, .int a2] (Pre0 D c ts [(A_src, .inl (c 1, n_src, .inl f_src))] sz)) (va_Qr (fun (u : Nat × (Nat → Int32) × Unit) => ((u.1 : Int) = i_a2) ∧ (∀ j : Nat, j < n_src → j < u.1 → u.2.1 j = f_src j)) (fun u a t => va_P D vwCl [(A_src, .inl (c 1, n_src, .inl f_src)), (a, .inl (c 1, u.1, .inl u.2.1))] t.heap ∧ va_D (va_A [(A_src, .inl (c 1, n_src, .inl f_src))] sz) [(A_src, .inl (c 1, n_src, .inl f_src)), (a, .inl (c 1, u.1, .inl u.2.1))]) (va_A [(A_src, .inl (c 1, n_src, .inl f_src))] sz)) 1 i_a2.toNat (va_A [(A_src, .inl (c 1, n_src, .inl f_src))] sz) := by
  refine Met.ofW (cc := cJ7_copyOf_59c91) (maxL := 3) (ret := (some (.array .int))) (by decide) rfl ?_
  intro p e s m args below meth cd s₁ B hml hv
  obtain ⟨rfl, hsz, hP, hD0, hAm, hSt⟩ := hv
  have hx := B.exec
  have hb := B.bytes
  have hr := B.returns
  have hts := atoms_spec (ws := wsJ7_copyOf_59c91) B.pre
  have hown : s.vm.findClass RJ7 = some m.cls := findClass_of_methodNamed B.named
  have hlocks := B.notSynchronized
  have hK := hAm.1
  subst hsz
  have hD := hD0.self (sz := s.heap.size)
  generalize hAe : va_A [(A_src, .inl (c 1, n_src, .inl f_src))] s.heap.size = A at hD hSt ⊢
  have hA : ∀ q : Nat, s.heap.size ≤ q → A q := fun q h => by rw [← hAe]; exact Or.inr h
  have hS : va_S A s.heap s.heap [] := va_S.rf
  clear hD0 hAe
  have hl := lv_entry ([.ref A_src, .int a2]) (n := 3) (Nat.le_of_ble_eq_true rfl)
  rw [lg_entry_eq]
  generalize (lg_sl ([.ref A_src, .int a2]) ++ List.replicate (3 - (lg_sl ([.ref A_src, .int a2])).length) Slot.unset).toArray = ls at hl ⊢
  have hl : lv_has ls 3 [(0, .ref A_src), (1, .int a2)] := hl
  refine lv_iload_n hx hb dJ7_copyOf_59c91_0 rfl (lv_at hl 1 rfl) ?_
  refine lv_aload_n hx hb dJ7_copyOf_59c91_1 rfl (lv_at hl 0 rfl) ?_
  refine va_alen hx hb hK hP 0 1 rfl rfl rfl dJ7_copyOf_59c91_2 ?_
  obtain ⟨x_1, ex_1⟩ : ∃ x_1 : Int32, x_1 = Int32.ofNat n_src := ⟨_, rfl⟩
  refine lk_i (y := x_1) ex_1.symm ?_
  have tx_1 : x_1.toInt = (n_src : Int) := by rw [ex_1]; exact nI_toInt (by omega)
  refine iicmp_ne (a := i_a2) (b := (n_src : Int)) (tgt := 14) hx hb hi_a2 tx_1 dJ7_copyOf_59c91_3 (by decide) (fun k_2 => ?_) (fun k_2 => ?_)
  · skip
    refine lv_iload_n hx hb dJ7_copyOf_59c91_14 rfl (lv_at hl 1 rfl) ?_
    refine va_newa (atype := .int) (ty := .int) (N' := i_a2.toNat) (a0 := (i_a2.toNat, .inl (fun _ => 0))) hx hb (hts (.arrayClass .int) (mem_i 7 rfl)) rfl hK hP hD hS hA (fun cA => vp_cell_i cA (i_a2.toNat) (fun _ => 0)) (nneg hi_a2 (by omega)) (clampN hi_a2) (show i_a2.toNat * 4 ≤ 536870912 by omega) (show 0 + 1 ≤ 1 by omega) (show 0 + i_a2.toNat ≤ i_a2.toNat by omega) dJ7_copyOf_59c91_15 (fun q_3 cq_3 H hK1 hP hD hS => ?_)
    obtain rfl : cq_3 = c 1 := nk_id hK1 1 rfl
    have hP : va_P D vwCl [(A_src, .inl (c 1, n_src, .inl f_src)), (q_3, .inl (c 1, i_a2.toNat, .inl (fun _ => 0)))] H := hP
    have hD : va_D A [(A_src, .inl (c 1, n_src, .inl f_src)), (q_3, .inl (c 1, i_a2.toNat, .inl (fun _ => 0)))] := hD
    refine W.widen (k := 1) (n := i_a2.toNat) (by omega) (by omega) ?_
    refine lv_astore_n (lv' := [(2, .ref q_3), (0, .ref A_src), (1, .int a2)]) hx hb dJ7_copyOf_59c91_17 rfl hl (by decide) rfl (fun ls hl => ?_)
    refine lv_aload_n hx hb dJ7_copyOf_59c91_18 rfl (lv_at hl 1 rfl) ?_
    refine lv_iconst (v := 0) hx hb dJ7_copyOf_59c91_19 (by decide) ?_
    refine lv_aload_n hx hb dJ7_copyOf_59c91_20 rfl (lv_at hl 0 rfl) ?_
    refine lv_iconst (v := 0) hx hb dJ7_copyOf_59c91_21 (by decide) ?_
    refine lv_aload_n hx hb dJ7_copyOf_59c91_22 rfl (lv_at hl 1 rfl) ?_
    refine va_alen hx hb hK hP 0 1 rfl rfl rfl dJ7_copyOf_59c91_23 ?_
    obtain ⟨x_4, ex_4⟩ : ∃ x_4 : Int32, x_4 = Int32.ofNat n_src := ⟨_, rfl⟩
    refine lk_i (y := x_4) ex_4.symm ?_
    have tx_4 : x_4.toInt = (n_src : Int) := by rw [ex_4]; exact nI_toInt (by omega)
    refine lv_iload_n hx hb dJ7_copyOf_59c91_24 rfl (lv_at hl 2 rfl) ?_
    refine va_mmin hx hb (by rw [hml]; exact hl.1.symm) hown (hts (.methodLink RJ7 304 Lib.Math.min.name) (mem_i 8 rfl)) (hts (.static Lib.Math.min.name) (mem_i 9 rfl)) (hts (.initialized "java/lang/Math") (mem_i 10 rfl)) (hts (.code Lib.Math.min.name Lib.Math.min.code 2 (some .int)) (mem_i 11 rfl)) (Nat.le_of_ble_eq_true rfl) (Nat.le_of_ble_eq_true rfl) (show 1 + 0 ≤ 1 by omega) (show i_a2.toNat + 0 ≤ i_a2.toNat by omega) dJ7_copyOf_59c91_25 ?_
    refine lv_topi (fun x_5 ex_5 => ?_)
    have tx_5 := min_fact ex_5 (show (x_4 : Int32).toInt = (n_src : Int) from tx_4) (show (a2 : Int32).toInt = i_a2 from hi_a2)
    refine va_copyi (ty := .int) hx hb (by rw [hml]; exact hl.1.symm) hown (hts (.methodLink RJ7 150 arraycopyName) (mem_i 12 rfl)) (hts (.native arraycopyName) (mem_i 13 rfl)) (hts (.static arraycopyName) (mem_i 14 rfl)) (hts (.initialized "java/lang/System") (mem_i 15 rfl)) hK hP hD hS 0 1 1 1 rfl rfl rfl rfl rfl (by decide) (by decide) (nneg rfl (by omega)) (by rw [clampN (x := x_5) rfl]; show 0 + _ ≤ _; omega) (by rw [clampN (x := x_5) rfl]; show 0 + _ ≤ _; omega) (fun _ _ => rfl) (Nat.le_of_ble_eq_true rfl) (by rw [nfw9]; exact (show 0 + (7 + 11) ≤ 18 by decide)) dJ7_copyOf_59c91_28 (fun H locs hP hD hS => ?_)
    obtain ⟨f_6, ef_6, hP, hD⟩ : ∃ f_6 : Nat → Int32, f_6 = _ ∧ va_P D vwCl [(A_src, .inl (c 1, n_src, .inl f_src)), (q_3, .inl (c 1, i_a2.toNat, .inl f_6))] H ∧ va_D A [(A_src, .inl (c 1, n_src, .inl f_src)), (q_3, .inl (c 1, i_a2.toNat, .inl f_6))] := ⟨_, rfl, hP, hD⟩
    refine lv_aload_n hx hb dJ7_copyOf_59c91_31 rfl (lv_at hl 0 rfl) ?_
    have hP9 := hP.sub (ws' := [(A_src, .inl (c 1, n_src, .inl f_src)), (q_3, .inl (c 1, i_a2.toNat, .inl f_6))]) [0, 1] rfl
    have hD9 := hD.sub (ws' := [(A_src, .inl (c 1, n_src, .inl f_src)), (q_3, .inl (c 1, i_a2.toNat, .inl f_6))]) [0, 1] (by decide) rfl
    refine W.widen (k := 1) (n := i_a2.toNat) (by omega) (by omega) ?_
    exact W.aret (v := .ref q_3) hx hb hr (Or.inr ⟨_, rfl⟩) (Or.inr ⟨_, rfl⟩) (fun t ht hW => ⟨⟨(i_a2.toNat, f_6, ()), _, rfl, ⟨(show (i_a2.toNat : Int) = i_a2 by omega), (show ∀ j : Nat, j < n_src → j < i_a2.toNat → f_6 j = f_src j from (fun j (h1 : j < n_src) (h2 : j < i_a2.toNat) => by rw [ef_6]; exact cpy0 (j := j) (x := x_5) (by rw [clampN (x := x_5) rfl]; omega)))⟩, ⟨by rw [ht]; exact hP9, hD9⟩⟩, hS.F ht⟩) hS.2.2 dJ7_copyOf_59c91_32
  · skip
    refine lv_aload_n hx hb dJ7_copyOf_59c91_6 rfl (lv_at hl 0 rfl) ?_
    refine va_clone (ad := "[I") (x := (n_src, .inl f_src)) (ty := .int) hx hb (by rw [hml]; exact hl.1.symm) hown (hts (.methodLink RJ7 316 ⟨"[I", "clone", "()Ljava/lang/Object;"⟩) (mem_i 1 rfl)) (hts (.sameMethod "[I" "java/lang/Object" "clone" "()Ljava/lang/Object;") (mem_i 2 rfl)) (hts (.native ⟨"java/lang/Object", "clone", "()Ljava/lang/Object;"⟩) (mem_i 3 rfl)) (hts (.instanceMethod ⟨"java/lang/Object", "clone", "()Ljava/lang/Object;"⟩) (mem_i 4 rfl)) (hts (.selects "[I" ⟨"[I", "clone", "()Ljava/lang/Object;"⟩ ⟨"java/lang/Object", "clone", "()Ljava/lang/Object;"⟩) (mem_i 5 rfl)) hAm.2.2.2 hK hP hD hS hA 0 1 rfl rfl ((hK.2 1 _ rfl).2) (fitsI _ _ _) (Nat.le_of_ble_eq_true rfl) (show 0 + 14 ≤ 18 by decide) (show 0 + 1 ≤ 1 by omega) (show 0 + n_src ≤ i_a2.toNat by omega) dJ7_copyOf_59c91_7 (fun q_7 H hK1 hP hD hS => ?_)
    have hP : va_P D vwCl [(A_src, .inl (c 1, n_src, .inl f_src)), (q_7, .inl (c 1, n_src, .inl f_src))] H := hP
    have hD : va_D A [(A_src, .inl (c 1, n_src, .inl f_src)), (q_7, .inl (c 1, n_src, .inl f_src))] := hD
    refine W.widen (k := 1) (n := n_src) (by omega) (by omega) ?_
    refine va_castA hx hb hown (hts (.classLink RJ7 317 "[I") (mem_i 6 rfl)) hP 1 rfl ((hK.2 1 _ rfl).2) dJ7_copyOf_59c91_10 ?_
    have hP9 := hP.sub (ws' := [(A_src, .inl (c 1, n_src, .inl f_src)), (q_7, .inl (c 1, n_src, .inl f_src))]) [0, 1] rfl
    have hD9 := hD.sub (ws' := [(A_src, .inl (c 1, n_src, .inl f_src)), (q_7, .inl (c 1, n_src, .inl f_src))]) [0, 1] (by decide) rfl
    refine W.widen (k := 1) (n := i_a2.toNat) (by omega) (by omega) ?_
    exact W.aret (v := .ref q_7) hx hb hr (Or.inr ⟨_, rfl⟩) (Or.inr ⟨_, rfl⟩) (fun t ht hW => ⟨⟨(n_src, f_src, ()), _, rfl, ⟨(show (n_src : Int) = i_a2 by omega), (show ∀ j : Nat, j < n_src → j < n_src → f_src j = f_src j from (fun _ _ _ => rfl))⟩, ⟨by rw [ht]; exact hP9, hD9⟩⟩, hS.F ht⟩) hS.2.2 dJ7_copyOf_59c91_13

set_option maxHeartbeats 4000000 in
set_option maxRecDepth 100000 in
theorem k_X2_add_forces (l : Launch) (D : va_G) (c : Nat → ClassId) (ts : Nat × Nat) (sz : Nat) (A_cells : Nat) (A_self : Nat) (n_cells : Nat) (f_cells : Nat → Int32) (gb : Nat) (self_size : Int32) (i_self_size : Int) (hi_self_size : self_size.toInt = i_self_size) (hv_self_size : 0 ≤ i_self_size ∧ i_self_size ≤ 40) (hn_cells : 32 ≤ n_cells ∧ n_cells ≤ 160) (hm_cells : 2 * i_self_size ≤ (n_cells : Int)) (hq0 : ((n_cells : Int) < 2 * (i_self_size + 1) ∧ i_self_size < 40) → 2 * n_cells ≤ gb) : Met l yX2_add wsX2_add ({ frames := 2, cells := 1, slots := gb, locals := 40 }) (va_Pc [.ref A_self] (Pre0 D c ts [(A_self, .inr (2, [.int 2, .int 40, .ref A_cells, .int self_size])), (A_cells, .inl (c 1, n_cells, .inl f_cells))] sz)) (va_Qi (fun (r : Int32) (u : Int32 × Nat × Nat × (Nat → Int32) × Unit) => (0 ≤ u.1.toInt ∧ u.1.toInt ≤ 40) ∧ (32 ≤ u.2.2.1 ∧ u.2.2.1 ≤ 160) ∧ (2 * u.1.toInt ≤ (u.2.2.1 : Int)) ∧ ((r.toInt = -1 ∧ u.1.toInt = i_self_size ∧ u.2.2.1 = n_cells ∧ i_self_size = 40) ∨ (r.toInt = i_self_size ∧ u.1.toInt = i_self_size + 1 ∧ i_self_size < 40 ∧ ((u.2.2.1 = n_cells ∧ 2 * (i_self_size + 1) ≤ n_cells) ∨ (u.2.2.1 = 2 * n_cells ∧ (n_cells : Int) < 2 * (i_self_size + 1))))) ∧ (∀ j : Nat, j < n_cells → u.2.2.2.1 j = f_cells j)) (fun u t => va_P D vwCl [(A_self, .inr (2, [.int 2, .int 40, .ref u.2.1, .int u.1])), (u.2.1, .inl (c 1, u.2.2.1, .inl u.2.2.2.1))] t.heap ∧ va_D (va_A [(A_self, .inr (2, [.int 2, .int 40, .ref A_cells, .int self_size])), (A_cells, .inl (c 1, n_cells, .inl f_cells))] sz) [(A_self, .inr (2, [.int 2, .int 40, .ref u.2.1, .int u.1])), (u.2.1, .inl (c 1, u.2.2.1, .inl u.2.2.2.1))]) (va_A [(A_self, .inr (2, [.int 2, .int 40, .ref A_cells, .int self_size])), (A_cells, .inl (c 1, n_cells, .inl f_cells))] sz)) 1 gb (va_A [(A_self, .inr (2, [.int 2, .int 40, .ref A_cells, .int self_size])), (A_cells, .inl (c 1, n_cells, .inl f_cells))] sz) := by
  refine Met.ofW (cc := cX2_add) (maxL := 1) (ret := (some .int)) (by decide) rfl ?_
  intro p e s m args below meth cd s₁ B hml hv
  obtain ⟨rfl, hsz, hP, hD0, hAm, hSt⟩ := hv
  have hx := B.exec
  have hb := B.bytes
  have hr := B.returns
  have hts := atoms_spec (ws := wsX2_add) B.pre
  have hown : s.vm.findClass RX2 = some m.cls := findClass_of_methodNamed B.named
  have hlocks := B.notSynchronized
  have hK := hAm.1
  subst hsz
  have hD := hD0.self (sz := s.heap.size)
  generalize hAe : va_A [(A_self, .inr (2, [.int 2, .int 40, .ref A_cells, .int self_size])), (A_cells, .inl (c 1, n_cells, .inl f_cells))] s.heap.size = A at hD hSt ⊢
  have hA : ∀ q : Nat, s.heap.size ≤ q → A q := fun q h => by rw [← hAe]; exact Or.inr h
  have hS : va_S A s.heap s.heap [] := va_S.rf
  clear hD0 hAe
  have hl := lv_entry ([.ref A_self]) (n := 1) (Nat.le_of_ble_eq_true rfl)
  rw [lg_entry_eq]
  generalize (lg_sl ([.ref A_self]) ++ List.replicate (1 - (lg_sl ([.ref A_self])).length) Slot.unset).toArray = ls at hl ⊢
  have hl : lv_has ls 1 [(0, .ref A_self)] := hl
  refine lv_aload_n hx hb dX2_add_0 rfl (lv_at hl 0 rfl) ?_
  refine lv_iconst (v := 1) hx hb dX2_add_1 (by decide) ?_
  have hPc := hP.sub (ws' := [(A_self, .inr (2, [.int 2, .int 40, .ref A_cells, .int self_size]))]) [0] rfl
  have hDc := hD.sub (ws' := [(A_self, .inr (2, [.int 2, .int 40, .ref A_cells, .int self_size]))]) [0] (by decide) rfl
  have hFc := va_free (wc := [(A_self, .inr (2, [.int 2, .int 40, .ref A_cells, .int self_size]))]) hD hS hA [0] rfl
  have kzz_1 : (1 : Int32).toInt = 1 := by decide
  refine va_csi (va_runV (As := [.int 1]) (rest := []) ⟨hx, hb, hml, hown, hts⟩ (k_X2_hasRoom_forces l D c ts s.heap.size A_cells A_self self_size i_self_size hi_self_size 1 1 (by decide) (by omega) (by omega)) (cwV 1 hts gX2_add_X2_hasRoom rfl rfl rfl ⟨rfl, hdX2_hasRoom⟩ ⟨(show 0 + 1 ≤ 2 by decide), (show 8 + (2 + 11) + 0 ≤ 40 by decide)⟩) ⟨Pre0.blind, va_recv hK hPc (ci := 2) (q0 := 0) rfl rfl, Pre0.at hPc hDc hAm hSt hS hFc⟩ rfl rfl hl.1 rfl (lv_room (Nat.le_of_ble_eq_true rfl)) dX2_add_2 ⟨(show 0 + 0 ≤ 1 by omega), (show 0 + 0 ≤ gb by omega)⟩) (fun r_3 hw_2 => ?_)
  rcases hw_2 with ⟨hw_2, rfl⟩ | ⟨hw_2, rfl⟩
  · skip
    refine iif_neT (a := 1) (tgt := 10) hx hb (by decide) dX2_add_5 (by decide) (by decide) ?_
    refine lv_aload_n hx hb dX2_add_10 rfl (lv_at hl 0 rfl) ?_
    refine va_get (D := D) (ci := 2) (v := .int self_size) (C := RX2) (T := TX2) (N := 4) hx hb hts (fun _ h => List.mem_cons_of_mem _ (List.mem_append_right _ h)) hown hK hP 0 rfl rfl 3 (by decide) (hts (.fieldLink RX2 28 "CrownTable$Rows" "size" "I") (mem_i 1 rfl)) (fun _ h9 => h9) rfl dX2_add_11 ?_
    refine lv_iconst (v := 1) hx hb dX2_add_14 (by decide) ?_
    refine lv_iadd hx hb dX2_add_15 ?_
    refine lv_topi (fun x_4 ex_4 => ?_)
    have tx_4 : x_4.toInt = (i_self_size + 1) := by rw [ex_4]; exact add_ti (a := i_self_size) (b := 1) hi_self_size (by decide) (by omega) (by omega)
    refine lv_aload_n hx hb dX2_add_16 rfl (lv_at hl 0 rfl) ?_
    refine va_get (D := D) (ci := 2) (v := .int 2) (C := RX2) (T := TX2) (N := 4) hx hb hts (fun _ h => List.mem_cons_of_mem _ (List.mem_append_right _ h)) hown hK hP 0 rfl rfl 0 (by decide) (hts (.fieldLink RX2 15 "CrownTable$Rows" "width" "I") (mem_i 2 rfl)) (fun _ h9 => h9) rfl dX2_add_17 ?_
    refine lv_imul hx hb dX2_add_20 ?_
    refine lv_topi (fun x_5 ex_5 => ?_)
    have tx_5 : x_5.toInt = ((i_self_size + 1) * 2) := by rw [ex_5]; exact mul_ti (a := (i_self_size + 1)) (b := 2) tx_4 (by decide) (by omega) (by omega)
    refine lv_aload_n hx hb dX2_add_21 rfl (lv_at hl 0 rfl) ?_
    refine va_get (D := D) (ci := 2) (v := .ref A_cells) (C := RX2) (T := TX2) (N := 4) hx hb hts (fun _ h => List.mem_cons_of_mem _ (List.mem_append_right _ h)) hown hK hP 0 rfl rfl 2 (by decide) (hts (.fieldLink RX2 24 "CrownTable$Rows" "cells" "[I") (mem_i 3 rfl)) (fun _ h9 => h9) rfl dX2_add_22 ?_
    refine va_alen hx hb hK hP 1 1 rfl rfl rfl dX2_add_25 ?_
    obtain ⟨x_6, ex_6⟩ : ∃ x_6 : Int32, x_6 = Int32.ofNat n_cells := ⟨_, rfl⟩
    refine lk_i (y := x_6) ex_6.symm ?_
    have tx_6 : x_6.toInt = (n_cells : Int) := by rw [ex_6]; exact nI_toInt (by omega)
    refine iicmp_le (a := ((i_self_size + 1) * 2)) (b := (n_cells : Int)) (tgt := 47) hx hb tx_5 tx_6 dX2_add_26 (by decide) (fun k_7 => ?_) (fun k_7 => ?_)
    · skip
      refine lv_aload_n hx hb dX2_add_47 rfl (lv_at hl 0 rfl) ?_
      refine lv_dup hx hb dX2_add_48 rfl ?_
      refine va_get (D := D) (ci := 2) (v := .int self_size) (C := RX2) (T := TX2) (N := 4) hx hb hts (fun _ h => List.mem_cons_of_mem _ (List.mem_append_right _ h)) hown hK hP 0 rfl rfl 3 (by decide) (hts (.fieldLink RX2 28 "CrownTable$Rows" "size" "I") (mem_i 1 rfl)) (fun _ h9 => h9) rfl dX2_add_49 ?_
      refine lv_dup_x1 hx hb dX2_add_52 rfl rfl ?_
      refine lv_iconst (v := 1) hx hb dX2_add_53 (by decide) ?_
      refine lv_iadd hx hb dX2_add_54 ?_
      refine lv_topi (fun x_8 ex_8 => ?_)
      have tx_8 : x_8.toInt = (i_self_size + 1) := by rw [ex_8]; exact add_ti (a := i_self_size) (b := 1) hi_self_size (by decide) (by omega) (by omega)
      refine va_put (D := D) (ci := 2) (v := .int x_8) (ty := .int) (C := RX2) (T := TX2) (N := 4) hx hb hts (fun _ h => List.mem_cons_of_mem _ (List.mem_append_right _ h)) tyX2 tyX2_ok nmX2 hown hK hP hD hS 0 rfl rfl 3 (by decide) (hts (.fieldLink RX2 28 "CrownTable$Rows" "size" "I") (mem_i 1 rfl)) (fun _ h9 => h9) rfl (by decide +kernel) rfl rfl (Nat.le_of_ble_eq_true rfl) dX2_add_55 (fun H locs hP hD hS => ?_)
      have hP : va_P D vwCl [(A_self, .inr (2, [.int 2, .int 40, .ref A_cells, .int x_8])), (A_cells, .inl (c 1, n_cells, .inl f_cells))] H := hP
      have hD : va_D A [(A_self, .inr (2, [.int 2, .int 40, .ref A_cells, .int x_8])), (A_cells, .inl (c 1, n_cells, .inl f_cells))] := hD
      have hP9 := hP.sub (ws' := [(A_self, .inr (2, [.int 2, .int 40, .ref A_cells, .int x_8])), (A_cells, .inl (c 1, n_cells, .inl f_cells))]) [0, 1] rfl
      have hD9 := hD.sub (ws' := [(A_self, .inr (2, [.int 2, .int 40, .ref A_cells, .int x_8])), (A_cells, .inl (c 1, n_cells, .inl f_cells))]) [0, 1] (by decide) rfl
      refine W.widen (k := 1) (n := gb) (by omega) (by omega) ?_
      exact W.iret (v := self_size) hx hb hr (fun t ht hW => ⟨⟨_, (x_8, A_cells, n_cells, f_cells, ()), rfl, ⟨(show 0 ≤ x_8.toInt ∧ x_8.toInt ≤ 40 by omega), (show 32 ≤ n_cells ∧ n_cells ≤ 160 by omega), (show 2 * x_8.toInt ≤ (n_cells : Int) by omega), (show (self_size.toInt = -1 ∧ x_8.toInt = i_self_size ∧ n_cells = n_cells ∧ i_self_size = 40) ∨ (self_size.toInt = i_self_size ∧ x_8.toInt = i_self_size + 1 ∧ i_self_size < 40 ∧ ((n_cells = n_cells ∧ 2 * (i_self_size + 1) ≤ n_cells) ∨ (n_cells = 2 * n_cells ∧ (n_cells : Int) < 2 * (i_self_size + 1)))) by omega), (show ∀ j : Nat, j < n_cells → f_cells j = f_cells j from (fun _ _ => rfl))⟩, ⟨by rw [ht]; exact hP9, hD9⟩⟩, hS.F ht⟩) hS.2.2 dX2_add_58
    · skip
      refine lv_aload_n hx hb dX2_add_29 rfl (lv_at hl 0 rfl) ?_
      refine lv_aload_n hx hb dX2_add_30 rfl (lv_at hl 0 rfl) ?_
      refine va_get (D := D) (ci := 2) (v := .ref A_cells) (C := RX2) (T := TX2) (N := 4) hx hb hts (fun _ h => List.mem_cons_of_mem _ (List.mem_append_right _ h)) hown hK hP 0 rfl rfl 2 (by decide) (hts (.fieldLink RX2 24 "CrownTable$Rows" "cells" "[I") (mem_i 3 rfl)) (fun _ h9 => h9) rfl dX2_add_31 ?_
      refine lv_aload_n hx hb dX2_add_34 rfl (lv_at hl 0 rfl) ?_
      refine va_get (D := D) (ci := 2) (v := .ref A_cells) (C := RX2) (T := TX2) (N := 4) hx hb hts (fun _ h => List.mem_cons_of_mem _ (List.mem_append_right _ h)) hown hK hP 0 rfl rfl 2 (by decide) (hts (.fieldLink RX2 24 "CrownTable$Rows" "cells" "[I") (mem_i 3 rfl)) (fun _ h9 => h9) rfl dX2_add_35 ?_
      refine va_alen hx hb hK hP 1 1 rfl rfl rfl dX2_add_38 ?_
      obtain ⟨x_9, ex_9⟩ : ∃ x_9 : Int32, x_9 = Int32.ofNat n_cells := ⟨_, rfl⟩
      refine lk_i (y := x_9) ex_9.symm ?_
      have tx_9 : x_9.toInt = (n_cells : Int) := by rw [ex_9]; exact nI_toInt (by omega)
      refine lv_iconst (v := 2) hx hb dX2_add_39 (by decide) ?_
      refine lv_imul hx hb dX2_add_40 ?_
      refine lv_topi (fun x_10 ex_10 => ?_)
      have tx_10 : x_10.toInt = ((n_cells : Int) * 2) := by rw [ex_10]; exact mul_ti (a := (n_cells : Int)) (b := 2) tx_9 (by decide) (by omega) (by omega)
      have hPc := hP.sub (ws' := [(A_cells, .inl (c 1, n_cells, .inl f_cells))]) [1] rfl
      have hDc := hD.sub (ws' := [(A_cells, .inl (c 1, n_cells, .inl f_cells))]) [1] (by decide) rfl
      have hFc := va_free (wc := [(A_cells, .inl (c 1, n_cells, .inl f_cells))]) hD hS hA [1] rfl
      refine va_callr (va_runS (As := [.ref A_cells, .int x_10]) (rest := [.ref A_self]) ⟨hx, hb, hml, hown, hts⟩ (k_J7_copyOf_59c91 l D c ts s.heap.size A_cells n_cells f_cells x_10 ((n_cells : Int) * 2) tx_10 (by omega) (by omega)) (va_cwS 2 hts gX2_add_J7_copyOf_59c91 rfl rfl rfl hdJ7_copyOf_59c91 ⟨(show 1 + 1 ≤ 2 by decide), (show 8 + (3 + 11) + 18 ≤ 40 by decide)⟩) ⟨Pre0.blind, Pre0.at hPc hDc hAm hSt hS hFc⟩ rfl rfl hl.1 rfl (lv_room (Nat.le_of_ble_eq_true rfl)) dX2_add_41 ⟨(show 0 + 1 ≤ 1 by omega), (show 0 + (((n_cells : Int) * 2).toNat) ≤ gb by omega)⟩) hS (fun q _ h => hFc q h) hFc (fun u_13 r_12 t1 H locs ht hvm hw_11 hB_9 hz1_9 hk1_9 hS => ?_)
      obtain ⟨q_14, f_15, _⟩ := u_13
      have hw_11 : ((q_14 : Int) = ((n_cells : Int) * 2)) ∧ (∀ j : Nat, j < n_cells → j < q_14 → f_15 j = f_cells j) := hw_11
      obtain ⟨hw_16, hw_17⟩ := hw_11
      obtain ⟨hP1_9, hD1_9⟩ := hB_9
      rw [ht] at hP1_9
      have hP1_9 : va_P D vwCl [(A_cells, .inl (c 1, n_cells, .inl f_cells)), (r_12, .inl (c 1, q_14, .inl f_15))] H := hP1_9
      obtain ⟨hP, hD⟩ := va_join (wr := [(A_self, .inr (2, [.int 2, .int 40, .ref A_cells, .int self_size]))]) (w1 := [(A_cells, .inl (c 1, n_cells, .inl f_cells)), (r_12, .inl (c 1, q_14, .inl f_15))]) hP hD [1] [0] rfl rfl (by decide) (by decide) hk1_9 hFc hP1_9 hD1_9
      have hP : va_P D vwCl [(A_self, .inr (2, [.int 2, .int 40, .ref A_cells, .int self_size])), (A_cells, .inl (c 1, n_cells, .inl f_cells)), (r_12, .inl (c 1, q_14, .inl f_15))] H := hP
      have hD : va_D A [(A_self, .inr (2, [.int 2, .int 40, .ref A_cells, .int self_size])), (A_cells, .inl (c 1, n_cells, .inl f_cells)), (r_12, .inl (c 1, q_14, .inl f_15))] := hD
      refine W.widen (k := 1) (n := ((n_cells : Int) * 2).toNat) (by omega) (by omega) ?_
      refine va_put (D := D) (ci := 2) (v := .ref r_12) (ty := (.array .int)) (C := RX2) (T := TX2) (N := 4) hx hb hts (fun _ h => List.mem_cons_of_mem _ (List.mem_append_right _ h)) tyX2 tyX2_ok nmX2 hown hK hP hD hS 0 rfl rfl 2 (by decide) (hts (.fieldLink RX2 24 "CrownTable$Rows" "cells" "[I") (mem_i 3 rfl)) (fun _ h9 => h9) rfl (by decide +kernel) rfl rfl (Nat.le_of_ble_eq_true rfl) dX2_add_44 (fun H locs hP hD hS => ?_)
      have hP : va_P D vwCl [(A_self, .inr (2, [.int 2, .int 40, .ref r_12, .int self_size])), (A_cells, .inl (c 1, n_cells, .inl f_cells)), (r_12, .inl (c 1, q_14, .inl f_15))] H := hP
      have hD : va_D A [(A_self, .inr (2, [.int 2, .int 40, .ref r_12, .int self_size])), (A_cells, .inl (c 1, n_cells, .inl f_cells)), (r_12, .inl (c 1, q_14, .inl f_15))] := hD
      refine lv_aload_n hx hb dX2_add_47 rfl (lv_at hl 0 rfl) ?_
      refine lv_dup hx hb dX2_add_48 rfl ?_
      refine va_get (D := D) (ci := 2) (v := .int self_size) (C := RX2) (T := TX2) (N := 4) hx hb hts (fun _ h => List.mem_cons_of_mem _ (List.mem_append_right _ h)) hown hK hP 0 rfl rfl 3 (by decide) (hts (.fieldLink RX2 28 "CrownTable$Rows" "size" "I") (mem_i 1 rfl)) (fun _ h9 => h9) rfl dX2_add_49 ?_
      refine lv_dup_x1 hx hb dX2_add_52 rfl rfl ?_
      refine lv_iconst (v := 1) hx hb dX2_add_53 (by decide) ?_
      refine lv_iadd hx hb dX2_add_54 ?_
      refine lv_topi (fun x_18 ex_18 => ?_)
      have tx_18 : x_18.toInt = (i_self_size + 1) := by rw [ex_18]; exact add_ti (a := i_self_size) (b := 1) hi_self_size (by decide) (by omega) (by omega)
      refine va_put (D := D) (ci := 2) (v := .int x_18) (ty := .int) (C := RX2) (T := TX2) (N := 4) hx hb hts (fun _ h => List.mem_cons_of_mem _ (List.mem_append_right _ h)) tyX2 tyX2_ok nmX2 hown hK hP hD hS 0 rfl rfl 3 (by decide) (hts (.fieldLink RX2 28 "CrownTable$Rows" "size" "I") (mem_i 1 rfl)) (fun _ h9 => h9) rfl (by decide +kernel) rfl rfl (Nat.le_of_ble_eq_true rfl) dX2_add_55 (fun H locs hP hD hS => ?_)
      have hP : va_P D vwCl [(A_self, .inr (2, [.int 2, .int 40, .ref r_12, .int x_18])), (A_cells, .inl (c 1, n_cells, .inl f_cells)), (r_12, .inl (c 1, q_14, .inl f_15))] H := hP
      have hD : va_D A [(A_self, .inr (2, [.int 2, .int 40, .ref r_12, .int x_18])), (A_cells, .inl (c 1, n_cells, .inl f_cells)), (r_12, .inl (c 1, q_14, .inl f_15))] := hD
      have hP9 := hP.sub (ws' := [(A_self, .inr (2, [.int 2, .int 40, .ref r_12, .int x_18])), (r_12, .inl (c 1, q_14, .inl f_15))]) [0, 2] rfl
      have hD9 := hD.sub (ws' := [(A_self, .inr (2, [.int 2, .int 40, .ref r_12, .int x_18])), (r_12, .inl (c 1, q_14, .inl f_15))]) [0, 2] (by decide) rfl
      refine W.widen (k := 1) (n := gb) (by omega) (by omega) ?_
      exact W.iret (v := self_size) hx hb hr (fun t ht hW => ⟨⟨_, (x_18, r_12, q_14, f_15, ()), rfl, ⟨(show 0 ≤ x_18.toInt ∧ x_18.toInt ≤ 40 by omega), (show 32 ≤ q_14 ∧ q_14 ≤ 160 by omega), (show 2 * x_18.toInt ≤ (q_14 : Int) by omega), (show (self_size.toInt = -1 ∧ x_18.toInt = i_self_size ∧ q_14 = n_cells ∧ i_self_size = 40) ∨ (self_size.toInt = i_self_size ∧ x_18.toInt = i_self_size + 1 ∧ i_self_size < 40 ∧ ((q_14 = n_cells ∧ 2 * (i_self_size + 1) ≤ n_cells) ∨ (q_14 = 2 * n_cells ∧ (n_cells : Int) < 2 * (i_self_size + 1)))) by omega), (show ∀ j : Nat, j < n_cells → f_15 j = f_cells j from (fun j h => hw_17 j h (by omega)))⟩, ⟨by rw [ht]; exact hP9, hD9⟩⟩, hS.F ht⟩) hS.2.2 dX2_add_58
  · skip
    refine iif_neF (a := 0) (tgt := 10) hx hb (by decide) dX2_add_5 (by decide) (by decide) ?_
    refine lv_iconst (v := (-1)) hx hb dX2_add_8 (by decide) ?_
    have kzz_19 : ((-1) : Int32).toInt = (-1) := by decide
    have hP9 := hP.sub (ws' := [(A_self, .inr (2, [.int 2, .int 40, .ref A_cells, .int self_size])), (A_cells, .inl (c 1, n_cells, .inl f_cells))]) [0, 1] rfl
    have hD9 := hD.sub (ws' := [(A_self, .inr (2, [.int 2, .int 40, .ref A_cells, .int self_size])), (A_cells, .inl (c 1, n_cells, .inl f_cells))]) [0, 1] (by decide) rfl
    refine W.widen (k := 1) (n := gb) (by omega) (by omega) ?_
    exact W.iret (v := (-1)) hx hb hr (fun t ht hW => ⟨⟨_, (self_size, A_cells, n_cells, f_cells, ()), rfl, ⟨(show 0 ≤ self_size.toInt ∧ self_size.toInt ≤ 40 by omega), (show 32 ≤ n_cells ∧ n_cells ≤ 160 by omega), (show 2 * self_size.toInt ≤ (n_cells : Int) by omega), (show (((-1) : Int32).toInt = -1 ∧ self_size.toInt = i_self_size ∧ n_cells = n_cells ∧ i_self_size = 40) ∨ (((-1) : Int32).toInt = i_self_size ∧ self_size.toInt = i_self_size + 1 ∧ i_self_size < 40 ∧ ((n_cells = n_cells ∧ 2 * (i_self_size + 1) ≤ n_cells) ∨ (n_cells = 2 * n_cells ∧ (n_cells : Int) < 2 * (i_self_size + 1)))) by omega), (show ∀ j : Nat, j < n_cells → f_cells j = f_cells j from (fun _ _ => rfl))⟩, ⟨by rw [ht]; exact hP9, hD9⟩⟩, hS.F ht⟩) hS.2.2 dX2_add_9

set_option maxHeartbeats 4000000 in
set_option maxRecDepth 100000 in
theorem k_X2_add_debts (l : Launch) (D : va_G) (c : Nat → ClassId) (ts : Nat × Nat) (sz : Nat) (A_cells : Nat) (A_self : Nat) (n_cells : Nat) (f_cells : Nat → Int32) (gb : Nat) (self_size : Int32) (i_self_size : Int) (hi_self_size : self_size.toInt = i_self_size) (hv_self_size : 0 ≤ i_self_size ∧ i_self_size ≤ 400) (hn_cells : 112 ≤ n_cells ∧ n_cells ≤ 5600) (hm_cells : 7 * i_self_size ≤ (n_cells : Int)) (hq0 : ((n_cells : Int) < 7 * (i_self_size + 1) ∧ i_self_size < 400) → 2 * n_cells ≤ gb) : Met l yX2_add wsX2_add ({ frames := 2, cells := 1, slots := gb, locals := 40 }) (va_Pc [.ref A_self] (Pre0 D c ts [(A_self, .inr (2, [.int 7, .int 400, .ref A_cells, .int self_size])), (A_cells, .inl (c 1, n_cells, .inl f_cells))] sz)) (va_Qi (fun (r : Int32) (u : Int32 × Nat × Nat × (Nat → Int32) × Unit) => (0 ≤ u.1.toInt ∧ u.1.toInt ≤ 400) ∧ (112 ≤ u.2.2.1 ∧ u.2.2.1 ≤ 5600) ∧ (7 * u.1.toInt ≤ (u.2.2.1 : Int)) ∧ ((r.toInt = -1 ∧ u.1.toInt = i_self_size ∧ u.2.2.1 = n_cells ∧ i_self_size = 400) ∨ (r.toInt = i_self_size ∧ u.1.toInt = i_self_size + 1 ∧ i_self_size < 400 ∧ ((u.2.2.1 = n_cells ∧ 7 * (i_self_size + 1) ≤ n_cells) ∨ (u.2.2.1 = 2 * n_cells ∧ (n_cells : Int) < 7 * (i_self_size + 1))))) ∧ (∀ j : Nat, j < n_cells → u.2.2.2.1 j = f_cells j)) (fun u t => va_P D vwCl [(A_self, .inr (2, [.int 7, .int 400, .ref u.2.1, .int u.1])), (u.2.1, .inl (c 1, u.2.2.1, .inl u.2.2.2.1))] t.heap ∧ va_D (va_A [(A_self, .inr (2, [.int 7, .int 400, .ref A_cells, .int self_size])), (A_cells, .inl (c 1, n_cells, .inl f_cells))] sz) [(A_self, .inr (2, [.int 7, .int 400, .ref u.2.1, .int u.1])), (u.2.1, .inl (c 1, u.2.2.1, .inl u.2.2.2.1))]) (va_A [(A_self, .inr (2, [.int 7, .int 400, .ref A_cells, .int self_size])), (A_cells, .inl (c 1, n_cells, .inl f_cells))] sz)) 1 gb (va_A [(A_self, .inr (2, [.int 7, .int 400, .ref A_cells, .int self_size])), (A_cells, .inl (c 1, n_cells, .inl f_cells))] sz) := by
  refine Met.ofW (cc := cX2_add) (maxL := 1) (ret := (some .int)) (by decide) rfl ?_
  intro p e s m args below meth cd s₁ B hml hv
  obtain ⟨rfl, hsz, hP, hD0, hAm, hSt⟩ := hv
  have hx := B.exec
  have hb := B.bytes
  have hr := B.returns
  have hts := atoms_spec (ws := wsX2_add) B.pre
  have hown : s.vm.findClass RX2 = some m.cls := findClass_of_methodNamed B.named
  have hlocks := B.notSynchronized
  have hK := hAm.1
  subst hsz
  have hD := hD0.self (sz := s.heap.size)
  generalize hAe : va_A [(A_self, .inr (2, [.int 7, .int 400, .ref A_cells, .int self_size])), (A_cells, .inl (c 1, n_cells, .inl f_cells))] s.heap.size = A at hD hSt ⊢
  have hA : ∀ q : Nat, s.heap.size ≤ q → A q := fun q h => by rw [← hAe]; exact Or.inr h
  have hS : va_S A s.heap s.heap [] := va_S.rf
  clear hD0 hAe
  have hl := lv_entry ([.ref A_self]) (n := 1) (Nat.le_of_ble_eq_true rfl)
  rw [lg_entry_eq]
  generalize (lg_sl ([.ref A_self]) ++ List.replicate (1 - (lg_sl ([.ref A_self])).length) Slot.unset).toArray = ls at hl ⊢
  have hl : lv_has ls 1 [(0, .ref A_self)] := hl
  refine lv_aload_n hx hb dX2_add_0 rfl (lv_at hl 0 rfl) ?_
  refine lv_iconst (v := 1) hx hb dX2_add_1 (by decide) ?_
  have hPc := hP.sub (ws' := [(A_self, .inr (2, [.int 7, .int 400, .ref A_cells, .int self_size]))]) [0] rfl
  have hDc := hD.sub (ws' := [(A_self, .inr (2, [.int 7, .int 400, .ref A_cells, .int self_size]))]) [0] (by decide) rfl
  have hFc := va_free (wc := [(A_self, .inr (2, [.int 7, .int 400, .ref A_cells, .int self_size]))]) hD hS hA [0] rfl
  have kzz_1 : (1 : Int32).toInt = 1 := by decide
  refine va_csi (va_runV (As := [.int 1]) (rest := []) ⟨hx, hb, hml, hown, hts⟩ (k_X2_hasRoom_debts l D c ts s.heap.size A_cells A_self self_size i_self_size hi_self_size 1 1 (by decide) (by omega) (by omega)) (cwV 1 hts gX2_add_X2_hasRoom rfl rfl rfl ⟨rfl, hdX2_hasRoom⟩ ⟨(show 0 + 1 ≤ 2 by decide), (show 8 + (2 + 11) + 0 ≤ 40 by decide)⟩) ⟨Pre0.blind, va_recv hK hPc (ci := 2) (q0 := 0) rfl rfl, Pre0.at hPc hDc hAm hSt hS hFc⟩ rfl rfl hl.1 rfl (lv_room (Nat.le_of_ble_eq_true rfl)) dX2_add_2 ⟨(show 0 + 0 ≤ 1 by omega), (show 0 + 0 ≤ gb by omega)⟩) (fun r_3 hw_2 => ?_)
  rcases hw_2 with ⟨hw_2, rfl⟩ | ⟨hw_2, rfl⟩
  · skip
    refine iif_neT (a := 1) (tgt := 10) hx hb (by decide) dX2_add_5 (by decide) (by decide) ?_
    refine lv_aload_n hx hb dX2_add_10 rfl (lv_at hl 0 rfl) ?_
    refine va_get (D := D) (ci := 2) (v := .int self_size) (C := RX2) (T := TX2) (N := 4) hx hb hts (fun _ h => List.mem_cons_of_mem _ (List.mem_append_right _ h)) hown hK hP 0 rfl rfl 3 (by decide) (hts (.fieldLink RX2 28 "CrownTable$Rows" "size" "I") (mem_i 1 rfl)) (fun _ h9 => h9) rfl dX2_add_11 ?_
    refine lv_iconst (v := 1) hx hb dX2_add_14 (by decide) ?_
    refine lv_iadd hx hb dX2_add_15 ?_
    refine lv_topi (fun x_4 ex_4 => ?_)
    have tx_4 : x_4.toInt = (i_self_size + 1) := by rw [ex_4]; exact add_ti (a := i_self_size) (b := 1) hi_self_size (by decide) (by omega) (by omega)
    refine lv_aload_n hx hb dX2_add_16 rfl (lv_at hl 0 rfl) ?_
    refine va_get (D := D) (ci := 2) (v := .int 7) (C := RX2) (T := TX2) (N := 4) hx hb hts (fun _ h => List.mem_cons_of_mem _ (List.mem_append_right _ h)) hown hK hP 0 rfl rfl 0 (by decide) (hts (.fieldLink RX2 15 "CrownTable$Rows" "width" "I") (mem_i 2 rfl)) (fun _ h9 => h9) rfl dX2_add_17 ?_
    refine lv_imul hx hb dX2_add_20 ?_
    refine lv_topi (fun x_5 ex_5 => ?_)
    have tx_5 : x_5.toInt = ((i_self_size + 1) * 7) := by rw [ex_5]; exact mul_ti (a := (i_self_size + 1)) (b := 7) tx_4 (by decide) (by omega) (by omega)
    refine lv_aload_n hx hb dX2_add_21 rfl (lv_at hl 0 rfl) ?_
    refine va_get (D := D) (ci := 2) (v := .ref A_cells) (C := RX2) (T := TX2) (N := 4) hx hb hts (fun _ h => List.mem_cons_of_mem _ (List.mem_append_right _ h)) hown hK hP 0 rfl rfl 2 (by decide) (hts (.fieldLink RX2 24 "CrownTable$Rows" "cells" "[I") (mem_i 3 rfl)) (fun _ h9 => h9) rfl dX2_add_22 ?_
    refine va_alen hx hb hK hP 1 1 rfl rfl rfl dX2_add_25 ?_
    obtain ⟨x_6, ex_6⟩ : ∃ x_6 : Int32, x_6 = Int32.ofNat n_cells := ⟨_, rfl⟩
    refine lk_i (y := x_6) ex_6.symm ?_
    have tx_6 : x_6.toInt = (n_cells : Int) := by rw [ex_6]; exact nI_toInt (by omega)
    refine iicmp_le (a := ((i_self_size + 1) * 7)) (b := (n_cells : Int)) (tgt := 47) hx hb tx_5 tx_6 dX2_add_26 (by decide) (fun k_7 => ?_) (fun k_7 => ?_)
    · skip
      refine lv_aload_n hx hb dX2_add_47 rfl (lv_at hl 0 rfl) ?_
      refine lv_dup hx hb dX2_add_48 rfl ?_
      refine va_get (D := D) (ci := 2) (v := .int self_size) (C := RX2) (T := TX2) (N := 4) hx hb hts (fun _ h => List.mem_cons_of_mem _ (List.mem_append_right _ h)) hown hK hP 0 rfl rfl 3 (by decide) (hts (.fieldLink RX2 28 "CrownTable$Rows" "size" "I") (mem_i 1 rfl)) (fun _ h9 => h9) rfl dX2_add_49 ?_
      refine lv_dup_x1 hx hb dX2_add_52 rfl rfl ?_
      refine lv_iconst (v := 1) hx hb dX2_add_53 (by decide) ?_
      refine lv_iadd hx hb dX2_add_54 ?_
      refine lv_topi (fun x_8 ex_8 => ?_)
      have tx_8 : x_8.toInt = (i_self_size + 1) := by rw [ex_8]; exact add_ti (a := i_self_size) (b := 1) hi_self_size (by decide) (by omega) (by omega)
      refine va_put (D := D) (ci := 2) (v := .int x_8) (ty := .int) (C := RX2) (T := TX2) (N := 4) hx hb hts (fun _ h => List.mem_cons_of_mem _ (List.mem_append_right _ h)) tyX2 tyX2_ok nmX2 hown hK hP hD hS 0 rfl rfl 3 (by decide) (hts (.fieldLink RX2 28 "CrownTable$Rows" "size" "I") (mem_i 1 rfl)) (fun _ h9 => h9) rfl (by decide +kernel) rfl rfl (Nat.le_of_ble_eq_true rfl) dX2_add_55 (fun H locs hP hD hS => ?_)
      have hP : va_P D vwCl [(A_self, .inr (2, [.int 7, .int 400, .ref A_cells, .int x_8])), (A_cells, .inl (c 1, n_cells, .inl f_cells))] H := hP
      have hD : va_D A [(A_self, .inr (2, [.int 7, .int 400, .ref A_cells, .int x_8])), (A_cells, .inl (c 1, n_cells, .inl f_cells))] := hD
      have hP9 := hP.sub (ws' := [(A_self, .inr (2, [.int 7, .int 400, .ref A_cells, .int x_8])), (A_cells, .inl (c 1, n_cells, .inl f_cells))]) [0, 1] rfl
      have hD9 := hD.sub (ws' := [(A_self, .inr (2, [.int 7, .int 400, .ref A_cells, .int x_8])), (A_cells, .inl (c 1, n_cells, .inl f_cells))]) [0, 1] (by decide) rfl
      refine W.widen (k := 1) (n := gb) (by omega) (by omega) ?_
      exact W.iret (v := self_size) hx hb hr (fun t ht hW => ⟨⟨_, (x_8, A_cells, n_cells, f_cells, ()), rfl, ⟨(show 0 ≤ x_8.toInt ∧ x_8.toInt ≤ 400 by omega), (show 112 ≤ n_cells ∧ n_cells ≤ 5600 by omega), (show 7 * x_8.toInt ≤ (n_cells : Int) by omega), (show (self_size.toInt = -1 ∧ x_8.toInt = i_self_size ∧ n_cells = n_cells ∧ i_self_size = 400) ∨ (self_size.toInt = i_self_size ∧ x_8.toInt = i_self_size + 1 ∧ i_self_size < 400 ∧ ((n_cells = n_cells ∧ 7 * (i_self_size + 1) ≤ n_cells) ∨ (n_cells = 2 * n_cells ∧ (n_cells : Int) < 7 * (i_self_size + 1)))) by omega), (show ∀ j : Nat, j < n_cells → f_cells j = f_cells j from (fun _ _ => rfl))⟩, ⟨by rw [ht]; exact hP9, hD9⟩⟩, hS.F ht⟩) hS.2.2 dX2_add_58
    · skip
      refine lv_aload_n hx hb dX2_add_29 rfl (lv_at hl 0 rfl) ?_
      refine lv_aload_n hx hb dX2_add_30 rfl (lv_at hl 0 rfl) ?_
      refine va_get (D := D) (ci := 2) (v := .ref A_cells) (C := RX2) (T := TX2) (N := 4) hx hb hts (fun _ h => List.mem_cons_of_mem _ (List.mem_append_right _ h)) hown hK hP 0 rfl rfl 2 (by decide) (hts (.fieldLink RX2 24 "CrownTable$Rows" "cells" "[I") (mem_i 3 rfl)) (fun _ h9 => h9) rfl dX2_add_31 ?_
      refine lv_aload_n hx hb dX2_add_34 rfl (lv_at hl 0 rfl) ?_
      refine va_get (D := D) (ci := 2) (v := .ref A_cells) (C := RX2) (T := TX2) (N := 4) hx hb hts (fun _ h => List.mem_cons_of_mem _ (List.mem_append_right _ h)) hown hK hP 0 rfl rfl 2 (by decide) (hts (.fieldLink RX2 24 "CrownTable$Rows" "cells" "[I") (mem_i 3 rfl)) (fun _ h9 => h9) rfl dX2_add_35 ?_
      refine va_alen hx hb hK hP 1 1 rfl rfl rfl dX2_add_38 ?_
      obtain ⟨x_9, ex_9⟩ : ∃ x_9 : Int32, x_9 = Int32.ofNat n_cells := ⟨_, rfl⟩
      refine lk_i (y := x_9) ex_9.symm ?_
      have tx_9 : x_9.toInt = (n_cells : Int) := by rw [ex_9]; exact nI_toInt (by omega)
      refine lv_iconst (v := 2) hx hb dX2_add_39 (by decide) ?_
      refine lv_imul hx hb dX2_add_40 ?_
      refine lv_topi (fun x_10 ex_10 => ?_)
      have tx_10 : x_10.toInt = ((n_cells : Int) * 2) := by rw [ex_10]; exact mul_ti (a := (n_cells : Int)) (b := 2) tx_9 (by decide) (by omega) (by omega)
      have hPc := hP.sub (ws' := [(A_cells, .inl (c 1, n_cells, .inl f_cells))]) [1] rfl
      have hDc := hD.sub (ws' := [(A_cells, .inl (c 1, n_cells, .inl f_cells))]) [1] (by decide) rfl
      have hFc := va_free (wc := [(A_cells, .inl (c 1, n_cells, .inl f_cells))]) hD hS hA [1] rfl
      refine va_callr (va_runS (As := [.ref A_cells, .int x_10]) (rest := [.ref A_self]) ⟨hx, hb, hml, hown, hts⟩ (k_J7_copyOf_59c91 l D c ts s.heap.size A_cells n_cells f_cells x_10 ((n_cells : Int) * 2) tx_10 (by omega) (by omega)) (va_cwS 2 hts gX2_add_J7_copyOf_59c91 rfl rfl rfl hdJ7_copyOf_59c91 ⟨(show 1 + 1 ≤ 2 by decide), (show 8 + (3 + 11) + 18 ≤ 40 by decide)⟩) ⟨Pre0.blind, Pre0.at hPc hDc hAm hSt hS hFc⟩ rfl rfl hl.1 rfl (lv_room (Nat.le_of_ble_eq_true rfl)) dX2_add_41 ⟨(show 0 + 1 ≤ 1 by omega), (show 0 + (((n_cells : Int) * 2).toNat) ≤ gb by omega)⟩) hS (fun q _ h => hFc q h) hFc (fun u_13 r_12 t1 H locs ht hvm hw_11 hB_9 hz1_9 hk1_9 hS => ?_)
      obtain ⟨q_14, f_15, _⟩ := u_13
      have hw_11 : ((q_14 : Int) = ((n_cells : Int) * 2)) ∧ (∀ j : Nat, j < n_cells → j < q_14 → f_15 j = f_cells j) := hw_11
      obtain ⟨hw_16, hw_17⟩ := hw_11
      obtain ⟨hP1_9, hD1_9⟩ := hB_9
      rw [ht] at hP1_9
      have hP1_9 : va_P D vwCl [(A_cells, .inl (c 1, n_cells, .inl f_cells)), (r_12, .inl (c 1, q_14, .inl f_15))] H := hP1_9
      obtain ⟨hP, hD⟩ := va_join (wr := [(A_self, .inr (2, [.int 7, .int 400, .ref A_cells, .int self_size]))]) (w1 := [(A_cells, .inl (c 1, n_cells, .inl f_cells)), (r_12, .inl (c 1, q_14, .inl f_15))]) hP hD [1] [0] rfl rfl (by decide) (by decide) hk1_9 hFc hP1_9 hD1_9
      have hP : va_P D vwCl [(A_self, .inr (2, [.int 7, .int 400, .ref A_cells, .int self_size])), (A_cells, .inl (c 1, n_cells, .inl f_cells)), (r_12, .inl (c 1, q_14, .inl f_15))] H := hP
      have hD : va_D A [(A_self, .inr (2, [.int 7, .int 400, .ref A_cells, .int self_size])), (A_cells, .inl (c 1, n_cells, .inl f_cells)), (r_12, .inl (c 1, q_14, .inl f_15))] := hD
      refine W.widen (k := 1) (n := ((n_cells : Int) * 2).toNat) (by omega) (by omega) ?_
      refine va_put (D := D) (ci := 2) (v := .ref r_12) (ty := (.array .int)) (C := RX2) (T := TX2) (N := 4) hx hb hts (fun _ h => List.mem_cons_of_mem _ (List.mem_append_right _ h)) tyX2 tyX2_ok nmX2 hown hK hP hD hS 0 rfl rfl 2 (by decide) (hts (.fieldLink RX2 24 "CrownTable$Rows" "cells" "[I") (mem_i 3 rfl)) (fun _ h9 => h9) rfl (by decide +kernel) rfl rfl (Nat.le_of_ble_eq_true rfl) dX2_add_44 (fun H locs hP hD hS => ?_)
      have hP : va_P D vwCl [(A_self, .inr (2, [.int 7, .int 400, .ref r_12, .int self_size])), (A_cells, .inl (c 1, n_cells, .inl f_cells)), (r_12, .inl (c 1, q_14, .inl f_15))] H := hP
      have hD : va_D A [(A_self, .inr (2, [.int 7, .int 400, .ref r_12, .int self_size])), (A_cells, .inl (c 1, n_cells, .inl f_cells)), (r_12, .inl (c 1, q_14, .inl f_15))] := hD
      refine lv_aload_n hx hb dX2_add_47 rfl (lv_at hl 0 rfl) ?_
      refine lv_dup hx hb dX2_add_48 rfl ?_
      refine va_get (D := D) (ci := 2) (v := .int self_size) (C := RX2) (T := TX2) (N := 4) hx hb hts (fun _ h => List.mem_cons_of_mem _ (List.mem_append_right _ h)) hown hK hP 0 rfl rfl 3 (by decide) (hts (.fieldLink RX2 28 "CrownTable$Rows" "size" "I") (mem_i 1 rfl)) (fun _ h9 => h9) rfl dX2_add_49 ?_
      refine lv_dup_x1 hx hb dX2_add_52 rfl rfl ?_
      refine lv_iconst (v := 1) hx hb dX2_add_53 (by decide) ?_
      refine lv_iadd hx hb dX2_add_54 ?_
      refine lv_topi (fun x_18 ex_18 => ?_)
      have tx_18 : x_18.toInt = (i_self_size + 1) := by rw [ex_18]; exact add_ti (a := i_self_size) (b := 1) hi_self_size (by decide) (by omega) (by omega)
      refine va_put (D := D) (ci := 2) (v := .int x_18) (ty := .int) (C := RX2) (T := TX2) (N := 4) hx hb hts (fun _ h => List.mem_cons_of_mem _ (List.mem_append_right _ h)) tyX2 tyX2_ok nmX2 hown hK hP hD hS 0 rfl rfl 3 (by decide) (hts (.fieldLink RX2 28 "CrownTable$Rows" "size" "I") (mem_i 1 rfl)) (fun _ h9 => h9) rfl (by decide +kernel) rfl rfl (Nat.le_of_ble_eq_true rfl) dX2_add_55 (fun H locs hP hD hS => ?_)
      have hP : va_P D vwCl [(A_self, .inr (2, [.int 7, .int 400, .ref r_12, .int x_18])), (A_cells, .inl (c 1, n_cells, .inl f_cells)), (r_12, .inl (c 1, q_14, .inl f_15))] H := hP
      have hD : va_D A [(A_self, .inr (2, [.int 7, .int 400, .ref r_12, .int x_18])), (A_cells, .inl (c 1, n_cells, .inl f_cells)), (r_12, .inl (c 1, q_14, .inl f_15))] := hD
      have hP9 := hP.sub (ws' := [(A_self, .inr (2, [.int 7, .int 400, .ref r_12, .int x_18])), (r_12, .inl (c 1, q_14, .inl f_15))]) [0, 2] rfl
      have hD9 := hD.sub (ws' := [(A_self, .inr (2, [.int 7, .int 400, .ref r_12, .int x_18])), (r_12, .inl (c 1, q_14, .inl f_15))]) [0, 2] (by decide) rfl
      refine W.widen (k := 1) (n := gb) (by omega) (by omega) ?_
      exact W.iret (v := self_size) hx hb hr (fun t ht hW => ⟨⟨_, (x_18, r_12, q_14, f_15, ()), rfl, ⟨(show 0 ≤ x_18.toInt ∧ x_18.toInt ≤ 400 by omega), (show 112 ≤ q_14 ∧ q_14 ≤ 5600 by omega), (show 7 * x_18.toInt ≤ (q_14 : Int) by omega), (show (self_size.toInt = -1 ∧ x_18.toInt = i_self_size ∧ q_14 = n_cells ∧ i_self_size = 400) ∨ (self_size.toInt = i_self_size ∧ x_18.toInt = i_self_size + 1 ∧ i_self_size < 400 ∧ ((q_14 = n_cells ∧ 7 * (i_self_size + 1) ≤ n_cells) ∨ (q_14 = 2 * n_cells ∧ (n_cells : Int) < 7 * (i_self_size + 1)))) by omega), (show ∀ j : Nat, j < n_cells → f_15 j = f_cells j from (fun j h => hw_17 j h (by omega)))⟩, ⟨by rw [ht]; exact hP9, hD9⟩⟩, hS.F ht⟩) hS.2.2 dX2_add_58
  · skip
    refine iif_neF (a := 0) (tgt := 10) hx hb (by decide) dX2_add_5 (by decide) (by decide) ?_
    refine lv_iconst (v := (-1)) hx hb dX2_add_8 (by decide) ?_
    have kzz_19 : ((-1) : Int32).toInt = (-1) := by decide
    have hP9 := hP.sub (ws' := [(A_self, .inr (2, [.int 7, .int 400, .ref A_cells, .int self_size])), (A_cells, .inl (c 1, n_cells, .inl f_cells))]) [0, 1] rfl
    have hD9 := hD.sub (ws' := [(A_self, .inr (2, [.int 7, .int 400, .ref A_cells, .int self_size])), (A_cells, .inl (c 1, n_cells, .inl f_cells))]) [0, 1] (by decide) rfl
    refine W.widen (k := 1) (n := gb) (by omega) (by omega) ?_
    exact W.iret (v := (-1)) hx hb hr (fun t ht hW => ⟨⟨_, (self_size, A_cells, n_cells, f_cells, ()), rfl, ⟨(show 0 ≤ self_size.toInt ∧ self_size.toInt ≤ 400 by omega), (show 112 ≤ n_cells ∧ n_cells ≤ 5600 by omega), (show 7 * self_size.toInt ≤ (n_cells : Int) by omega), (show (((-1) : Int32).toInt = -1 ∧ self_size.toInt = i_self_size ∧ n_cells = n_cells ∧ i_self_size = 400) ∨ (((-1) : Int32).toInt = i_self_size ∧ self_size.toInt = i_self_size + 1 ∧ i_self_size < 400 ∧ ((n_cells = n_cells ∧ 7 * (i_self_size + 1) ≤ n_cells) ∨ (n_cells = 2 * n_cells ∧ (n_cells : Int) < 7 * (i_self_size + 1)))) by omega), (show ∀ j : Nat, j < n_cells → f_cells j = f_cells j from (fun _ _ => rfl))⟩, ⟨by rw [ht]; exact hP9, hD9⟩⟩, hS.F ht⟩) hS.2.2 dX2_add_9

set_option maxHeartbeats 4000000 in
set_option maxRecDepth 100000 in
theorem k_X2_add_roll (l : Launch) (D : va_G) (c : Nat → ClassId) (ts : Nat × Nat) (sz : Nat) (A_cells : Nat) (A_self : Nat) (n_cells : Nat) (f_cells : Nat → Int32) (gb : Nat) (self_size : Int32) (i_self_size : Int) (hi_self_size : self_size.toInt = i_self_size) (hv_self_size : 0 ≤ i_self_size ∧ i_self_size ≤ 4000) (hn_cells : 128 ≤ n_cells ∧ n_cells ≤ 64000) (hm_cells : 8 * i_self_size ≤ (n_cells : Int)) (hq0 : ((n_cells : Int) < 8 * (i_self_size + 1) ∧ i_self_size < 4000) → 2 * n_cells ≤ gb) : Met l yX2_add wsX2_add ({ frames := 2, cells := 1, slots := gb, locals := 40 }) (va_Pc [.ref A_self] (Pre0 D c ts [(A_self, .inr (2, [.int 8, .int 4000, .ref A_cells, .int self_size])), (A_cells, .inl (c 1, n_cells, .inl f_cells))] sz)) (va_Qi (fun (r : Int32) (u : Int32 × Nat × Nat × (Nat → Int32) × Unit) => (0 ≤ u.1.toInt ∧ u.1.toInt ≤ 4000) ∧ (128 ≤ u.2.2.1 ∧ u.2.2.1 ≤ 64000) ∧ (8 * u.1.toInt ≤ (u.2.2.1 : Int)) ∧ ((r.toInt = -1 ∧ u.1.toInt = i_self_size ∧ u.2.2.1 = n_cells ∧ i_self_size = 4000) ∨ (r.toInt = i_self_size ∧ u.1.toInt = i_self_size + 1 ∧ i_self_size < 4000 ∧ ((u.2.2.1 = n_cells ∧ 8 * (i_self_size + 1) ≤ n_cells) ∨ (u.2.2.1 = 2 * n_cells ∧ (n_cells : Int) < 8 * (i_self_size + 1))))) ∧ (∀ j : Nat, j < n_cells → u.2.2.2.1 j = f_cells j)) (fun u t => va_P D vwCl [(A_self, .inr (2, [.int 8, .int 4000, .ref u.2.1, .int u.1])), (u.2.1, .inl (c 1, u.2.2.1, .inl u.2.2.2.1))] t.heap ∧ va_D (va_A [(A_self, .inr (2, [.int 8, .int 4000, .ref A_cells, .int self_size])), (A_cells, .inl (c 1, n_cells, .inl f_cells))] sz) [(A_self, .inr (2, [.int 8, .int 4000, .ref u.2.1, .int u.1])), (u.2.1, .inl (c 1, u.2.2.1, .inl u.2.2.2.1))]) (va_A [(A_self, .inr (2, [.int 8, .int 4000, .ref A_cells, .int self_size])), (A_cells, .inl (c 1, n_cells, .inl f_cells))] sz)) 1 gb (va_A [(A_self, .inr (2, [.int 8, .int 4000, .ref A_cells, .int self_size])), (A_cells, .inl (c 1, n_cells, .inl f_cells))] sz) := by
  refine Met.ofW (cc := cX2_add) (maxL := 1) (ret := (some .int)) (by decide) rfl ?_
  intro p e s m args below meth cd s₁ B hml hv
  obtain ⟨rfl, hsz, hP, hD0, hAm, hSt⟩ := hv
  have hx := B.exec
  have hb := B.bytes
  have hr := B.returns
  have hts := atoms_spec (ws := wsX2_add) B.pre
  have hown : s.vm.findClass RX2 = some m.cls := findClass_of_methodNamed B.named
  have hlocks := B.notSynchronized
  have hK := hAm.1
  subst hsz
  have hD := hD0.self (sz := s.heap.size)
  generalize hAe : va_A [(A_self, .inr (2, [.int 8, .int 4000, .ref A_cells, .int self_size])), (A_cells, .inl (c 1, n_cells, .inl f_cells))] s.heap.size = A at hD hSt ⊢
  have hA : ∀ q : Nat, s.heap.size ≤ q → A q := fun q h => by rw [← hAe]; exact Or.inr h
  have hS : va_S A s.heap s.heap [] := va_S.rf
  clear hD0 hAe
  have hl := lv_entry ([.ref A_self]) (n := 1) (Nat.le_of_ble_eq_true rfl)
  rw [lg_entry_eq]
  generalize (lg_sl ([.ref A_self]) ++ List.replicate (1 - (lg_sl ([.ref A_self])).length) Slot.unset).toArray = ls at hl ⊢
  have hl : lv_has ls 1 [(0, .ref A_self)] := hl
  refine lv_aload_n hx hb dX2_add_0 rfl (lv_at hl 0 rfl) ?_
  refine lv_iconst (v := 1) hx hb dX2_add_1 (by decide) ?_
  have hPc := hP.sub (ws' := [(A_self, .inr (2, [.int 8, .int 4000, .ref A_cells, .int self_size]))]) [0] rfl
  have hDc := hD.sub (ws' := [(A_self, .inr (2, [.int 8, .int 4000, .ref A_cells, .int self_size]))]) [0] (by decide) rfl
  have hFc := va_free (wc := [(A_self, .inr (2, [.int 8, .int 4000, .ref A_cells, .int self_size]))]) hD hS hA [0] rfl
  have kzz_1 : (1 : Int32).toInt = 1 := by decide
  refine va_csi (va_runV (As := [.int 1]) (rest := []) ⟨hx, hb, hml, hown, hts⟩ (k_X2_hasRoom_roll l D c ts s.heap.size A_cells A_self self_size i_self_size hi_self_size 1 1 (by decide) (by omega) (by omega)) (cwV 1 hts gX2_add_X2_hasRoom rfl rfl rfl ⟨rfl, hdX2_hasRoom⟩ ⟨(show 0 + 1 ≤ 2 by decide), (show 8 + (2 + 11) + 0 ≤ 40 by decide)⟩) ⟨Pre0.blind, va_recv hK hPc (ci := 2) (q0 := 0) rfl rfl, Pre0.at hPc hDc hAm hSt hS hFc⟩ rfl rfl hl.1 rfl (lv_room (Nat.le_of_ble_eq_true rfl)) dX2_add_2 ⟨(show 0 + 0 ≤ 1 by omega), (show 0 + 0 ≤ gb by omega)⟩) (fun r_3 hw_2 => ?_)
  rcases hw_2 with ⟨hw_2, rfl⟩ | ⟨hw_2, rfl⟩
  · skip
    refine iif_neT (a := 1) (tgt := 10) hx hb (by decide) dX2_add_5 (by decide) (by decide) ?_
    refine lv_aload_n hx hb dX2_add_10 rfl (lv_at hl 0 rfl) ?_
    refine va_get (D := D) (ci := 2) (v := .int self_size) (C := RX2) (T := TX2) (N := 4) hx hb hts (fun _ h => List.mem_cons_of_mem _ (List.mem_append_right _ h)) hown hK hP 0 rfl rfl 3 (by decide) (hts (.fieldLink RX2 28 "CrownTable$Rows" "size" "I") (mem_i 1 rfl)) (fun _ h9 => h9) rfl dX2_add_11 ?_
    refine lv_iconst (v := 1) hx hb dX2_add_14 (by decide) ?_
    refine lv_iadd hx hb dX2_add_15 ?_
    refine lv_topi (fun x_4 ex_4 => ?_)
    have tx_4 : x_4.toInt = (i_self_size + 1) := by rw [ex_4]; exact add_ti (a := i_self_size) (b := 1) hi_self_size (by decide) (by omega) (by omega)
    refine lv_aload_n hx hb dX2_add_16 rfl (lv_at hl 0 rfl) ?_
    refine va_get (D := D) (ci := 2) (v := .int 8) (C := RX2) (T := TX2) (N := 4) hx hb hts (fun _ h => List.mem_cons_of_mem _ (List.mem_append_right _ h)) hown hK hP 0 rfl rfl 0 (by decide) (hts (.fieldLink RX2 15 "CrownTable$Rows" "width" "I") (mem_i 2 rfl)) (fun _ h9 => h9) rfl dX2_add_17 ?_
    refine lv_imul hx hb dX2_add_20 ?_
    refine lv_topi (fun x_5 ex_5 => ?_)
    have tx_5 : x_5.toInt = ((i_self_size + 1) * 8) := by rw [ex_5]; exact mul_ti (a := (i_self_size + 1)) (b := 8) tx_4 (by decide) (by omega) (by omega)
    refine lv_aload_n hx hb dX2_add_21 rfl (lv_at hl 0 rfl) ?_
    refine va_get (D := D) (ci := 2) (v := .ref A_cells) (C := RX2) (T := TX2) (N := 4) hx hb hts (fun _ h => List.mem_cons_of_mem _ (List.mem_append_right _ h)) hown hK hP 0 rfl rfl 2 (by decide) (hts (.fieldLink RX2 24 "CrownTable$Rows" "cells" "[I") (mem_i 3 rfl)) (fun _ h9 => h9) rfl dX2_add_22 ?_
    refine va_alen hx hb hK hP 1 1 rfl rfl rfl dX2_add_25 ?_
    obtain ⟨x_6, ex_6⟩ : ∃ x_6 : Int32, x_6 = Int32.ofNat n_cells := ⟨_, rfl⟩
    refine lk_i (y := x_6) ex_6.symm ?_
    have tx_6 : x_6.toInt = (n_cells : Int) := by rw [ex_6]; exact nI_toInt (by omega)
    refine iicmp_le (a := ((i_self_size + 1) * 8)) (b := (n_cells : Int)) (tgt := 47) hx hb tx_5 tx_6 dX2_add_26 (by decide) (fun k_7 => ?_) (fun k_7 => ?_)
    · skip
      refine lv_aload_n hx hb dX2_add_47 rfl (lv_at hl 0 rfl) ?_
      refine lv_dup hx hb dX2_add_48 rfl ?_
      refine va_get (D := D) (ci := 2) (v := .int self_size) (C := RX2) (T := TX2) (N := 4) hx hb hts (fun _ h => List.mem_cons_of_mem _ (List.mem_append_right _ h)) hown hK hP 0 rfl rfl 3 (by decide) (hts (.fieldLink RX2 28 "CrownTable$Rows" "size" "I") (mem_i 1 rfl)) (fun _ h9 => h9) rfl dX2_add_49 ?_
      refine lv_dup_x1 hx hb dX2_add_52 rfl rfl ?_
      refine lv_iconst (v := 1) hx hb dX2_add_53 (by decide) ?_
      refine lv_iadd hx hb dX2_add_54 ?_
      refine lv_topi (fun x_8 ex_8 => ?_)
      have tx_8 : x_8.toInt = (i_self_size + 1) := by rw [ex_8]; exact add_ti (a := i_self_size) (b := 1) hi_self_size (by decide) (by omega) (by omega)
      refine va_put (D := D) (ci := 2) (v := .int x_8) (ty := .int) (C := RX2) (T := TX2) (N := 4) hx hb hts (fun _ h => List.mem_cons_of_mem _ (List.mem_append_right _ h)) tyX2 tyX2_ok nmX2 hown hK hP hD hS 0 rfl rfl 3 (by decide) (hts (.fieldLink RX2 28 "CrownTable$Rows" "size" "I") (mem_i 1 rfl)) (fun _ h9 => h9) rfl (by decide +kernel) rfl rfl (Nat.le_of_ble_eq_true rfl) dX2_add_55 (fun H locs hP hD hS => ?_)
      have hP : va_P D vwCl [(A_self, .inr (2, [.int 8, .int 4000, .ref A_cells, .int x_8])), (A_cells, .inl (c 1, n_cells, .inl f_cells))] H := hP
      have hD : va_D A [(A_self, .inr (2, [.int 8, .int 4000, .ref A_cells, .int x_8])), (A_cells, .inl (c 1, n_cells, .inl f_cells))] := hD
      have hP9 := hP.sub (ws' := [(A_self, .inr (2, [.int 8, .int 4000, .ref A_cells, .int x_8])), (A_cells, .inl (c 1, n_cells, .inl f_cells))]) [0, 1] rfl
      have hD9 := hD.sub (ws' := [(A_self, .inr (2, [.int 8, .int 4000, .ref A_cells, .int x_8])), (A_cells, .inl (c 1, n_cells, .inl f_cells))]) [0, 1] (by decide) rfl
      refine W.widen (k := 1) (n := gb) (by omega) (by omega) ?_
      exact W.iret (v := self_size) hx hb hr (fun t ht hW => ⟨⟨_, (x_8, A_cells, n_cells, f_cells, ()), rfl, ⟨(show 0 ≤ x_8.toInt ∧ x_8.toInt ≤ 4000 by omega), (show 128 ≤ n_cells ∧ n_cells ≤ 64000 by omega), (show 8 * x_8.toInt ≤ (n_cells : Int) by omega), (show (self_size.toInt = -1 ∧ x_8.toInt = i_self_size ∧ n_cells = n_cells ∧ i_self_size = 4000) ∨ (self_size.toInt = i_self_size ∧ x_8.toInt = i_self_size + 1 ∧ i_self_size < 4000 ∧ ((n_cells = n_cells ∧ 8 * (i_self_size + 1) ≤ n_cells) ∨ (n_cells = 2 * n_cells ∧ (n_cells : Int) < 8 * (i_self_size + 1)))) by omega), (show ∀ j : Nat, j < n_cells → f_cells j = f_cells j from (fun _ _ => rfl))⟩, ⟨by rw [ht]; exact hP9, hD9⟩⟩, hS.F ht⟩) hS.2.2 dX2_add_58
    · skip
      refine lv_aload_n hx hb dX2_add_29 rfl (lv_at hl 0 rfl) ?_
      refine lv_aload_n hx hb dX2_add_30 rfl (lv_at hl 0 rfl) ?_
      refine va_get (D := D) (ci := 2) (v := .ref A_cells) (C := RX2) (T := TX2) (N := 4) hx hb hts (fun _ h => List.mem_cons_of_mem _ (List.mem_append_right _ h)) hown hK hP 0 rfl rfl 2 (by decide) (hts (.fieldLink RX2 24 "CrownTable$Rows" "cells" "[I") (mem_i 3 rfl)) (fun _ h9 => h9) rfl dX2_add_31 ?_
      refine lv_aload_n hx hb dX2_add_34 rfl (lv_at hl 0 rfl) ?_
      refine va_get (D := D) (ci := 2) (v := .ref A_cells) (C := RX2) (T := TX2) (N := 4) hx hb hts (fun _ h => List.mem_cons_of_mem _ (List.mem_append_right _ h)) hown hK hP 0 rfl rfl 2 (by decide) (hts (.fieldLink RX2 24 "CrownTable$Rows" "cells" "[I") (mem_i 3 rfl)) (fun _ h9 => h9) rfl dX2_add_35 ?_
      refine va_alen hx hb hK hP 1 1 rfl rfl rfl dX2_add_38 ?_
      obtain ⟨x_9, ex_9⟩ : ∃ x_9 : Int32, x_9 = Int32.ofNat n_cells := ⟨_, rfl⟩
      refine lk_i (y := x_9) ex_9.symm ?_
      have tx_9 : x_9.toInt = (n_cells : Int) := by rw [ex_9]; exact nI_toInt (by omega)
      refine lv_iconst (v := 2) hx hb dX2_add_39 (by decide) ?_
      refine lv_imul hx hb dX2_add_40 ?_
      refine lv_topi (fun x_10 ex_10 => ?_)
      have tx_10 : x_10.toInt = ((n_cells : Int) * 2) := by rw [ex_10]; exact mul_ti (a := (n_cells : Int)) (b := 2) tx_9 (by decide) (by omega) (by omega)
      have hPc := hP.sub (ws' := [(A_cells, .inl (c 1, n_cells, .inl f_cells))]) [1] rfl
      have hDc := hD.sub (ws' := [(A_cells, .inl (c 1, n_cells, .inl f_cells))]) [1] (by decide) rfl
      have hFc := va_free (wc := [(A_cells, .inl (c 1, n_cells, .inl f_cells))]) hD hS hA [1] rfl
      refine va_callr (va_runS (As := [.ref A_cells, .int x_10]) (rest := [.ref A_self]) ⟨hx, hb, hml, hown, hts⟩ (k_J7_copyOf_59c91 l D c ts s.heap.size A_cells n_cells f_cells x_10 ((n_cells : Int) * 2) tx_10 (by omega) (by omega)) (va_cwS 2 hts gX2_add_J7_copyOf_59c91 rfl rfl rfl hdJ7_copyOf_59c91 ⟨(show 1 + 1 ≤ 2 by decide), (show 8 + (3 + 11) + 18 ≤ 40 by decide)⟩) ⟨Pre0.blind, Pre0.at hPc hDc hAm hSt hS hFc⟩ rfl rfl hl.1 rfl (lv_room (Nat.le_of_ble_eq_true rfl)) dX2_add_41 ⟨(show 0 + 1 ≤ 1 by omega), (show 0 + (((n_cells : Int) * 2).toNat) ≤ gb by omega)⟩) hS (fun q _ h => hFc q h) hFc (fun u_13 r_12 t1 H locs ht hvm hw_11 hB_9 hz1_9 hk1_9 hS => ?_)
      obtain ⟨q_14, f_15, _⟩ := u_13
      have hw_11 : ((q_14 : Int) = ((n_cells : Int) * 2)) ∧ (∀ j : Nat, j < n_cells → j < q_14 → f_15 j = f_cells j) := hw_11
      obtain ⟨hw_16, hw_17⟩ := hw_11
      obtain ⟨hP1_9, hD1_9⟩ := hB_9
      rw [ht] at hP1_9
      have hP1_9 : va_P D vwCl [(A_cells, .inl (c 1, n_cells, .inl f_cells)), (r_12, .inl (c 1, q_14, .inl f_15))] H := hP1_9
      obtain ⟨hP, hD⟩ := va_join (wr := [(A_self, .inr (2, [.int 8, .int 4000, .ref A_cells, .int self_size]))]) (w1 := [(A_cells, .inl (c 1, n_cells, .inl f_cells)), (r_12, .inl (c 1, q_14, .inl f_15))]) hP hD [1] [0] rfl rfl (by decide) (by decide) hk1_9 hFc hP1_9 hD1_9
      have hP : va_P D vwCl [(A_self, .inr (2, [.int 8, .int 4000, .ref A_cells, .int self_size])), (A_cells, .inl (c 1, n_cells, .inl f_cells)), (r_12, .inl (c 1, q_14, .inl f_15))] H := hP
      have hD : va_D A [(A_self, .inr (2, [.int 8, .int 4000, .ref A_cells, .int self_size])), (A_cells, .inl (c 1, n_cells, .inl f_cells)), (r_12, .inl (c 1, q_14, .inl f_15))] := hD
      refine W.widen (k := 1) (n := ((n_cells : Int) * 2).toNat) (by omega) (by omega) ?_
      refine va_put (D := D) (ci := 2) (v := .ref r_12) (ty := (.array .int)) (C := RX2) (T := TX2) (N := 4) hx hb hts (fun _ h => List.mem_cons_of_mem _ (List.mem_append_right _ h)) tyX2 tyX2_ok nmX2 hown hK hP hD hS 0 rfl rfl 2 (by decide) (hts (.fieldLink RX2 24 "CrownTable$Rows" "cells" "[I") (mem_i 3 rfl)) (fun _ h9 => h9) rfl (by decide +kernel) rfl rfl (Nat.le_of_ble_eq_true rfl) dX2_add_44 (fun H locs hP hD hS => ?_)
      have hP : va_P D vwCl [(A_self, .inr (2, [.int 8, .int 4000, .ref r_12, .int self_size])), (A_cells, .inl (c 1, n_cells, .inl f_cells)), (r_12, .inl (c 1, q_14, .inl f_15))] H := hP
      have hD : va_D A [(A_self, .inr (2, [.int 8, .int 4000, .ref r_12, .int self_size])), (A_cells, .inl (c 1, n_cells, .inl f_cells)), (r_12, .inl (c 1, q_14, .inl f_15))] := hD
      refine lv_aload_n hx hb dX2_add_47 rfl (lv_at hl 0 rfl) ?_
      refine lv_dup hx hb dX2_add_48 rfl ?_
      refine va_get (D := D) (ci := 2) (v := .int self_size) (C := RX2) (T := TX2) (N := 4) hx hb hts (fun _ h => List.mem_cons_of_mem _ (List.mem_append_right _ h)) hown hK hP 0 rfl rfl 3 (by decide) (hts (.fieldLink RX2 28 "CrownTable$Rows" "size" "I") (mem_i 1 rfl)) (fun _ h9 => h9) rfl dX2_add_49 ?_
      refine lv_dup_x1 hx hb dX2_add_52 rfl rfl ?_
      refine lv_iconst (v := 1) hx hb dX2_add_53 (by decide) ?_
      refine lv_iadd hx hb dX2_add_54 ?_
      refine lv_topi (fun x_18 ex_18 => ?_)
      have tx_18 : x_18.toInt = (i_self_size + 1) := by rw [ex_18]; exact add_ti (a := i_self_size) (b := 1) hi_self_size (by decide) (by omega) (by omega)
      refine va_put (D := D) (ci := 2) (v := .int x_18) (ty := .int) (C := RX2) (T := TX2) (N := 4) hx hb hts (fun _ h => List.mem_cons_of_mem _ (List.mem_append_right _ h)) tyX2 tyX2_ok nmX2 hown hK hP hD hS 0 rfl rfl 3 (by decide) (hts (.fieldLink RX2 28 "CrownTable$Rows" "size" "I") (mem_i 1 rfl)) (fun _ h9 => h9) rfl (by decide +kernel) rfl rfl (Nat.le_of_ble_eq_true rfl) dX2_add_55 (fun H locs hP hD hS => ?_)
      have hP : va_P D vwCl [(A_self, .inr (2, [.int 8, .int 4000, .ref r_12, .int x_18])), (A_cells, .inl (c 1, n_cells, .inl f_cells)), (r_12, .inl (c 1, q_14, .inl f_15))] H := hP
      have hD : va_D A [(A_self, .inr (2, [.int 8, .int 4000, .ref r_12, .int x_18])), (A_cells, .inl (c 1, n_cells, .inl f_cells)), (r_12, .inl (c 1, q_14, .inl f_15))] := hD
      have hP9 := hP.sub (ws' := [(A_self, .inr (2, [.int 8, .int 4000, .ref r_12, .int x_18])), (r_12, .inl (c 1, q_14, .inl f_15))]) [0, 2] rfl
      have hD9 := hD.sub (ws' := [(A_self, .inr (2, [.int 8, .int 4000, .ref r_12, .int x_18])), (r_12, .inl (c 1, q_14, .inl f_15))]) [0, 2] (by decide) rfl
      refine W.widen (k := 1) (n := gb) (by omega) (by omega) ?_
      exact W.iret (v := self_size) hx hb hr (fun t ht hW => ⟨⟨_, (x_18, r_12, q_14, f_15, ()), rfl, ⟨(show 0 ≤ x_18.toInt ∧ x_18.toInt ≤ 4000 by omega), (show 128 ≤ q_14 ∧ q_14 ≤ 64000 by omega), (show 8 * x_18.toInt ≤ (q_14 : Int) by omega), (show (self_size.toInt = -1 ∧ x_18.toInt = i_self_size ∧ q_14 = n_cells ∧ i_self_size = 4000) ∨ (self_size.toInt = i_self_size ∧ x_18.toInt = i_self_size + 1 ∧ i_self_size < 4000 ∧ ((q_14 = n_cells ∧ 8 * (i_self_size + 1) ≤ n_cells) ∨ (q_14 = 2 * n_cells ∧ (n_cells : Int) < 8 * (i_self_size + 1)))) by omega), (show ∀ j : Nat, j < n_cells → f_15 j = f_cells j from (fun j h => hw_17 j h (by omega)))⟩, ⟨by rw [ht]; exact hP9, hD9⟩⟩, hS.F ht⟩) hS.2.2 dX2_add_58
  · skip
    refine iif_neF (a := 0) (tgt := 10) hx hb (by decide) dX2_add_5 (by decide) (by decide) ?_
    refine lv_iconst (v := (-1)) hx hb dX2_add_8 (by decide) ?_
    have kzz_19 : ((-1) : Int32).toInt = (-1) := by decide
    have hP9 := hP.sub (ws' := [(A_self, .inr (2, [.int 8, .int 4000, .ref A_cells, .int self_size])), (A_cells, .inl (c 1, n_cells, .inl f_cells))]) [0, 1] rfl
    have hD9 := hD.sub (ws' := [(A_self, .inr (2, [.int 8, .int 4000, .ref A_cells, .int self_size])), (A_cells, .inl (c 1, n_cells, .inl f_cells))]) [0, 1] (by decide) rfl
    refine W.widen (k := 1) (n := gb) (by omega) (by omega) ?_
    exact W.iret (v := (-1)) hx hb hr (fun t ht hW => ⟨⟨_, (self_size, A_cells, n_cells, f_cells, ()), rfl, ⟨(show 0 ≤ self_size.toInt ∧ self_size.toInt ≤ 4000 by omega), (show 128 ≤ n_cells ∧ n_cells ≤ 64000 by omega), (show 8 * self_size.toInt ≤ (n_cells : Int) by omega), (show (((-1) : Int32).toInt = -1 ∧ self_size.toInt = i_self_size ∧ n_cells = n_cells ∧ i_self_size = 4000) ∨ (((-1) : Int32).toInt = i_self_size ∧ self_size.toInt = i_self_size + 1 ∧ i_self_size < 4000 ∧ ((n_cells = n_cells ∧ 8 * (i_self_size + 1) ≤ n_cells) ∨ (n_cells = 2 * n_cells ∧ (n_cells : Int) < 8 * (i_self_size + 1)))) by omega), (show ∀ j : Nat, j < n_cells → f_cells j = f_cells j from (fun _ _ => rfl))⟩, ⟨by rw [ht]; exact hP9, hD9⟩⟩, hS.F ht⟩) hS.2.2 dX2_add_9

set_option maxHeartbeats 4000000 in
set_option maxRecDepth 100000 in
theorem k_X2_add_sticks (l : Launch) (D : va_G) (c : Nat → ClassId) (ts : Nat × Nat) (sz : Nat) (A_cells : Nat) (A_self : Nat) (n_cells : Nat) (f_cells : Nat → Int32) (gb : Nat) (self_size : Int32) (i_self_size : Int) (hi_self_size : self_size.toInt = i_self_size) (hv_self_size : 0 ≤ i_self_size ∧ i_self_size ≤ 2000) (hn_cells : 16 ≤ n_cells ∧ n_cells ≤ 4000) (hm_cells : 1 * i_self_size ≤ (n_cells : Int)) (hq0 : ((n_cells : Int) < 1 * (i_self_size + 1) ∧ i_self_size < 2000) → 2 * n_cells ≤ gb) : Met l yX2_add wsX2_add ({ frames := 2, cells := 1, slots := gb, locals := 40 }) (va_Pc [.ref A_self] (Pre0 D c ts [(A_self, .inr (2, [.int 1, .int 2000, .ref A_cells, .int self_size])), (A_cells, .inl (c 1, n_cells, .inl f_cells))] sz)) (va_Qi (fun (r : Int32) (u : Int32 × Nat × Nat × (Nat → Int32) × Unit) => (0 ≤ u.1.toInt ∧ u.1.toInt ≤ 2000) ∧ (16 ≤ u.2.2.1 ∧ u.2.2.1 ≤ 4000) ∧ (1 * u.1.toInt ≤ (u.2.2.1 : Int)) ∧ ((r.toInt = -1 ∧ u.1.toInt = i_self_size ∧ u.2.2.1 = n_cells ∧ i_self_size = 2000) ∨ (r.toInt = i_self_size ∧ u.1.toInt = i_self_size + 1 ∧ i_self_size < 2000 ∧ ((u.2.2.1 = n_cells ∧ 1 * (i_self_size + 1) ≤ n_cells) ∨ (u.2.2.1 = 2 * n_cells ∧ (n_cells : Int) < 1 * (i_self_size + 1))))) ∧ (∀ j : Nat, j < n_cells → u.2.2.2.1 j = f_cells j)) (fun u t => va_P D vwCl [(A_self, .inr (2, [.int 1, .int 2000, .ref u.2.1, .int u.1])), (u.2.1, .inl (c 1, u.2.2.1, .inl u.2.2.2.1))] t.heap ∧ va_D (va_A [(A_self, .inr (2, [.int 1, .int 2000, .ref A_cells, .int self_size])), (A_cells, .inl (c 1, n_cells, .inl f_cells))] sz) [(A_self, .inr (2, [.int 1, .int 2000, .ref u.2.1, .int u.1])), (u.2.1, .inl (c 1, u.2.2.1, .inl u.2.2.2.1))]) (va_A [(A_self, .inr (2, [.int 1, .int 2000, .ref A_cells, .int self_size])), (A_cells, .inl (c 1, n_cells, .inl f_cells))] sz)) 1 gb (va_A [(A_self, .inr (2, [.int 1, .int 2000, .ref A_cells, .int self_size])), (A_cells, .inl (c 1, n_cells, .inl f_cells))] sz) := by
  refine Met.ofW (cc := cX2_add) (maxL := 1) (ret := (some .int)) (by decide) rfl ?_
  intro p e s m args below meth cd s₁ B hml hv
  obtain ⟨rfl, hsz, hP, hD0, hAm, hSt⟩ := hv
  have hx := B.exec
  have hb := B.bytes
  have hr := B.returns
  have hts := atoms_spec (ws := wsX2_add) B.pre
  have hown : s.vm.findClass RX2 = some m.cls := findClass_of_methodNamed B.named
  have hlocks := B.notSynchronized
  have hK := hAm.1
  subst hsz
  have hD := hD0.self (sz := s.heap.size)
  generalize hAe : va_A [(A_self, .inr (2, [.int 1, .int 2000, .ref A_cells, .int self_size])), (A_cells, .inl (c 1, n_cells, .inl f_cells))] s.heap.size = A at hD hSt ⊢
  have hA : ∀ q : Nat, s.heap.size ≤ q → A q := fun q h => by rw [← hAe]; exact Or.inr h
  have hS : va_S A s.heap s.heap [] := va_S.rf
  clear hD0 hAe
  have hl := lv_entry ([.ref A_self]) (n := 1) (Nat.le_of_ble_eq_true rfl)
  rw [lg_entry_eq]
  generalize (lg_sl ([.ref A_self]) ++ List.replicate (1 - (lg_sl ([.ref A_self])).length) Slot.unset).toArray = ls at hl ⊢
  have hl : lv_has ls 1 [(0, .ref A_self)] := hl
  refine lv_aload_n hx hb dX2_add_0 rfl (lv_at hl 0 rfl) ?_
  refine lv_iconst (v := 1) hx hb dX2_add_1 (by decide) ?_
  have hPc := hP.sub (ws' := [(A_self, .inr (2, [.int 1, .int 2000, .ref A_cells, .int self_size]))]) [0] rfl
  have hDc := hD.sub (ws' := [(A_self, .inr (2, [.int 1, .int 2000, .ref A_cells, .int self_size]))]) [0] (by decide) rfl
  have hFc := va_free (wc := [(A_self, .inr (2, [.int 1, .int 2000, .ref A_cells, .int self_size]))]) hD hS hA [0] rfl
  have kzz_1 : (1 : Int32).toInt = 1 := by decide
  refine va_csi (va_runV (As := [.int 1]) (rest := []) ⟨hx, hb, hml, hown, hts⟩ (k_X2_hasRoom_sticks l D c ts s.heap.size A_cells A_self self_size i_self_size hi_self_size 1 1 (by decide) (by omega) (by omega)) (cwV 1 hts gX2_add_X2_hasRoom rfl rfl rfl ⟨rfl, hdX2_hasRoom⟩ ⟨(show 0 + 1 ≤ 2 by decide), (show 8 + (2 + 11) + 0 ≤ 40 by decide)⟩) ⟨Pre0.blind, va_recv hK hPc (ci := 2) (q0 := 0) rfl rfl, Pre0.at hPc hDc hAm hSt hS hFc⟩ rfl rfl hl.1 rfl (lv_room (Nat.le_of_ble_eq_true rfl)) dX2_add_2 ⟨(show 0 + 0 ≤ 1 by omega), (show 0 + 0 ≤ gb by omega)⟩) (fun r_3 hw_2 => ?_)
  rcases hw_2 with ⟨hw_2, rfl⟩ | ⟨hw_2, rfl⟩
  · skip
    refine iif_neT (a := 1) (tgt := 10) hx hb (by decide) dX2_add_5 (by decide) (by decide) ?_
    refine lv_aload_n hx hb dX2_add_10 rfl (lv_at hl 0 rfl) ?_
    refine va_get (D := D) (ci := 2) (v := .int self_size) (C := RX2) (T := TX2) (N := 4) hx hb hts (fun _ h => List.mem_cons_of_mem _ (List.mem_append_right _ h)) hown hK hP 0 rfl rfl 3 (by decide) (hts (.fieldLink RX2 28 "CrownTable$Rows" "size" "I") (mem_i 1 rfl)) (fun _ h9 => h9) rfl dX2_add_11 ?_
    refine lv_iconst (v := 1) hx hb dX2_add_14 (by decide) ?_
    refine lv_iadd hx hb dX2_add_15 ?_
    refine lv_topi (fun x_4 ex_4 => ?_)
    have tx_4 : x_4.toInt = (i_self_size + 1) := by rw [ex_4]; exact add_ti (a := i_self_size) (b := 1) hi_self_size (by decide) (by omega) (by omega)
    refine lv_aload_n hx hb dX2_add_16 rfl (lv_at hl 0 rfl) ?_
    refine va_get (D := D) (ci := 2) (v := .int 1) (C := RX2) (T := TX2) (N := 4) hx hb hts (fun _ h => List.mem_cons_of_mem _ (List.mem_append_right _ h)) hown hK hP 0 rfl rfl 0 (by decide) (hts (.fieldLink RX2 15 "CrownTable$Rows" "width" "I") (mem_i 2 rfl)) (fun _ h9 => h9) rfl dX2_add_17 ?_
    refine lv_imul hx hb dX2_add_20 ?_
    refine lv_topi (fun x_5 ex_5 => ?_)
    have tx_5 : x_5.toInt = ((i_self_size + 1) * 1) := by rw [ex_5]; exact mul_ti (a := (i_self_size + 1)) (b := 1) tx_4 (by decide) (by omega) (by omega)
    refine lv_aload_n hx hb dX2_add_21 rfl (lv_at hl 0 rfl) ?_
    refine va_get (D := D) (ci := 2) (v := .ref A_cells) (C := RX2) (T := TX2) (N := 4) hx hb hts (fun _ h => List.mem_cons_of_mem _ (List.mem_append_right _ h)) hown hK hP 0 rfl rfl 2 (by decide) (hts (.fieldLink RX2 24 "CrownTable$Rows" "cells" "[I") (mem_i 3 rfl)) (fun _ h9 => h9) rfl dX2_add_22 ?_
    refine va_alen hx hb hK hP 1 1 rfl rfl rfl dX2_add_25 ?_
    obtain ⟨x_6, ex_6⟩ : ∃ x_6 : Int32, x_6 = Int32.ofNat n_cells := ⟨_, rfl⟩
    refine lk_i (y := x_6) ex_6.symm ?_
    have tx_6 : x_6.toInt = (n_cells : Int) := by rw [ex_6]; exact nI_toInt (by omega)
    refine iicmp_le (a := ((i_self_size + 1) * 1)) (b := (n_cells : Int)) (tgt := 47) hx hb tx_5 tx_6 dX2_add_26 (by decide) (fun k_7 => ?_) (fun k_7 => ?_)
    · skip
      refine lv_aload_n hx hb dX2_add_47 rfl (lv_at hl 0 rfl) ?_
      refine lv_dup hx hb dX2_add_48 rfl ?_
      refine va_get (D := D) (ci := 2) (v := .int self_size) (C := RX2) (T := TX2) (N := 4) hx hb hts (fun _ h => List.mem_cons_of_mem _ (List.mem_append_right _ h)) hown hK hP 0 rfl rfl 3 (by decide) (hts (.fieldLink RX2 28 "CrownTable$Rows" "size" "I") (mem_i 1 rfl)) (fun _ h9 => h9) rfl dX2_add_49 ?_
      refine lv_dup_x1 hx hb dX2_add_52 rfl rfl ?_
      refine lv_iconst (v := 1) hx hb dX2_add_53 (by decide) ?_
      refine lv_iadd hx hb dX2_add_54 ?_
      refine lv_topi (fun x_8 ex_8 => ?_)
      have tx_8 : x_8.toInt = (i_self_size + 1) := by rw [ex_8]; exact add_ti (a := i_self_size) (b := 1) hi_self_size (by decide) (by omega) (by omega)
      refine va_put (D := D) (ci := 2) (v := .int x_8) (ty := .int) (C := RX2) (T := TX2) (N := 4) hx hb hts (fun _ h => List.mem_cons_of_mem _ (List.mem_append_right _ h)) tyX2 tyX2_ok nmX2 hown hK hP hD hS 0 rfl rfl 3 (by decide) (hts (.fieldLink RX2 28 "CrownTable$Rows" "size" "I") (mem_i 1 rfl)) (fun _ h9 => h9) rfl (by decide +kernel) rfl rfl (Nat.le_of_ble_eq_true rfl) dX2_add_55 (fun H locs hP hD hS => ?_)
      have hP : va_P D vwCl [(A_self, .inr (2, [.int 1, .int 2000, .ref A_cells, .int x_8])), (A_cells, .inl (c 1, n_cells, .inl f_cells))] H := hP
      have hD : va_D A [(A_self, .inr (2, [.int 1, .int 2000, .ref A_cells, .int x_8])), (A_cells, .inl (c 1, n_cells, .inl f_cells))] := hD
      have hP9 := hP.sub (ws' := [(A_self, .inr (2, [.int 1, .int 2000, .ref A_cells, .int x_8])), (A_cells, .inl (c 1, n_cells, .inl f_cells))]) [0, 1] rfl
      have hD9 := hD.sub (ws' := [(A_self, .inr (2, [.int 1, .int 2000, .ref A_cells, .int x_8])), (A_cells, .inl (c 1, n_cells, .inl f_cells))]) [0, 1] (by decide) rfl
      refine W.widen (k := 1) (n := gb) (by omega) (by omega) ?_
      exact W.iret (v := self_size) hx hb hr (fun t ht hW => ⟨⟨_, (x_8, A_cells, n_cells, f_cells, ()), rfl, ⟨(show 0 ≤ x_8.toInt ∧ x_8.toInt ≤ 2000 by omega), (show 16 ≤ n_cells ∧ n_cells ≤ 4000 by omega), (show 1 * x_8.toInt ≤ (n_cells : Int) by omega), (show (self_size.toInt = -1 ∧ x_8.toInt = i_self_size ∧ n_cells = n_cells ∧ i_self_size = 2000) ∨ (self_size.toInt = i_self_size ∧ x_8.toInt = i_self_size + 1 ∧ i_self_size < 2000 ∧ ((n_cells = n_cells ∧ 1 * (i_self_size + 1) ≤ n_cells) ∨ (n_cells = 2 * n_cells ∧ (n_cells : Int) < 1 * (i_self_size + 1)))) by omega), (show ∀ j : Nat, j < n_cells → f_cells j = f_cells j from (fun _ _ => rfl))⟩, ⟨by rw [ht]; exact hP9, hD9⟩⟩, hS.F ht⟩) hS.2.2 dX2_add_58
    · skip
      refine lv_aload_n hx hb dX2_add_29 rfl (lv_at hl 0 rfl) ?_
      refine lv_aload_n hx hb dX2_add_30 rfl (lv_at hl 0 rfl) ?_
      refine va_get (D := D) (ci := 2) (v := .ref A_cells) (C := RX2) (T := TX2) (N := 4) hx hb hts (fun _ h => List.mem_cons_of_mem _ (List.mem_append_right _ h)) hown hK hP 0 rfl rfl 2 (by decide) (hts (.fieldLink RX2 24 "CrownTable$Rows" "cells" "[I") (mem_i 3 rfl)) (fun _ h9 => h9) rfl dX2_add_31 ?_
      refine lv_aload_n hx hb dX2_add_34 rfl (lv_at hl 0 rfl) ?_
      refine va_get (D := D) (ci := 2) (v := .ref A_cells) (C := RX2) (T := TX2) (N := 4) hx hb hts (fun _ h => List.mem_cons_of_mem _ (List.mem_append_right _ h)) hown hK hP 0 rfl rfl 2 (by decide) (hts (.fieldLink RX2 24 "CrownTable$Rows" "cells" "[I") (mem_i 3 rfl)) (fun _ h9 => h9) rfl dX2_add_35 ?_
      refine va_alen hx hb hK hP 1 1 rfl rfl rfl dX2_add_38 ?_
      obtain ⟨x_9, ex_9⟩ : ∃ x_9 : Int32, x_9 = Int32.ofNat n_cells := ⟨_, rfl⟩
      refine lk_i (y := x_9) ex_9.symm ?_
      have tx_9 : x_9.toInt = (n_cells : Int) := by rw [ex_9]; exact nI_toInt (by omega)
      refine lv_iconst (v := 2) hx hb dX2_add_39 (by decide) ?_
      refine lv_imul hx hb dX2_add_40 ?_
      refine lv_topi (fun x_10 ex_10 => ?_)
      have tx_10 : x_10.toInt = ((n_cells : Int) * 2) := by rw [ex_10]; exact mul_ti (a := (n_cells : Int)) (b := 2) tx_9 (by decide) (by omega) (by omega)
      have hPc := hP.sub (ws' := [(A_cells, .inl (c 1, n_cells, .inl f_cells))]) [1] rfl
      have hDc := hD.sub (ws' := [(A_cells, .inl (c 1, n_cells, .inl f_cells))]) [1] (by decide) rfl
      have hFc := va_free (wc := [(A_cells, .inl (c 1, n_cells, .inl f_cells))]) hD hS hA [1] rfl
      refine va_callr (va_runS (As := [.ref A_cells, .int x_10]) (rest := [.ref A_self]) ⟨hx, hb, hml, hown, hts⟩ (k_J7_copyOf_59c91 l D c ts s.heap.size A_cells n_cells f_cells x_10 ((n_cells : Int) * 2) tx_10 (by omega) (by omega)) (va_cwS 2 hts gX2_add_J7_copyOf_59c91 rfl rfl rfl hdJ7_copyOf_59c91 ⟨(show 1 + 1 ≤ 2 by decide), (show 8 + (3 + 11) + 18 ≤ 40 by decide)⟩) ⟨Pre0.blind, Pre0.at hPc hDc hAm hSt hS hFc⟩ rfl rfl hl.1 rfl (lv_room (Nat.le_of_ble_eq_true rfl)) dX2_add_41 ⟨(show 0 + 1 ≤ 1 by omega), (show 0 + (((n_cells : Int) * 2).toNat) ≤ gb by omega)⟩) hS (fun q _ h => hFc q h) hFc (fun u_13 r_12 t1 H locs ht hvm hw_11 hB_9 hz1_9 hk1_9 hS => ?_)
      obtain ⟨q_14, f_15, _⟩ := u_13
      have hw_11 : ((q_14 : Int) = ((n_cells : Int) * 2)) ∧ (∀ j : Nat, j < n_cells → j < q_14 → f_15 j = f_cells j) := hw_11
      obtain ⟨hw_16, hw_17⟩ := hw_11
      obtain ⟨hP1_9, hD1_9⟩ := hB_9
      rw [ht] at hP1_9
      have hP1_9 : va_P D vwCl [(A_cells, .inl (c 1, n_cells, .inl f_cells)), (r_12, .inl (c 1, q_14, .inl f_15))] H := hP1_9
      obtain ⟨hP, hD⟩ := va_join (wr := [(A_self, .inr (2, [.int 1, .int 2000, .ref A_cells, .int self_size]))]) (w1 := [(A_cells, .inl (c 1, n_cells, .inl f_cells)), (r_12, .inl (c 1, q_14, .inl f_15))]) hP hD [1] [0] rfl rfl (by decide) (by decide) hk1_9 hFc hP1_9 hD1_9
      have hP : va_P D vwCl [(A_self, .inr (2, [.int 1, .int 2000, .ref A_cells, .int self_size])), (A_cells, .inl (c 1, n_cells, .inl f_cells)), (r_12, .inl (c 1, q_14, .inl f_15))] H := hP
      have hD : va_D A [(A_self, .inr (2, [.int 1, .int 2000, .ref A_cells, .int self_size])), (A_cells, .inl (c 1, n_cells, .inl f_cells)), (r_12, .inl (c 1, q_14, .inl f_15))] := hD
      refine W.widen (k := 1) (n := ((n_cells : Int) * 2).toNat) (by omega) (by omega) ?_
      refine va_put (D := D) (ci := 2) (v := .ref r_12) (ty := (.array .int)) (C := RX2) (T := TX2) (N := 4) hx hb hts (fun _ h => List.mem_cons_of_mem _ (List.mem_append_right _ h)) tyX2 tyX2_ok nmX2 hown hK hP hD hS 0 rfl rfl 2 (by decide) (hts (.fieldLink RX2 24 "CrownTable$Rows" "cells" "[I") (mem_i 3 rfl)) (fun _ h9 => h9) rfl (by decide +kernel) rfl rfl (Nat.le_of_ble_eq_true rfl) dX2_add_44 (fun H locs hP hD hS => ?_)
      have hP : va_P D vwCl [(A_self, .inr (2, [.int 1, .int 2000, .ref r_12, .int self_size])), (A_cells, .inl (c 1, n_cells, .inl f_cells)), (r_12, .inl (c 1, q_14, .inl f_15))] H := hP
      have hD : va_D A [(A_self, .inr (2, [.int 1, .int 2000, .ref r_12, .int self_size])), (A_cells, .inl (c 1, n_cells, .inl f_cells)), (r_12, .inl (c 1, q_14, .inl f_15))] := hD
      refine lv_aload_n hx hb dX2_add_47 rfl (lv_at hl 0 rfl) ?_
      refine lv_dup hx hb dX2_add_48 rfl ?_
      refine va_get (D := D) (ci := 2) (v := .int self_size) (C := RX2) (T := TX2) (N := 4) hx hb hts (fun _ h => List.mem_cons_of_mem _ (List.mem_append_right _ h)) hown hK hP 0 rfl rfl 3 (by decide) (hts (.fieldLink RX2 28 "CrownTable$Rows" "size" "I") (mem_i 1 rfl)) (fun _ h9 => h9) rfl dX2_add_49 ?_
      refine lv_dup_x1 hx hb dX2_add_52 rfl rfl ?_
      refine lv_iconst (v := 1) hx hb dX2_add_53 (by decide) ?_
      refine lv_iadd hx hb dX2_add_54 ?_
      refine lv_topi (fun x_18 ex_18 => ?_)
      have tx_18 : x_18.toInt = (i_self_size + 1) := by rw [ex_18]; exact add_ti (a := i_self_size) (b := 1) hi_self_size (by decide) (by omega) (by omega)
      refine va_put (D := D) (ci := 2) (v := .int x_18) (ty := .int) (C := RX2) (T := TX2) (N := 4) hx hb hts (fun _ h => List.mem_cons_of_mem _ (List.mem_append_right _ h)) tyX2 tyX2_ok nmX2 hown hK hP hD hS 0 rfl rfl 3 (by decide) (hts (.fieldLink RX2 28 "CrownTable$Rows" "size" "I") (mem_i 1 rfl)) (fun _ h9 => h9) rfl (by decide +kernel) rfl rfl (Nat.le_of_ble_eq_true rfl) dX2_add_55 (fun H locs hP hD hS => ?_)
      have hP : va_P D vwCl [(A_self, .inr (2, [.int 1, .int 2000, .ref r_12, .int x_18])), (A_cells, .inl (c 1, n_cells, .inl f_cells)), (r_12, .inl (c 1, q_14, .inl f_15))] H := hP
      have hD : va_D A [(A_self, .inr (2, [.int 1, .int 2000, .ref r_12, .int x_18])), (A_cells, .inl (c 1, n_cells, .inl f_cells)), (r_12, .inl (c 1, q_14, .inl f_15))] := hD
      have hP9 := hP.sub (ws' := [(A_self, .inr (2, [.int 1, .int 2000, .ref r_12, .int x_18])), (r_12, .inl (c 1, q_14, .inl f_15))]) [0, 2] rfl
      have hD9 := hD.sub (ws' := [(A_self, .inr (2, [.int 1, .int 2000, .ref r_12, .int x_18])), (r_12, .inl (c 1, q_14, .inl f_15))]) [0, 2] (by decide) rfl
      refine W.widen (k := 1) (n := gb) (by omega) (by omega) ?_
      exact W.iret (v := self_size) hx hb hr (fun t ht hW => ⟨⟨_, (x_18, r_12, q_14, f_15, ()), rfl, ⟨(show 0 ≤ x_18.toInt ∧ x_18.toInt ≤ 2000 by omega), (show 16 ≤ q_14 ∧ q_14 ≤ 4000 by omega), (show 1 * x_18.toInt ≤ (q_14 : Int) by omega), (show (self_size.toInt = -1 ∧ x_18.toInt = i_self_size ∧ q_14 = n_cells ∧ i_self_size = 2000) ∨ (self_size.toInt = i_self_size ∧ x_18.toInt = i_self_size + 1 ∧ i_self_size < 2000 ∧ ((q_14 = n_cells ∧ 1 * (i_self_size + 1) ≤ n_cells) ∨ (q_14 = 2 * n_cells ∧ (n_cells : Int) < 1 * (i_self_size + 1)))) by omega), (show ∀ j : Nat, j < n_cells → f_15 j = f_cells j from (fun j h => hw_17 j h (by omega)))⟩, ⟨by rw [ht]; exact hP9, hD9⟩⟩, hS.F ht⟩) hS.2.2 dX2_add_58
  · skip
    refine iif_neF (a := 0) (tgt := 10) hx hb (by decide) dX2_add_5 (by decide) (by decide) ?_
    refine lv_iconst (v := (-1)) hx hb dX2_add_8 (by decide) ?_
    have kzz_19 : ((-1) : Int32).toInt = (-1) := by decide
    have hP9 := hP.sub (ws' := [(A_self, .inr (2, [.int 1, .int 2000, .ref A_cells, .int self_size])), (A_cells, .inl (c 1, n_cells, .inl f_cells))]) [0, 1] rfl
    have hD9 := hD.sub (ws' := [(A_self, .inr (2, [.int 1, .int 2000, .ref A_cells, .int self_size])), (A_cells, .inl (c 1, n_cells, .inl f_cells))]) [0, 1] (by decide) rfl
    refine W.widen (k := 1) (n := gb) (by omega) (by omega) ?_
    exact W.iret (v := (-1)) hx hb hr (fun t ht hW => ⟨⟨_, (self_size, A_cells, n_cells, f_cells, ()), rfl, ⟨(show 0 ≤ self_size.toInt ∧ self_size.toInt ≤ 2000 by omega), (show 16 ≤ n_cells ∧ n_cells ≤ 4000 by omega), (show 1 * self_size.toInt ≤ (n_cells : Int) by omega), (show (((-1) : Int32).toInt = -1 ∧ self_size.toInt = i_self_size ∧ n_cells = n_cells ∧ i_self_size = 2000) ∨ (((-1) : Int32).toInt = i_self_size ∧ self_size.toInt = i_self_size + 1 ∧ i_self_size < 2000 ∧ ((n_cells = n_cells ∧ 1 * (i_self_size + 1) ≤ n_cells) ∨ (n_cells = 2 * n_cells ∧ (n_cells : Int) < 1 * (i_self_size + 1)))) by omega), (show ∀ j : Nat, j < n_cells → f_cells j = f_cells j from (fun _ _ => rfl))⟩, ⟨by rw [ht]; exact hP9, hD9⟩⟩, hS.F ht⟩) hS.2.2 dX2_add_9

set_option maxHeartbeats 4000000 in
set_option maxRecDepth 100000 in
theorem k_X3_hasRoom (l : Launch) (D : va_G) (c : Nat → ClassId) (ts : Nat × Nat) (sz : Nat) (A_bytes : Nat) (A_self : Nat) (self_length : Int32) (i_self_length : Int) (hi_self_length : self_length.toInt = i_self_length) (a1 : Int32) (i_a1 : Int) (hi_a1 : a1.toInt = i_a1) (hv_self_length : 0 ≤ i_self_length ∧ i_self_length ≤ 800) (hv_a1 : 0 ≤ i_a1 ∧ i_a1 ≤ 20) : Met l yX3_hasRoom wsX3_hasRoom ({ frames := 0, cells := 0, slots := 0, locals := 0 }) (va_Pc [.ref A_self, .int a1] (Pre0 D c ts [(A_self, .inr (3, [.ref A_bytes, .int self_length]))] sz)) (vp_Si (fun r : Int32 => (((i_self_length + i_a1 ≤ 800) ∧ r = 1) ∨ ((¬ (i_self_length + i_a1 ≤ 800)) ∧ r = 0)))) 0 0 (fun _ => False) := by
  refine Met.ofW (cc := cX3_hasRoom) (maxL := 2) (ret := (some .boolean)) (by decide) rfl ?_
  intro p e s m args below meth cd s₁ B hml hv
  obtain ⟨rfl, hsz, hP, hD0, hAm, hSt⟩ := hv
  have hx := B.exec
  have hb := B.bytes
  have hr := B.returns
  have hts := atoms_spec (ws := wsX3_hasRoom) B.pre
  have hown : s.vm.findClass RX3 = some m.cls := findClass_of_methodNamed B.named
  have hlocks := B.notSynchronized
  have hK := hAm.1
  subst hsz
  have hD := hD0.self (sz := s.heap.size)
  generalize hAe : va_A [(A_self, .inr (3, [.ref A_bytes, .int self_length]))] s.heap.size = A at hD hSt
  have hA : ∀ q : Nat, s.heap.size ≤ q → A q := fun q h => by rw [← hAe]; exact Or.inr h
  have hS : va_S A s.heap s.heap [] := va_S.rf
  clear hD0 hAe
  have hl := lv_entry ([.ref A_self, .int a1]) (n := 2) (Nat.le_of_ble_eq_true rfl)
  rw [lg_entry_eq]
  generalize (lg_sl ([.ref A_self, .int a1]) ++ List.replicate (2 - (lg_sl ([.ref A_self, .int a1])).length) Slot.unset).toArray = ls at hl ⊢
  have hl : lv_has ls 2 [(0, .ref A_self), (1, .int a1)] := hl
  refine lv_aload_n hx hb dX3_hasRoom_0 rfl (lv_at hl 0 rfl) ?_
  refine va_get (D := D) (ci := 3) (v := .int self_length) (C := RX3) (T := TX3) (N := 2) hx hb hts (fun _ h => List.mem_cons_of_mem _ (List.mem_append_right _ h)) hown hK hP 0 rfl rfl 1 (by decide) (hts (.fieldLink RX3 15 "CrownTable$Tape" "length" "I") (mem_i 1 rfl)) (fun _ h9 => h9) rfl dX3_hasRoom_1 ?_
  refine lv_iload_n hx hb dX3_hasRoom_4 rfl (lv_at hl 1 rfl) ?_
  refine lv_iadd hx hb dX3_hasRoom_5 ?_
  refine lv_topi (fun x_1 ex_1 => ?_)
  have tx_1 : x_1.toInt = (i_self_length + i_a1) := by rw [ex_1]; exact add_ti (a := i_self_length) (b := i_a1) hi_self_length hi_a1 (by omega) (by omega)
  refine lv_sipush (v := 800) hx hb dX3_hasRoom_6 (by decide) ?_
  refine iicmp_gt (a := (i_self_length + i_a1)) (b := 800) (tgt := 16) hx hb tx_1 (by decide) dX3_hasRoom_9 (by decide) (fun k_2 => ?_) (fun k_2 => ?_)
  · skip
    refine lv_iconst (v := 0) hx hb dX3_hasRoom_16 (by decide) ?_
    have kzz_3 : (0 : Int32).toInt = 0 := by decide
    exact W.zret (v := 0) hx hb hr (by decide) (fun t ht hW => ⟨_, rfl, Or.inr (⟨by omega, rfl⟩), ht⟩) (fun _ h => by cases h) dX3_hasRoom_17
  · skip
    refine lv_iconst (v := 1) hx hb dX3_hasRoom_12 (by decide) ?_
    refine lv_goto (tgt := 17) hx hb dX3_hasRoom_13 (by decide) ?_
    have kzz_4 : (1 : Int32).toInt = 1 := by decide
    exact W.zret (v := 1) hx hb hr (by decide) (fun t ht hW => ⟨_, rfl, Or.inl ⟨by omega, rfl⟩, ht⟩) (fun _ h => by cases h) dX3_hasRoom_17

set_option maxHeartbeats 4000000 in
set_option maxRecDepth 100000 in
theorem k_X3_byteAt (l : Launch) (D : va_G) (c : Nat → ClassId) (ts : Nat × Nat) (sz : Nat) (A_bytes : Nat) (A_self : Nat) (f_bytes : Nat → Int32) (self_length : Int32) (i_self_length : Int) (hi_self_length : self_length.toInt = i_self_length) (a1 : Int32) (i_a1 : Int) (hi_a1 : a1.toInt = i_a1) (hv_self_length : 0 ≤ i_self_length ∧ i_self_length ≤ 800) : Met l yX3_byteAt wsX3_byteAt ({ frames := 0, cells := 0, slots := 0, locals := 0 }) (va_Pc [.ref A_self, .int a1] (Pre0 D c ts [(A_self, .inr (3, [.ref A_bytes, .int self_length])), (A_bytes, .inl (c 0, 800, .inl f_bytes))] sz)) (vp_Si (fun r : Int32 => True)) 0 0 (fun _ => False) := by
  refine Met.ofW (cc := cX3_byteAt) (maxL := 2) (ret := (some .int)) (by decide) rfl ?_
  intro p e s m args below meth cd s₁ B hml hv
  obtain ⟨rfl, hsz, hP, hD0, hAm, hSt⟩ := hv
  have hx := B.exec
  have hb := B.bytes
  have hr := B.returns
  have hts := atoms_spec (ws := wsX3_byteAt) B.pre
  have hown : s.vm.findClass RX3 = some m.cls := findClass_of_methodNamed B.named
  have hlocks := B.notSynchronized
  have hK := hAm.1
  subst hsz
  have hD := hD0.self (sz := s.heap.size)
  generalize hAe : va_A [(A_self, .inr (3, [.ref A_bytes, .int self_length])), (A_bytes, .inl (c 0, 800, .inl f_bytes))] s.heap.size = A at hD hSt
  have hA : ∀ q : Nat, s.heap.size ≤ q → A q := fun q h => by rw [← hAe]; exact Or.inr h
  have hS : va_S A s.heap s.heap [] := va_S.rf
  clear hD0 hAe
  have hl := lv_entry ([.ref A_self, .int a1]) (n := 2) (Nat.le_of_ble_eq_true rfl)
  rw [lg_entry_eq]
  generalize (lg_sl ([.ref A_self, .int a1]) ++ List.replicate (2 - (lg_sl ([.ref A_self, .int a1])).length) Slot.unset).toArray = ls at hl ⊢
  have hl : lv_has ls 2 [(0, .ref A_self), (1, .int a1)] := hl
  have rg_a1 := i32r a1
  refine lv_iload_n hx hb dX3_byteAt_0 rfl (lv_at hl 1 rfl) ?_
  refine iif_lt (a := i_a1) (tgt := 19) hx hb hi_a1 dX3_byteAt_1 (by decide) (fun k_1 => ?_) (fun k_1 => ?_)
  · skip
    refine lv_iconst (v := (-1)) hx hb dX3_byteAt_19 (by decide) ?_
    refine lv_goto (tgt := 33) hx hb dX3_byteAt_20 (by decide) ?_
    have kzz_2 : ((-1) : Int32).toInt = (-1) := by decide
    exact W.iret (v := (-1)) hx hb hr (fun t ht hW => ⟨_, rfl, trivial, ht⟩) (fun _ h => by cases h) dX3_byteAt_33
  · skip
    refine lv_iload_n hx hb dX3_byteAt_4 rfl (lv_at hl 1 rfl) ?_
    refine lv_aload_n hx hb dX3_byteAt_5 rfl (lv_at hl 0 rfl) ?_
    refine va_get (D := D) (ci := 3) (v := .int self_length) (C := RX3) (T := TX3) (N := 2) hx hb hts (fun _ h => List.mem_cons_of_mem _ (List.mem_append_right _ h)) hown hK hP 0 rfl rfl 1 (by decide) (hts (.fieldLink RX3 15 "CrownTable$Tape" "length" "I") (mem_i 1 rfl)) (fun _ h9 => h9) rfl dX3_byteAt_6 ?_
    refine iicmp_ge (a := i_a1) (b := i_self_length) (tgt := 19) hx hb hi_a1 hi_self_length dX3_byteAt_9 (by decide) (fun k_3 => ?_) (fun k_3 => ?_)
    · skip
      refine lv_iconst (v := (-1)) hx hb dX3_byteAt_19 (by decide) ?_
      refine lv_goto (tgt := 33) hx hb dX3_byteAt_20 (by decide) ?_
      have kzz_4 : ((-1) : Int32).toInt = (-1) := by decide
      exact W.iret (v := (-1)) hx hb hr (fun t ht hW => ⟨_, rfl, trivial, ht⟩) (fun _ h => by cases h) dX3_byteAt_33
    · skip
      refine lv_iload_n hx hb dX3_byteAt_12 rfl (lv_at hl 1 rfl) ?_
      refine lv_sipush (v := 800) hx hb dX3_byteAt_13 (by decide) ?_
      refine iicmp_ltT (a := i_a1) (b := 800) (tgt := 23) hx hb hi_a1 (by decide) dX3_byteAt_16 (by decide) (by omega) ?_
      refine lv_aload_n hx hb dX3_byteAt_23 rfl (lv_at hl 0 rfl) ?_
      refine va_get (D := D) (ci := 3) (v := .ref A_bytes) (C := RX3) (T := TX3) (N := 2) hx hb hts (fun _ h => List.mem_cons_of_mem _ (List.mem_append_right _ h)) hown hK hP 0 rfl rfl 0 (by decide) (hts (.fieldLink RX3 9 "CrownTable$Tape" "bytes" "[B") (mem_i 2 rfl)) (fun _ h9 => h9) rfl dX3_byteAt_24 ?_
      refine lv_iload_n hx hb dX3_byteAt_27 rfl (lv_at hl 1 rfl) ?_
      refine va_bald hx hb hK hP 1 0 rfl rfl (vin (a := i_a1) hi_a1 (by omega) (by omega)) dX3_byteAt_28 ?_
      refine lv_topi (fun x_5 ex_5 => ?_)
      refine lv_sipush (v := 255) hx hb dX3_byteAt_29 (by decide) ?_
      refine lv_iand hx hb dX3_byteAt_32 ?_
      refine lv_topi (fun x_6 ex_6 => ?_)
      exact W.iret (v := x_6) hx hb hr (fun t ht hW => ⟨_, rfl, trivial, ht⟩) (fun _ h => by cases h) dX3_byteAt_33

set_option maxHeartbeats 4000000 in
set_option maxRecDepth 100000 in
theorem k_X3_addFour (l : Launch) (D : va_G) (c : Nat → ClassId) (ts : Nat × Nat) (sz : Nat) (A_bytes : Nat) (A_self : Nat) (f_bytes : Nat → Int32) (self_length : Int32) (i_self_length : Int) (hi_self_length : self_length.toInt = i_self_length) (a1 : Int32) (i_a1 : Int) (hi_a1 : a1.toInt = i_a1) (hv_self_length : 0 ≤ i_self_length ∧ i_self_length ≤ 800) : Met l yX3_addFour wsX3_addFour ({ frames := 1, cells := 0, slots := 0, locals := 21 }) (va_Pc [.ref A_self, .int a1] (Pre0 D c ts [(A_self, .inr (3, [.ref A_bytes, .int self_length])), (A_bytes, .inl (c 0, 800, .inl f_bytes))] sz)) (va_Qv (fun (u : Int32 × (Nat → Int32) × Unit) => (0 ≤ u.1.toInt ∧ u.1.toInt ≤ 800)) (fun u t => va_P D vwCl [(A_self, .inr (3, [.ref A_bytes, .int u.1])), (A_bytes, .inl (c 0, 800, .inl u.2.1))] t.heap ∧ va_D (va_A [(A_self, .inr (3, [.ref A_bytes, .int self_length])), (A_bytes, .inl (c 0, 800, .inl f_bytes))] sz) [(A_self, .inr (3, [.ref A_bytes, .int u.1])), (A_bytes, .inl (c 0, 800, .inl u.2.1))]) (va_A [(A_self, .inr (3, [.ref A_bytes, .int self_length])), (A_bytes, .inl (c 0, 800, .inl f_bytes))] sz)) 0 0 (va_A [(A_self, .inr (3, [.ref A_bytes, .int self_length])), (A_bytes, .inl (c 0, 800, .inl f_bytes))] sz) := by
  refine Met.ofW (cc := cX3_addFour) (maxL := 3) (ret := none) (by decide) rfl ?_
  intro p e s m args below meth cd s₁ B hml hv
  obtain ⟨rfl, hsz, hP, hD0, hAm, hSt⟩ := hv
  have hx := B.exec
  have hb := B.bytes
  have hr := B.returns
  have hts := atoms_spec (ws := wsX3_addFour) B.pre
  have hown : s.vm.findClass RX3 = some m.cls := findClass_of_methodNamed B.named
  have hlocks := B.notSynchronized
  have hK := hAm.1
  subst hsz
  have hD := hD0.self (sz := s.heap.size)
  generalize hAe : va_A [(A_self, .inr (3, [.ref A_bytes, .int self_length])), (A_bytes, .inl (c 0, 800, .inl f_bytes))] s.heap.size = A at hD hSt ⊢
  have hA : ∀ q : Nat, s.heap.size ≤ q → A q := fun q h => by rw [← hAe]; exact Or.inr h
  have hS : va_S A s.heap s.heap [] := va_S.rf
  clear hD0 hAe
  have hl := lv_entry ([.ref A_self, .int a1]) (n := 3) (Nat.le_of_ble_eq_true rfl)
  rw [lg_entry_eq]
  generalize (lg_sl ([.ref A_self, .int a1]) ++ List.replicate (3 - (lg_sl ([.ref A_self, .int a1])).length) Slot.unset).toArray = ls at hl ⊢
  have hl : lv_has ls 3 [(0, .ref A_self), (1, .int a1)] := hl
  have rg_a1 := i32r a1
  refine lv_bipush (v := 24) hx hb dX3_addFour_0 (by decide) ?_
  refine lv_istore_n (lv' := [(2, .int 24), (0, .ref A_self), (1, .int a1)]) hx hb dX3_addFour_2 rfl hl (by decide) rfl (fun ls hl => ?_)
  have lp_3 : ∀ (N : Nat) (L2 : Int32) (M_self_length : Int32) (M_bytes : Nat → Int32) (hf3_0 : -8 ≤ L2.toInt) (hf3_1 : L2.toInt ≤ 24) (hf3_2 : 0 ≤ M_self_length.toInt ∧ M_self_length.toInt ≤ 800) (hN3 : (L2.toInt + 8).toNat = N) (H : Heap) (locs : List Loc) (ls : Array Slot), va_P D vwCl [(A_self, .inr (3, [.ref A_bytes, .int M_self_length])), (A_bytes, .inl (c 0, 800, .inl M_bytes))] H → va_D A [(A_self, .inr (3, [.ref A_bytes, .int M_self_length])), (A_bytes, .inl (c 0, 800, .inl M_bytes))] → va_S A s.heap H locs → lv_has ls 3 [(0, .ref A_self), (1, .int a1), (2, .int L2)] → W p l e (headSpec wsX3_addFour ({ frames := 1, cells := 0, slots := 0, locals := 21 })).room s m (([.ref A_self, .int a1] : List Value).toArray) below meth cd H locs 0 0 (MQ below (va_Qv (fun (u : Int32 × (Nat → Int32) × Unit) => (0 ≤ u.1.toInt ∧ u.1.toInt ≤ 800)) (fun u t => va_P D vwCl [(A_self, .inr (3, [.ref A_bytes, .int u.1])), (A_bytes, .inl (c 0, 800, .inl u.2.1))] t.heap ∧ va_D A [(A_self, .inr (3, [.ref A_bytes, .int u.1])), (A_bytes, .inl (c 0, 800, .inl u.2.1))]) A) ([.ref A_self, .int a1] : List Value).toArray s 0 0 A) (F0 m 3 ls []) := by
    refine st_ind (fun N ih3 => ?_)
    intro L2 M_self_length M_bytes hf3_0 hf3_1 hf3_2 hN3 H locs ls hP hD hS hl
    have rg_M_self_length := i32r M_self_length
    refine lv_iload_n hx hb dX3_addFour_3 rfl (lv_at hl 2 rfl) ?_
    refine iif_lt (a := L2.toInt) (tgt := 44) hx hb rfl dX3_addFour_4 (by decide) (fun k_1 => ?_) (fun k_1 => ?_)
    · skip
      have hP9 := hP.sub (ws' := [(A_self, .inr (3, [.ref A_bytes, .int M_self_length])), (A_bytes, .inl (c 0, 800, .inl M_bytes))]) [0, 1] rfl
      have hD9 := hD.sub (ws' := [(A_self, .inr (3, [.ref A_bytes, .int M_self_length])), (A_bytes, .inl (c 0, 800, .inl M_bytes))]) [0, 1] (by decide) rfl
      refine W.widen (k := 0) (n := 0) (by omega) (by omega) ?_
      exact W.vret hx hb hr (fun t ht hW => ⟨⟨(M_self_length, M_bytes, ()), rfl, (show 0 ≤ M_self_length.toInt ∧ M_self_length.toInt ≤ 800 by omega), ⟨by rw [ht]; exact hP9, hD9⟩⟩, hS.F ht⟩) hS.2.2 dX3_addFour_44
    · skip
      refine lv_aload_n hx hb dX3_addFour_7 rfl (lv_at hl 0 rfl) ?_
      refine lv_iconst (v := 1) hx hb dX3_addFour_8 (by decide) ?_
      have hPc := hP.sub (ws' := [(A_self, .inr (3, [.ref A_bytes, .int M_self_length]))]) [0] rfl
      have hDc := hD.sub (ws' := [(A_self, .inr (3, [.ref A_bytes, .int M_self_length]))]) [0] (by decide) rfl
      have hFc := va_free (wc := [(A_self, .inr (3, [.ref A_bytes, .int M_self_length]))]) hD hS hA [0] rfl
      have kzz_2 : (1 : Int32).toInt = 1 := by decide
      refine va_csi (va_runV (As := [.int 1]) (rest := []) ⟨hx, hb, hml, hown, hts⟩ (k_X3_hasRoom l D c ts H.size A_bytes A_self M_self_length M_self_length.toInt rfl 1 1 (by decide) (by omega) (by omega)) (cwV 1 hts gX3_addFour_X3_hasRoom rfl rfl rfl ⟨rfl, hdX3_hasRoom⟩ ⟨(show 0 + 1 ≤ 1 by decide), (show 8 + (2 + 11) + 0 ≤ 21 by decide)⟩) ⟨Pre0.blind, va_recv hK hPc (ci := 3) (q0 := 0) rfl rfl, Pre0.at hPc hDc hAm hSt hS hFc⟩ rfl rfl hl.1 rfl (lv_room (Nat.le_of_ble_eq_true rfl)) dX3_addFour_9 ⟨(show 0 + 0 ≤ 0 by decide), (show 0 + 0 ≤ 0 by decide)⟩) (fun r_4 hw_3 => ?_)
      rcases hw_3 with ⟨hw_3, rfl⟩ | ⟨hw_3, rfl⟩
      · skip
        refine iif_eqF (a := 1) (tgt := 38) hx hb (by decide) dX3_addFour_12 (by decide) (by decide) ?_
        refine lv_aload_n hx hb dX3_addFour_15 rfl (lv_at hl 0 rfl) ?_
        refine va_get (D := D) (ci := 3) (v := .ref A_bytes) (C := RX3) (T := TX3) (N := 2) hx hb hts (fun _ h => List.mem_cons_of_mem _ (List.mem_append_right _ h)) hown hK hP 0 rfl rfl 0 (by decide) (hts (.fieldLink RX3 9 "CrownTable$Tape" "bytes" "[B") (mem_i 1 rfl)) (fun _ h9 => h9) rfl dX3_addFour_16 ?_
        refine lv_aload_n hx hb dX3_addFour_19 rfl (lv_at hl 0 rfl) ?_
        refine va_get (D := D) (ci := 3) (v := .int M_self_length) (C := RX3) (T := TX3) (N := 2) hx hb hts (fun _ h => List.mem_cons_of_mem _ (List.mem_append_right _ h)) hown hK hP 0 rfl rfl 1 (by decide) (hts (.fieldLink RX3 15 "CrownTable$Tape" "length" "I") (mem_i 2 rfl)) (fun _ h9 => h9) rfl dX3_addFour_20 ?_
        refine lv_iload_n hx hb dX3_addFour_23 rfl (lv_at hl 1 rfl) ?_
        refine lv_iload_n hx hb dX3_addFour_24 rfl (lv_at hl 2 rfl) ?_
        refine lv_iushr hx hb dX3_addFour_25 rfl ?_
        refine lv_topi (fun x_5 ex_5 => ?_)
        refine lv_i2b hx hb dX3_addFour_26 rfl ?_
        refine lv_topi (fun x_6 ex_6 => ?_)
        refine va_bast hx hb hK hP hD hS 1 0 rfl rfl (vin (a := M_self_length.toInt) rfl (by omega) (by omega)) dX3_addFour_27 (fun H locs hP hD hS => ?_)
        obtain ⟨f_7, ef_7, hP, hD⟩ : ∃ f_7 : Nat → Int32, f_7 = _ ∧ va_P D vwCl [(A_self, .inr (3, [.ref A_bytes, .int M_self_length])), (A_bytes, .inl (c 0, 800, .inl f_7))] H ∧ va_D A [(A_self, .inr (3, [.ref A_bytes, .int M_self_length])), (A_bytes, .inl (c 0, 800, .inl f_7))] := ⟨_, rfl, hP, hD⟩
        refine lv_aload_n hx hb dX3_addFour_28 rfl (lv_at hl 0 rfl) ?_
        refine lv_dup hx hb dX3_addFour_29 rfl ?_
        refine va_get (D := D) (ci := 3) (v := .int M_self_length) (C := RX3) (T := TX3) (N := 2) hx hb hts (fun _ h => List.mem_cons_of_mem _ (List.mem_append_right _ h)) hown hK hP 0 rfl rfl 1 (by decide) (hts (.fieldLink RX3 15 "CrownTable$Tape" "length" "I") (mem_i 2 rfl)) (fun _ h9 => h9) rfl dX3_addFour_30 ?_
        refine lv_iconst (v := 1) hx hb dX3_addFour_33 (by decide) ?_
        refine lv_iadd hx hb dX3_addFour_34 ?_
        refine lv_topi (fun x_8 ex_8 => ?_)
        have tx_8 : x_8.toInt = (M_self_length.toInt + 1) := by rw [ex_8]; exact add_ti (a := M_self_length.toInt) (b := 1) rfl (by decide) (by omega) (by omega)
        refine va_put (D := D) (ci := 3) (v := .int x_8) (ty := .int) (C := RX3) (T := TX3) (N := 2) hx hb hts (fun _ h => List.mem_cons_of_mem _ (List.mem_append_right _ h)) tyX3 tyX3_ok nmX3 hown hK hP hD hS 0 rfl rfl 1 (by decide) (hts (.fieldLink RX3 15 "CrownTable$Tape" "length" "I") (mem_i 2 rfl)) (fun _ h9 => h9) rfl (by decide +kernel) rfl rfl (Nat.le_of_ble_eq_true rfl) dX3_addFour_35 (fun H locs hP hD hS => ?_)
        have hP : va_P D vwCl [(A_self, .inr (3, [.ref A_bytes, .int x_8])), (A_bytes, .inl (c 0, 800, .inl f_7))] H := hP
        have hD : va_D A [(A_self, .inr (3, [.ref A_bytes, .int x_8])), (A_bytes, .inl (c 0, 800, .inl f_7))] := hD
        obtain ⟨x_9, ex_9⟩ : ∃ y : Int32, y = L2 + (-8) := ⟨_, rfl⟩
        have tx_9 : x_9.toInt = L2.toInt + (-8) := by rw [ex_9]; exact add_ti (a := L2.toInt) (b := (-8)) rfl (by decide) (by omega) (by omega)
        refine lv_iinc (v := x_9) (lv' := [(2, .int x_9), (0, .ref A_self), (1, .int a1)]) hx hb dX3_addFour_38 hl (k := 2) rfl (by rw [ex_9]; rfl) (by decide) rfl (fun ls hl => ?_)
        refine lv_goto (tgt := 3) hx hb dX3_addFour_41 (by decide) ?_
        have hl := lv_sub hl [1, 2, 0] rfl
        exact (ih3 ((x_9.toInt + 8).toNat) (by omega) x_9 x_8 f_7 (by omega) (by omega) (by omega) rfl _ _ _ hP hD hS hl)
      · skip
        refine iif_eqT (a := 0) (tgt := 38) hx hb (by decide) dX3_addFour_12 (by decide) (by decide) ?_
        obtain ⟨x_10, ex_10⟩ : ∃ y : Int32, y = L2 + (-8) := ⟨_, rfl⟩
        have tx_10 : x_10.toInt = L2.toInt + (-8) := by rw [ex_10]; exact add_ti (a := L2.toInt) (b := (-8)) rfl (by decide) (by omega) (by omega)
        refine lv_iinc (v := x_10) (lv' := [(2, .int x_10), (0, .ref A_self), (1, .int a1)]) hx hb dX3_addFour_38 hl (k := 2) rfl (by rw [ex_10]; rfl) (by decide) rfl (fun ls hl => ?_)
        refine lv_goto (tgt := 3) hx hb dX3_addFour_41 (by decide) ?_
        have hl := lv_sub hl [1, 2, 0] rfl
        exact (ih3 ((x_10.toInt + 8).toNat) (by omega) x_10 M_self_length M_bytes (by omega) (by omega) (by omega) rfl _ _ _ hP hD hS hl)
  have kzz_11 : (24 : Int32).toInt = 24 := by decide
  have hl := lv_sub hl [1, 2, 0] rfl
  exact (lp_3 _ 24 self_length f_bytes (by omega) (by omega) (by omega) rfl _ _ _ hP hD hS hl)
