set_option maxHeartbeats 4000000 in
set_option maxRecDepth 100000 in
theorem c_X6_textOf (l : Launch) (D : va_G) (c : Nat → ClassId) (ts : Nat × Nat) (sz : Nat) (q : Nat → Nat) (h0 : Nat) (a1 : Int32) (i_a1 : Int) (hi_a1 : a1.toInt = i_a1) : Met l yX6_textOf wsX6_textOf ({ frames := 0, cells := 0, slots := 0, locals := 0 }) (va_Pc [.ref h0, .int a1] (Pre0 D c ts [(h0, .inr (6, o6 q 0 0 0 0))] sz)) (va_Sq (fun r : Option Nat => r = none)) 0 0 (fun _ => False) := by
  refine Met.ofW (cc := cX6_textOf) (maxL := 2) (ret := (some (.object "CrownTable$Text"))) (by decide) rfl ?_
  intro p e s m args below meth cd s₁ B hml hv
  obtain ⟨rfl, hsz, hP, hD0, hAm, hSt⟩ := hv
  have hx := B.exec
  have hb := B.bytes
  have hr := B.returns
  have hts := atoms_spec (ws := wsX6_textOf) B.pre
  have hown : s.vm.findClass RX6 = some m.cls := findClass_of_methodNamed B.named
  have hlocks := B.notSynchronized
  subst hsz
  have hK := hAm.1
  have hD := hD0.self (sz := s.heap.size)
  generalize hAe : va_A [(h0, .inr (6, o6 q 0 0 0 0))] s.heap.size = A at hD hSt
  have hA : ∀ q : Nat, s.heap.size ≤ q → A q := fun q h => by rw [← hAe]; exact Or.inr h
  have hS : va_S A s.heap s.heap [] := va_S.rf
  clear hD0 hAe
  have hl := lv_entry ([.ref h0, .int a1]) (n := 2) (Nat.le_of_ble_eq_true rfl)
  rw [lg_entry_eq]
  generalize (lg_sl ([.ref h0, .int a1]) ++ List.replicate (2 - (lg_sl ([.ref h0, .int a1])).length) Slot.unset).toArray = ls at hl ⊢
  have hl : lv_has ls 2 [(0, .ref h0), (1, .int a1)] := hl
  refine lv_iload_n hx hb dX6_textOf_0 rfl (lv_at hl 1 rfl) ?_
  refine iif_lt (a := i_a1) (tgt := 21) hx hb hi_a1 dX6_textOf_1 (by decide) (fun k_1 => ?_) (fun k_1 => ?_)
  · skip
    refine lv_null hx hb dX6_textOf_21 ?_
    refine lv_goto (tgt := 31) hx hb dX6_textOf_22 (by decide) ?_
    exact W.aret (v := .null) hx hb hr (Or.inl ⟨_, rfl⟩) (Or.inl rfl) (fun t ht hW => ⟨none, rfl, rfl, ht⟩) (fun _ h => by cases h) dX6_textOf_31
  · skip
    refine lv_iload_n hx hb dX6_textOf_4 rfl (lv_at hl 1 rfl) ?_
    refine lv_aload_n hx hb dX6_textOf_5 rfl (lv_at hl 0 rfl) ?_
    refine va_get (D := D) (ci := 6) (v := .int 0) (C := RX6) (T := TX6) (N := 18) hx hb hts (fun _ h => List.mem_cons_of_mem _ (List.mem_append_right _ h)) hown hK hP 0 rfl rfl 4 (by decide) (hts (.fieldLink RX6 99 "CrownTable" "textsRead" "I") (mem_i 1 rfl)) (fun _ h9 => h9) rfl dX6_textOf_6 ?_
    refine iicmp_geT (a := i_a1) (b := 0) (tgt := 21) hx hb hi_a1 (by decide) dX6_textOf_9 (by decide) (by omega) ?_
    refine lv_null hx hb dX6_textOf_21 ?_
    refine lv_goto (tgt := 31) hx hb dX6_textOf_22 (by decide) ?_
    exact W.aret (v := .null) hx hb hr (Or.inl ⟨_, rfl⟩) (Or.inl rfl) (fun t ht hW => ⟨none, rfl, rfl, ht⟩) (fun _ h => by cases h) dX6_textOf_31

set_option maxHeartbeats 4000000 in
set_option maxRecDepth 100000 in
theorem c_X6_statements (l : Launch) (D : va_G) (c : Nat → ClassId) (ts : Nat × Nat) (sz : Nat) (q : Nat → Nat) (h0 : Nat) (a1 : Int32) (i_a1 : Int) (hi_a1 : a1.toInt = i_a1) : Met l yX6_statements wsX6_statements ({ frames := 1, cells := 0, slots := 0, locals := 21 }) (va_Pc [.ref h0, .int a1] (Pre0 D c ts [(h0, .inr (6, o6 q 0 0 0 0))] sz)) (vp_Si (fun r : Int32 => r = (-1))) 0 0 (fun _ => False) := by
  refine Met.ofW (cc := cX6_statements) (maxL := 3) (ret := (some .int)) (by decide) rfl ?_
  intro p e s m args below meth cd s₁ B hml hv
  obtain ⟨rfl, hsz, hP, hD0, hAm, hSt⟩ := hv
  have hx := B.exec
  have hb := B.bytes
  have hr := B.returns
  have hts := atoms_spec (ws := wsX6_statements) B.pre
  have hown : s.vm.findClass RX6 = some m.cls := findClass_of_methodNamed B.named
  have hlocks := B.notSynchronized
  subst hsz
  have hK := hAm.1
  have hD := hD0.self (sz := s.heap.size)
  generalize hAe : va_A [(h0, .inr (6, o6 q 0 0 0 0))] s.heap.size = A at hD hSt
  have hA : ∀ q : Nat, s.heap.size ≤ q → A q := fun q h => by rw [← hAe]; exact Or.inr h
  have hS : va_S A s.heap s.heap [] := va_S.rf
  clear hD0 hAe
  have hl := lv_entry ([.ref h0, .int a1]) (n := 3) (Nat.le_of_ble_eq_true rfl)
  rw [lg_entry_eq]
  generalize (lg_sl ([.ref h0, .int a1]) ++ List.replicate (3 - (lg_sl ([.ref h0, .int a1])).length) Slot.unset).toArray = ls at hl ⊢
  have hl : lv_has ls 3 [(0, .ref h0), (1, .int a1)] := hl
  refine lv_aload_n hx hb dX6_statements_0 rfl (lv_at hl 0 rfl) ?_
  refine lv_iload_n hx hb dX6_statements_1 rfl (lv_at hl 1 rfl) ?_
  have hPc := hP.sub (ws' := [(h0, .inr (6, o6 q 0 0 0 0))]) [0] rfl
  have hDc := hD.sub (ws' := [(h0, .inr (6, o6 q 0 0 0 0))]) [0] (by decide) rfl
  have hFc := va_free (wc := [(h0, .inr (6, o6 q 0 0 0 0))]) hD hS hA [0] rfl
  refine va_csq2 (va_runV (As := [.int a1]) (rest := []) ⟨hx, hb, hml, hown, hts⟩ (c_X6_textOf l D c ts s.heap.size q h0 a1 i_a1 hi_a1) (cwV 1 hts gX6_statements_X6_textOf rfl rfl rfl ⟨rfl, hdX6_textOf⟩ ⟨(show 0 + 1 ≤ 1 by decide), (show 8 + (2 + 11) + 0 ≤ 21 by decide)⟩) ⟨Pre0.blind, va_recv hK hPc (ci := 6) (q0 := 0) rfl rfl, Pre0.at hPc hDc hAm hSt hS hFc⟩ rfl rfl hl.1 rfl (lv_room (Nat.le_of_ble_eq_true rfl)) dX6_statements_2 ⟨(show 0 + 0 ≤ 0 by decide), (show 0 + 0 ≤ 0 by decide)⟩) (fun r_2 hw_1 => ?_)
  refine lk_q (y := none) hw_1 ?_
  refine lv_astore_nN (lv' := [(2, .null), (0, .ref h0), (1, .int a1)]) hx hb dX6_statements_5 rfl hl (by decide) rfl (fun ls hl => ?_)
  refine lv_aload_nN hx hb dX6_statements_6 rfl (lv_at hl 0 rfl) ?_
  refine lv_ifnonnullN hx hb dX6_statements_7 ?_
  refine lv_iconst (v := (-1)) hx hb dX6_statements_10 (by decide) ?_
  refine lv_goto (tgt := 19) hx hb dX6_statements_11 (by decide) ?_
  exact W.iret (v := (-1)) hx hb hr (fun t ht hW => ⟨_, rfl, rfl, ht⟩) (fun _ h => by cases h) dX6_statements_19

set_option maxHeartbeats 4000000 in
set_option maxRecDepth 100000 in
theorem c_X7_in_4 (l : Launch) (D : va_G) (c : Nat → ClassId) (ts : Nat × Nat) (sz : Nat)  (a0 : Int32) (i_a0 : Int) (hi_a0 : a0.toInt = i_a0) : Met l yX7_in wsX7_in ({ frames := 0, cells := 0, slots := 0, locals := 0 }) (va_Pc [.int a0, .int 0, .int (-1)] (Pre0 D c ts [] sz)) (vp_Si (fun r : Int32 => ((0 ≤ i_a0 ∧ i_a0 ≤ (-1)) ∧ r = 1) ∨ ((¬ (0 ≤ i_a0 ∧ i_a0 ≤ (-1))) ∧ r = 0))) 0 0 (fun _ => False) := by
  refine Met.ofW (cc := cX7_in) (maxL := 3) (ret := (some .boolean)) (by decide) rfl ?_
  intro p e s m args below meth cd s₁ B hml hv
  obtain ⟨rfl, hsz, hP, hD0, hAm, hSt⟩ := hv
  have hx := B.exec
  have hb := B.bytes
  have hr := B.returns
  have hts := atoms_spec (ws := wsX7_in) B.pre
  have hown : s.vm.findClass RX7 = some m.cls := findClass_of_methodNamed B.named
  have hlocks := B.notSynchronized
  subst hsz
  have hK := hAm.1
  have hD := hD0.self (sz := s.heap.size)
  generalize hAe : va_A [] s.heap.size = A at hD hSt
  have hA : ∀ q : Nat, s.heap.size ≤ q → A q := fun q h => by rw [← hAe]; exact Or.inr h
  have hS : va_S A s.heap s.heap [] := va_S.rf
  clear hD0 hAe
  have hl := lv_entry ([.int a0, .int 0, .int (-1)]) (n := 3) (Nat.le_of_ble_eq_true rfl)
  rw [lg_entry_eq]
  generalize (lg_sl ([.int a0, .int 0, .int (-1)]) ++ List.replicate (3 - (lg_sl ([.int a0, .int 0, .int (-1)])).length) Slot.unset).toArray = ls at hl ⊢
  have hl : lv_has ls 3 [(0, .int a0), (1, .int 0), (2, .int (-1))] := hl
  refine lv_iload_n hx hb dX7_in_0 rfl (lv_at hl 0 rfl) ?_
  refine lv_iload_n hx hb dX7_in_1 rfl (lv_at hl 1 rfl) ?_
  refine iicmp_lt (a := i_a0) (b := 0) (tgt := 14) hx hb hi_a0 (by decide) dX7_in_2 (by decide) (fun k_1 => ?_) (fun k_1 => ?_)
  · skip
    refine lv_iconst (v := 0) hx hb dX7_in_14 (by decide) ?_
    exact W.zret (v := 0) hx hb hr (by decide) (fun t ht hW => ⟨_, rfl, Or.inr (⟨by omega, rfl⟩), ht⟩) (fun _ h => by cases h) dX7_in_15
  · skip
    refine lv_iload_n hx hb dX7_in_5 rfl (lv_at hl 0 rfl) ?_
    refine lv_iload_n hx hb dX7_in_6 rfl (lv_at hl 2 rfl) ?_
    refine iicmp_gtT (a := i_a0) (b := (-1)) (tgt := 14) hx hb hi_a0 (by decide) dX7_in_7 (by decide) (by omega) ?_
    refine lv_iconst (v := 0) hx hb dX7_in_14 (by decide) ?_
    exact W.zret (v := 0) hx hb hr (by decide) (fun t ht hW => ⟨_, rfl, Or.inr (⟨by omega, rfl⟩), ht⟩) (fun _ h => by cases h) dX7_in_15

set_option maxHeartbeats 4000000 in
set_option maxRecDepth 100000 in
theorem c_X7_isText (l : Launch) (D : va_G) (c : Nat → ClassId) (ts : Nat × Nat) (sz : Nat) (q : Nat → Nat) (h0 : Nat) (a1 : Int32) (i_a1 : Int) (hi_a1 : a1.toInt = i_a1) : Met l yX7_isText wsX7_isText ({ frames := 1, cells := 0, slots := 0, locals := 22 }) (va_Pc [.ref h0, .int a1] (Pre0 D c ts [(h0, .inr (7, o7 q v0 w0))] sz)) (vp_Si (fun r : Int32 => r = 0)) 0 0 (fun _ => False) := by
  refine Met.ofW (cc := cX7_isText) (maxL := 2) (ret := (some .boolean)) (by decide) rfl ?_
  intro p e s m args below meth cd s₁ B hml hv
  obtain ⟨rfl, hsz, hP, hD0, hAm, hSt⟩ := hv
  have hx := B.exec
  have hb := B.bytes
  have hr := B.returns
  have hts := atoms_spec (ws := wsX7_isText) B.pre
  have hown : s.vm.findClass RX7 = some m.cls := findClass_of_methodNamed B.named
  have hlocks := B.notSynchronized
  subst hsz
  have hK := hAm.1
  have hD := hD0.self (sz := s.heap.size)
  generalize hAe : va_A [(h0, .inr (7, o7 q v0 w0))] s.heap.size = A at hD hSt
  have hA : ∀ q : Nat, s.heap.size ≤ q → A q := fun q h => by rw [← hAe]; exact Or.inr h
  have hS : va_S A s.heap s.heap [] := va_S.rf
  clear hD0 hAe
  have hl := lv_entry ([.ref h0, .int a1]) (n := 2) (Nat.le_of_ble_eq_true rfl)
  rw [lg_entry_eq]
  generalize (lg_sl ([.ref h0, .int a1]) ++ List.replicate (2 - (lg_sl ([.ref h0, .int a1])).length) Slot.unset).toArray = ls at hl ⊢
  have hl : lv_has ls 2 [(0, .ref h0), (1, .int a1)] := hl
  refine lv_iload_n hx hb dX7_isText_0 rfl (lv_at hl 1 rfl) ?_
  refine lv_iconst (v := 0) hx hb dX7_isText_1 (by decide) ?_
  refine lv_aload_n hx hb dX7_isText_2 rfl (lv_at hl 0 rfl) ?_
  refine va_get (D := D) (ci := 7) (v := .int 0) (C := RX7) (T := TX7) (N := 56) hx hb hts (fun _ h => List.mem_cons_of_mem _ (List.mem_append_right _ h)) hown hK hP 0 rfl rfl 8 (by decide) (hts (.fieldLink RX7 220 "CrownTableModel" "texts" "I") (mem_i 1 rfl)) (fun _ h9 => h9) rfl dX7_isText_3 ?_
  refine lv_iconst (v := 1) hx hb dX7_isText_6 (by decide) ?_
  refine lv_isub hx hb dX7_isText_7 ?_
  refine lk_i (y := (-1)) (by decide) ?_
  have hPc := hP.sub (ws' := []) [] rfl
  have hDc := hD.sub (ws' := []) [] (by decide) rfl
  have hFc := va_free (wc := []) hD hS hA [] rfl
  refine va_csi (va_runS (As := [.int a1, .int 0, .int (-1)]) (rest := []) ⟨hx, hb, hml, hown, hts⟩ (c_X7_in_4 l D c ts s.heap.size a1 i_a1 hi_a1) (cwS 3 hts gX7_isText_X7_in rfl rfl rfl ⟨rfl, hdX7_in⟩ ⟨(show 0 + 1 ≤ 1 by decide), (show 8 + (3 + 11) + 0 ≤ 22 by decide)⟩) ⟨Pre0.blind, Pre0.at hPc hDc hAm hSt hS hFc⟩ rfl rfl hl.1 rfl (lv_room (Nat.le_of_ble_eq_true rfl)) dX7_isText_8 ⟨(show 0 + 0 ≤ 0 by decide), (show 0 + 0 ≤ 0 by decide)⟩) (fun r_2 hw_1 => ?_)
  rcases hw_1 with ⟨hw_1, rfl⟩ | ⟨hw_1, rfl⟩
  · exfalso; omega
  · skip
    exact W.zret (v := 0) hx hb hr (by decide) (fun t ht hW => ⟨_, rfl, rfl, ht⟩) (fun _ h => by cases h) dX7_isText_11

set_option maxHeartbeats 4000000 in
set_option maxRecDepth 100000 in
theorem c_X7_statements (l : Launch) (D : va_G) (c : Nat → ClassId) (ts : Nat × Nat) (sz : Nat) (q : Nat → Nat) (h0 : Nat) (a1 : Int32) (i_a1 : Int) (hi_a1 : a1.toInt = i_a1) : Met l yX7_statements wsX7_statements ({ frames := 2, cells := 0, slots := 0, locals := 43 }) (va_Pc [.ref h0, .int a1] (Pre0 D c ts [(h0, .inr (7, o7 q v0 w0))] sz)) (vp_Si (fun r : Int32 => r = (-1))) 0 0 (fun _ => False) := by
  refine Met.ofW (cc := cX7_statements) (maxL := 2) (ret := (some .int)) (by decide) rfl ?_
  intro p e s m args below meth cd s₁ B hml hv
  obtain ⟨rfl, hsz, hP, hD0, hAm, hSt⟩ := hv
  have hx := B.exec
  have hb := B.bytes
  have hr := B.returns
  have hts := atoms_spec (ws := wsX7_statements) B.pre
  have hown : s.vm.findClass RX7 = some m.cls := findClass_of_methodNamed B.named
  have hlocks := B.notSynchronized
  subst hsz
  have hK := hAm.1
  have hD := hD0.self (sz := s.heap.size)
  generalize hAe : va_A [(h0, .inr (7, o7 q v0 w0))] s.heap.size = A at hD hSt
  have hA : ∀ q : Nat, s.heap.size ≤ q → A q := fun q h => by rw [← hAe]; exact Or.inr h
  have hS : va_S A s.heap s.heap [] := va_S.rf
  clear hD0 hAe
  have hl := lv_entry ([.ref h0, .int a1]) (n := 2) (Nat.le_of_ble_eq_true rfl)
  rw [lg_entry_eq]
  generalize (lg_sl ([.ref h0, .int a1]) ++ List.replicate (2 - (lg_sl ([.ref h0, .int a1])).length) Slot.unset).toArray = ls at hl ⊢
  have hl : lv_has ls 2 [(0, .ref h0), (1, .int a1)] := hl
  refine lv_aload_n hx hb dX7_statements_0 rfl (lv_at hl 0 rfl) ?_
  refine lv_iload_n hx hb dX7_statements_1 rfl (lv_at hl 1 rfl) ?_
  have hPc := hP.sub (ws' := [(h0, .inr (7, o7 q v0 w0))]) [0] rfl
  have hDc := hD.sub (ws' := [(h0, .inr (7, o7 q v0 w0))]) [0] (by decide) rfl
  have hFc := va_free (wc := [(h0, .inr (7, o7 q v0 w0))]) hD hS hA [0] rfl
  refine va_csi (va_runV (As := [.int a1]) (rest := []) ⟨hx, hb, hml, hown, hts⟩ (c_X7_isText l D c ts s.heap.size q h0 a1 i_a1 hi_a1) (cwV 1 hts gX7_statements_X7_isText rfl rfl rfl ⟨rfl, hdX7_isText⟩ ⟨(show 1 + 1 ≤ 2 by decide), (show 8 + (2 + 11) + 22 ≤ 43 by decide)⟩) ⟨Pre0.blind, va_recv hK hPc (ci := 7) (q0 := 0) rfl rfl, Pre0.at hPc hDc hAm hSt hS hFc⟩ rfl rfl hl.1 rfl (lv_room (Nat.le_of_ble_eq_true rfl)) dX7_statements_2 ⟨(show 0 + 0 ≤ 0 by decide), (show 0 + 0 ≤ 0 by decide)⟩) (fun r_2 hw_1 => ?_)
  refine lk_i (y := 0) hw_1 ?_
  refine iif_eqT (a := 0) (tgt := 17) hx hb (by decide) dX7_statements_5 (by decide) (by decide) ?_
  refine lv_iconst (v := (-1)) hx hb dX7_statements_17 (by decide) ?_
  exact W.iret (v := (-1)) hx hb hr (fun t ht hW => ⟨_, rfl, rfl, ht⟩) (fun _ h => by cases h) dX7_statements_18
