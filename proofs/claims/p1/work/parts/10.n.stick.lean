set_option maxHeartbeats 4000000 in
set_option maxRecDepth 100000 in
theorem c_X2_has_3 (l : Launch) (D : va_G) (c : Nat → ClassId) (ts : Nat × Nat) (sz : Nat) (h0 : Nat) (h1 : Nat) (a1 : Int32) (i_a1 : Int) (hi_a1 : a1.toInt = i_a1) : Met l yX2_has wsX2_has ({ frames := 0, cells := 0, slots := 0, locals := 0 }) (va_Pc [.ref h0, .int a1, .int 0] (Pre0 D c ts [(h0, .inr (2, [.int 1, .int 2000, .ref h1, .int 0]))] sz)) (vp_Si (fun r : Int32 => r = 0)) 0 0 (fun _ => False) := by
  refine Met.ofW (cc := cX2_has) (maxL := 3) (ret := (some .boolean)) (by decide) rfl ?_
  intro p e s m args below meth cd s₁ B hml hv
  obtain ⟨rfl, hsz, hP, hD0, hAm, hSt⟩ := hv
  have hx := B.exec
  have hb := B.bytes
  have hr := B.returns
  have hts := atoms_spec (ws := wsX2_has) B.pre
  have hown : s.vm.findClass RX2 = some m.cls := findClass_of_methodNamed B.named
  have hlocks := B.notSynchronized
  subst hsz
  have hK := hAm.1
  have hD := hD0.self (sz := s.heap.size)
  generalize hAe : va_A [(h0, .inr (2, [.int 1, .int 2000, .ref h1, .int 0]))] s.heap.size = A at hD hSt
  have hA : ∀ q : Nat, s.heap.size ≤ q → A q := fun q h => by rw [← hAe]; exact Or.inr h
  have hS : va_S A s.heap s.heap [] := va_S.rf
  clear hD0 hAe
  have hl := lv_entry ([.ref h0, .int a1, .int 0]) (n := 3) (Nat.le_of_ble_eq_true rfl)
  rw [lg_entry_eq]
  generalize (lg_sl ([.ref h0, .int a1, .int 0]) ++ List.replicate (3 - (lg_sl ([.ref h0, .int a1, .int 0])).length) Slot.unset).toArray = ls at hl ⊢
  have hl : lv_has ls 3 [(0, .ref h0), (1, .int a1), (2, .int 0)] := hl
  refine lv_iload_n hx hb dX2_has_0 rfl (lv_at hl 1 rfl) ?_
  refine iif_lt (a := i_a1) (tgt := 28) hx hb hi_a1 dX2_has_1 (by decide) (fun k_1 => ?_) (fun k_1 => ?_)
  · skip
    refine lv_iconst (v := 0) hx hb dX2_has_28 (by decide) ?_
    exact W.zret (v := 0) hx hb hr (by decide) (fun t ht hW => ⟨_, rfl, rfl, ht⟩) (fun _ h => by cases h) dX2_has_29
  · skip
    refine lv_iload_n hx hb dX2_has_4 rfl (lv_at hl 1 rfl) ?_
    refine lv_aload_n hx hb dX2_has_5 rfl (lv_at hl 0 rfl) ?_
    refine va_get (D := D) (ci := 2) (v := .int 0) (C := RX2) (T := TX2) (N := 4) hx hb hts (fun _ h => List.mem_cons_of_mem _ (List.mem_append_right _ h)) hown hK hP 0 rfl rfl 3 (by decide) (hts (.fieldLink RX2 28 "CrownTable$Rows" "size" "I") (mem_i 1 rfl)) (fun _ h9 => h9) rfl dX2_has_6 ?_
    refine iicmp_geT (a := i_a1) (b := 0) (tgt := 28) hx hb hi_a1 (by decide) dX2_has_9 (by decide) (by omega) ?_
    refine lv_iconst (v := 0) hx hb dX2_has_28 (by decide) ?_
    exact W.zret (v := 0) hx hb hr (by decide) (fun t ht hW => ⟨_, rfl, rfl, ht⟩) (fun _ h => by cases h) dX2_has_29

set_option maxHeartbeats 4000000 in
set_option maxRecDepth 100000 in
theorem c_X6_stick (l : Launch) (D : va_G) (c : Nat → ClassId) (ts : Nat × Nat) (sz : Nat) (q : Nat → Nat) (h0 : Nat) (a1 : Int32) (i_a1 : Int) (hi_a1 : a1.toInt = i_a1) (a2 : Int32) (i_a2 : Int) (hi_a2 : a2.toInt = i_a2) : Met l yX6_stick wsX6_stick ({ frames := 1, cells := 0, slots := 0, locals := 22 }) (va_Pc [.ref h0, .int a1, .int a2] (Pre0 D c ts [(h0, .inr (6, o6 q 0 0 0 0)), (q 23, .inr (2, [.int 1, .int 2000, .ref (q 24), .int 0]))] sz)) (vp_Si (fun r : Int32 => r = (-1))) 0 0 (fun _ => False) := by
  refine Met.ofW (cc := cX6_stick) (maxL := 4) (ret := (some .int)) (by decide) rfl ?_
  intro p e s m args below meth cd s₁ B hml hv
  obtain ⟨rfl, hsz, hP, hD0, hAm, hSt⟩ := hv
  have hx := B.exec
  have hb := B.bytes
  have hr := B.returns
  have hts := atoms_spec (ws := wsX6_stick) B.pre
  have hown : s.vm.findClass RX6 = some m.cls := findClass_of_methodNamed B.named
  have hlocks := B.notSynchronized
  subst hsz
  have hK := hAm.1
  have hD := hD0.self (sz := s.heap.size)
  generalize hAe : va_A [(h0, .inr (6, o6 q 0 0 0 0)), (q 23, .inr (2, [.int 1, .int 2000, .ref (q 24), .int 0]))] s.heap.size = A at hD hSt
  have hA : ∀ q : Nat, s.heap.size ≤ q → A q := fun q h => by rw [← hAe]; exact Or.inr h
  have hS : va_S A s.heap s.heap [] := va_S.rf
  clear hD0 hAe
  have hl := lv_entry ([.ref h0, .int a1, .int a2]) (n := 4) (Nat.le_of_ble_eq_true rfl)
  rw [lg_entry_eq]
  generalize (lg_sl ([.ref h0, .int a1, .int a2]) ++ List.replicate (4 - (lg_sl ([.ref h0, .int a1, .int a2])).length) Slot.unset).toArray = ls at hl ⊢
  have hl : lv_has ls 4 [(0, .ref h0), (1, .int a1), (2, .int a2)] := hl
  refine lv_aload_n hx hb dX6_stick_0 rfl (lv_at hl 0 rfl) ?_
  refine va_get (D := D) (ci := 6) (v := .ref (q 23)) (C := RX6) (T := TX6) (N := 18) hx hb hts (fun _ h => List.mem_cons_of_mem _ (List.mem_append_left _ (List.mem_append_right _ h))) hown hK hP 0 rfl rfl 13 (by decide) (hts (.fieldLink RX6 71 "CrownTable" "sticks" "LCrownTable$Rows;") (mem_i 1 rfl)) (fun _ h9 => h9) rfl dX6_stick_1 ?_
  refine lv_iload_n hx hb dX6_stick_4 rfl (lv_at hl 1 rfl) ?_
  refine lv_iconst (v := 0) hx hb dX6_stick_5 (by decide) ?_
  have hPc := hP.sub (ws' := [(q 23, .inr (2, [.int 1, .int 2000, .ref (q 24), .int 0]))]) [1] rfl
  have hDc := hD.sub (ws' := [(q 23, .inr (2, [.int 1, .int 2000, .ref (q 24), .int 0]))]) [1] (by decide) rfl
  have hFc := va_free (wc := [(q 23, .inr (2, [.int 1, .int 2000, .ref (q 24), .int 0]))]) hD hS hA [1] rfl
  refine va_csi (va_runVN (As := [.int a1, .int 0]) (rest := []) ⟨hx, hb, hml, hown, hts⟩ (c_X2_has_3 l D c ts s.heap.size (q 23) (q 24) a1 i_a1 hi_a1) ⟨va_cnB 2 hts gX6_stick_X2_has_n202 rfl rfl rfl (show va_Nw (.methodLinkNest RX6 202 yX2_has RX6) _ from hAm.2.1.1 (RX6, 202, yX2_has, RX6) (mem_i 14 rfl)) (hts (.initialized RX2) (mem_i 3 rfl)) hdX2_has ⟨(show 0 + 1 ≤ 1 by decide), (show 8 + (3 + 11) + 0 ≤ 22 by decide)⟩, (hts (.instanceMethod yX2_has) (mem_i 2 rfl)), (hts (.selects RX2 yX2_has yX2_has) (mem_i 4 rfl))⟩ ⟨Pre0.blind, va_recv hK hPc (ci := 2) (q0 := 0) rfl rfl, Pre0.at hPc hDc hAm hSt hS hFc⟩ rfl rfl hl.1 rfl (lv_room (Nat.le_of_ble_eq_true rfl)) dX6_stick_6 ⟨(show 0 + 0 ≤ 0 by decide), (show 0 + 0 ≤ 0 by decide)⟩) (fun r_2 hw_1 => ?_)
  refine lk_i (y := 0) hw_1 ?_
  refine iif_eqT (a := 0) (tgt := 23) hx hb (by decide) dX6_stick_9 (by decide) (by decide) ?_
  refine lv_iconst (v := (-1)) hx hb dX6_stick_23 (by decide) ?_
  exact W.iret (v := (-1)) hx hb hr (fun t ht hW => ⟨_, rfl, rfl, ht⟩) (fun _ h => by cases h) dX6_stick_24

set_option maxHeartbeats 4000000 in
set_option maxRecDepth 100000 in
theorem c_X7_stick (l : Launch) (D : va_G) (c : Nat → ClassId) (ts : Nat × Nat) (sz : Nat) (q : Nat → Nat) (h0 : Nat) (a1 : Int32) (i_a1 : Int) (hi_a1 : a1.toInt = i_a1) (a2 : Int32) (i_a2 : Int) (hi_a2 : a2.toInt = i_a2) : Met l yX7_stick wsX7_stick ({ frames := 1, cells := 0, slots := 0, locals := 22 }) (va_Pc [.ref h0, .int a1, .int a2] (Pre0 D c ts [(h0, .inr (7, o7 q v0 w0))] sz)) (vp_Si (fun r : Int32 => r = (-1))) 0 0 (fun _ => False) := by
  refine Met.ofW (cc := cX7_stick) (maxL := 3) (ret := (some .int)) (by decide) rfl ?_
  intro p e s m args below meth cd s₁ B hml hv
  obtain ⟨rfl, hsz, hP, hD0, hAm, hSt⟩ := hv
  have hx := B.exec
  have hb := B.bytes
  have hr := B.returns
  have hts := atoms_spec (ws := wsX7_stick) B.pre
  have hown : s.vm.findClass RX7 = some m.cls := findClass_of_methodNamed B.named
  have hlocks := B.notSynchronized
  subst hsz
  have hK := hAm.1
  have hD := hD0.self (sz := s.heap.size)
  generalize hAe : va_A [(h0, .inr (7, o7 q v0 w0))] s.heap.size = A at hD hSt
  have hA : ∀ q : Nat, s.heap.size ≤ q → A q := fun q h => by rw [← hAe]; exact Or.inr h
  have hS : va_S A s.heap s.heap [] := va_S.rf
  clear hD0 hAe
  have hl := lv_entry ([.ref h0, .int a1, .int a2]) (n := 3) (Nat.le_of_ble_eq_true rfl)
  rw [lg_entry_eq]
  generalize (lg_sl ([.ref h0, .int a1, .int a2]) ++ List.replicate (3 - (lg_sl ([.ref h0, .int a1, .int a2])).length) Slot.unset).toArray = ls at hl ⊢
  have hl : lv_has ls 3 [(0, .ref h0), (1, .int a1), (2, .int a2)] := hl
  refine lv_iload_n hx hb dX7_stick_0 rfl (lv_at hl 1 rfl) ?_
  refine lv_iconst (v := 0) hx hb dX7_stick_1 (by decide) ?_
  refine lv_aload_n hx hb dX7_stick_2 rfl (lv_at hl 0 rfl) ?_
  refine va_get (D := D) (ci := 7) (v := .int 0) (C := RX7) (T := TX7) (N := 56) hx hb hts (fun _ h => List.mem_cons_of_mem _ (List.mem_append_right _ h)) hown hK hP 0 rfl rfl 52 (by decide) (hts (.fieldLink RX7 322 "CrownTableModel" "sticks" "I") (mem_i 1 rfl)) (fun _ h9 => h9) rfl dX7_stick_3 ?_
  refine lv_iconst (v := 1) hx hb dX7_stick_6 (by decide) ?_
  refine lv_isub hx hb dX7_stick_7 ?_
  refine lk_i (y := (-1)) (by decide) ?_
  have hPc := hP.sub (ws' := []) [] rfl
  have hDc := hD.sub (ws' := []) [] (by decide) rfl
  have hFc := va_free (wc := []) hD hS hA [] rfl
  refine va_csi (va_runS (As := [.int a1, .int 0, .int (-1)]) (rest := []) ⟨hx, hb, hml, hown, hts⟩ (c_X7_in_4 l D c ts s.heap.size a1 i_a1 hi_a1) (cwS 3 hts gX7_stick_X7_in rfl rfl rfl ⟨rfl, hdX7_in⟩ ⟨(show 0 + 1 ≤ 1 by decide), (show 8 + (3 + 11) + 0 ≤ 22 by decide)⟩) ⟨Pre0.blind, Pre0.at hPc hDc hAm hSt hS hFc⟩ rfl rfl hl.1 rfl (lv_room (Nat.le_of_ble_eq_true rfl)) dX7_stick_8 ⟨(show 0 + 0 ≤ 0 by decide), (show 0 + 0 ≤ 0 by decide)⟩) (fun r_2 hw_1 => ?_)
  rcases hw_1 with ⟨hw_1, rfl⟩ | ⟨hw_1, rfl⟩
  · exfalso; omega
  · skip
    refine iif_eqT (a := 0) (tgt := 23) hx hb (by decide) dX7_stick_11 (by decide) (by decide) ?_
    refine lv_iconst (v := (-1)) hx hb dX7_stick_23 (by decide) ?_
    refine lv_goto (tgt := 50) hx hb dX7_stick_24 (by decide) ?_
    exact W.iret (v := (-1)) hx hb hr (fun t ht hW => ⟨_, rfl, rfl, ht⟩) (fun _ h => by cases h) dX7_stick_50
