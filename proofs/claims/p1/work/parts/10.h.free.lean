set_option maxHeartbeats 4000000 in
set_option maxRecDepth 100000 in
theorem c_X6_free (l : Launch) (D : va_G) (c : Nat → ClassId) (ts : Nat × Nat) (sz : Nat) (q : Nat → Nat) (h0 : Nat) (a1 : Int32) (i_a1 : Int) (hi_a1 : a1.toInt = i_a1) : Met l yX6_free wsX6_free ({ frames := 1, cells := 0, slots := 0, locals := 20 }) (va_Pc [.ref h0, .int a1] (Pre0 D c ts [(h0, .inr (6, o6 q 0 0 0 0)), (q 15, .inl (c 3, 16, .inl (fun _ => 0)))] sz)) (va_Qi (fun (r : Int32) (u : Unit) => ((0 ≤ i_a1 ∧ i_a1 ≤ 15) ∧ r = 0) ∨ ((¬ (0 ≤ i_a1 ∧ i_a1 ≤ 15)) ∧ r = (-1))) (fun _ _ => True) (va_A [(h0, .inr (6, o6 q 0 0 0 0)), (q 15, .inl (c 3, 16, .inl (fun _ => 0)))] sz)) 0 0 (va_A [(h0, .inr (6, o6 q 0 0 0 0)), (q 15, .inl (c 3, 16, .inl (fun _ => 0)))] sz) := by
  refine Met.ofW (cc := cX6_free) (maxL := 3) (ret := (some .int)) (by decide) rfl ?_
  intro p e s m args below meth cd s₁ B hml hv
  obtain ⟨rfl, hsz, hP, hD0, hAm, hSt⟩ := hv
  have hx := B.exec
  have hb := B.bytes
  have hr := B.returns
  have hts := atoms_spec (ws := wsX6_free) B.pre
  have hown : s.vm.findClass RX6 = some m.cls := findClass_of_methodNamed B.named
  have hlocks := B.notSynchronized
  subst hsz
  have hK := hAm.1
  have hD := hD0.self (sz := s.heap.size)
  generalize hAe : va_A [(h0, .inr (6, o6 q 0 0 0 0)), (q 15, .inl (c 3, 16, .inl (fun _ => 0)))] s.heap.size = A at hD hSt ⊢
  have hA : ∀ q : Nat, s.heap.size ≤ q → A q := fun q h => by rw [← hAe]; exact Or.inr h
  have hS : va_S A s.heap s.heap [] := va_S.rf
  clear hD0 hAe
  have hl := lv_entry ([.ref h0, .int a1]) (n := 3) (Nat.le_of_ble_eq_true rfl)
  rw [lg_entry_eq]
  generalize (lg_sl ([.ref h0, .int a1]) ++ List.replicate (3 - (lg_sl ([.ref h0, .int a1])).length) Slot.unset).toArray = ls at hl ⊢
  have hl : lv_has ls 3 [(0, .ref h0), (1, .int a1)] := hl
  refine lv_iload_n hx hb dX6_free_0 rfl (lv_at hl 1 rfl) ?_
  have hPc := hP.sub (ws' := []) [] rfl
  have hDc := hD.sub (ws' := []) [] (by decide) rfl
  have hFc := va_free (wc := []) hD hS hA [] rfl
  refine va_csi (va_runS (As := [.int a1]) (rest := []) ⟨hx, hb, hml, hown, hts⟩ (c_X6_isPerson l D c ts s.heap.size a1 i_a1 hi_a1) (cwS 1 hts gX6_free_X6_isPerson rfl rfl rfl ⟨rfl, hdX6_isPerson⟩ ⟨(show 0 + 1 ≤ 1 by decide), (show 8 + (1 + 11) + 0 ≤ 20 by decide)⟩) ⟨Pre0.blind, Pre0.at hPc hDc hAm hSt hS hFc⟩ rfl rfl hl.1 rfl (lv_room (Nat.le_of_ble_eq_true rfl)) dX6_free_1 ⟨(show 0 + 0 ≤ 0 by decide), (show 0 + 0 ≤ 0 by decide)⟩) (fun r_2 hw_1 => ?_)
  rcases hw_1 with ⟨hw_1, rfl⟩ | ⟨hw_1, rfl⟩
  · skip
    refine iif_neT (a := 1) (tgt := 9) hx hb (by decide) dX6_free_4 (by decide) (by decide) ?_
    refine lv_aload_n hx hb dX6_free_9 rfl (lv_at hl 0 rfl) ?_
    refine va_get (D := D) (ci := 6) (v := .ref (q 15)) (C := RX6) (T := TX6) (N := 18) hx hb hts (fun _ h => List.mem_cons_of_mem _ (List.mem_append_right _ h)) hown hK hP 0 rfl rfl 7 (by decide) (hts (.fieldLink RX6 51 "CrownTable" "held" "[Z") (mem_i 1 rfl)) (fun _ h9 => h9) rfl dX6_free_10 ?_
    refine lv_iload_n hx hb dX6_free_13 rfl (lv_at hl 1 rfl) ?_
    refine va_zald hx hb hK hP 1 3 rfl rfl (vin (a := i_a1) hi_a1 (by omega) (by omega)) dX6_free_14 ?_
    refine lk_i (y := 0) rfl ?_
    refine iif_eqT (a := 0) (tgt := 22) hx hb (by decide) dX6_free_15 (by decide) (by decide) ?_
    refine lv_iconst (v := 0) hx hb dX6_free_22 (by decide) ?_
    refine lv_istore_n (lv' := [(2, .int 0), (0, .ref h0), (1, .int a1)]) hx hb dX6_free_23 rfl hl (by decide) rfl (fun ls hl => ?_)
    refine lv_aload_n hx hb dX6_free_24 rfl (lv_at hl 1 rfl) ?_
    refine va_get (D := D) (ci := 6) (v := .ref (q 15)) (C := RX6) (T := TX6) (N := 18) hx hb hts (fun _ h => List.mem_cons_of_mem _ (List.mem_append_right _ h)) hown hK hP 0 rfl rfl 7 (by decide) (hts (.fieldLink RX6 51 "CrownTable" "held" "[Z") (mem_i 1 rfl)) (fun _ h9 => h9) rfl dX6_free_25 ?_
    refine lv_iload_n hx hb dX6_free_28 rfl (lv_at hl 2 rfl) ?_
    refine lv_iconst (v := 0) hx hb dX6_free_29 (by decide) ?_
    refine va_zast hx hb hK hP hD hS 1 3 rfl rfl (vin (a := i_a1) hi_a1 (by omega) (by omega)) dX6_free_30 (fun H locs hP hD hS => ?_)
    obtain ⟨f_3, hP, hD⟩ : ∃ f_3 : Nat → Int32, va_P D vwCl [(h0, .inr (6, o6 q 0 0 0 0)), (q 15, .inl (c 3, 16, .inl f_3))] H ∧ va_D A [(h0, .inr (6, o6 q 0 0 0 0)), (q 15, .inl (c 3, 16, .inl f_3))] := ⟨_, hP, hD⟩
    refine lv_iload_n hx hb dX6_free_31 rfl (lv_at hl 0 rfl) ?_
    refine W.widen (k := 0) (n := 0) (by omega) (by omega) ?_
    exact W.iret (v := 0) hx hb hr (fun t ht hW => ⟨⟨_, (), rfl, Or.inl ⟨by omega, rfl⟩, trivial⟩, hS.F ht⟩) hS.2.2 dX6_free_32
  · skip
    refine iif_neF (a := 0) (tgt := 9) hx hb (by decide) dX6_free_4 (by decide) (by decide) ?_
    refine lv_iconst (v := (-1)) hx hb dX6_free_7 (by decide) ?_
    refine W.widen (k := 0) (n := 0) (by omega) (by omega) ?_
    exact W.iret (v := (-1)) hx hb hr (fun t ht hW => ⟨⟨_, (), rfl, Or.inr (⟨by omega, rfl⟩), trivial⟩, hS.F ht⟩) hS.2.2 dX6_free_8

set_option maxHeartbeats 4000000 in
set_option maxRecDepth 100000 in
theorem c_X7_free (l : Launch) (D : va_G) (c : Nat → ClassId) (ts : Nat × Nat) (sz : Nat) (q : Nat → Nat) (h0 : Nat) (a1 : Int32) (i_a1 : Int) (hi_a1 : a1.toInt = i_a1) : Met l yX7_free wsX7_free ({ frames := 2, cells := 0, slots := 0, locals := 42 }) (va_Pc [.ref h0, .int a1] (Pre0 D c ts [(h0, .inr (7, o7 q v0 w0)), (q 36, .inl (c 3, 16, .inl (fun _ => 0)))] sz)) (va_Qi (fun (r : Int32) (u : Unit) => ((0 ≤ i_a1 ∧ i_a1 ≤ 15) ∧ r = 0) ∨ ((¬ (0 ≤ i_a1 ∧ i_a1 ≤ 15)) ∧ r = (-1))) (fun _ _ => True) (va_A [(h0, .inr (7, o7 q v0 w0)), (q 36, .inl (c 3, 16, .inl (fun _ => 0)))] sz)) 0 0 (va_A [(h0, .inr (7, o7 q v0 w0)), (q 36, .inl (c 3, 16, .inl (fun _ => 0)))] sz) := by
  refine Met.ofW (cc := cX7_free) (maxL := 3) (ret := (some .int)) (by decide) rfl ?_
  intro p e s m args below meth cd s₁ B hml hv
  obtain ⟨rfl, hsz, hP, hD0, hAm, hSt⟩ := hv
  have hx := B.exec
  have hb := B.bytes
  have hr := B.returns
  have hts := atoms_spec (ws := wsX7_free) B.pre
  have hown : s.vm.findClass RX7 = some m.cls := findClass_of_methodNamed B.named
  have hlocks := B.notSynchronized
  subst hsz
  have hK := hAm.1
  have hD := hD0.self (sz := s.heap.size)
  generalize hAe : va_A [(h0, .inr (7, o7 q v0 w0)), (q 36, .inl (c 3, 16, .inl (fun _ => 0)))] s.heap.size = A at hD hSt ⊢
  have hA : ∀ q : Nat, s.heap.size ≤ q → A q := fun q h => by rw [← hAe]; exact Or.inr h
  have hS : va_S A s.heap s.heap [] := va_S.rf
  clear hD0 hAe
  have hl := lv_entry ([.ref h0, .int a1]) (n := 3) (Nat.le_of_ble_eq_true rfl)
  rw [lg_entry_eq]
  generalize (lg_sl ([.ref h0, .int a1]) ++ List.replicate (3 - (lg_sl ([.ref h0, .int a1])).length) Slot.unset).toArray = ls at hl ⊢
  have hl : lv_has ls 3 [(0, .ref h0), (1, .int a1)] := hl
  refine lv_iload_n hx hb dX7_free_0 rfl (lv_at hl 1 rfl) ?_
  have hPc := hP.sub (ws' := []) [] rfl
  have hDc := hD.sub (ws' := []) [] (by decide) rfl
  have hFc := va_free (wc := []) hD hS hA [] rfl
  refine va_csi (va_runS (As := [.int a1]) (rest := []) ⟨hx, hb, hml, hown, hts⟩ (c_X7_isPerson l D c ts s.heap.size a1 i_a1 hi_a1) (cwS 1 hts gX7_free_X7_isPerson rfl rfl rfl ⟨rfl, hdX7_isPerson⟩ ⟨(show 1 + 1 ≤ 2 by decide), (show 8 + (1 + 11) + 22 ≤ 42 by decide)⟩) ⟨Pre0.blind, Pre0.at hPc hDc hAm hSt hS hFc⟩ rfl rfl hl.1 rfl (lv_room (Nat.le_of_ble_eq_true rfl)) dX7_free_1 ⟨(show 0 + 0 ≤ 0 by decide), (show 0 + 0 ≤ 0 by decide)⟩) (fun r_2 hw_1 => ?_)
  rcases hw_1 with ⟨hw_1, rfl⟩ | ⟨hw_1, rfl⟩
  · skip
    refine iif_neT (a := 1) (tgt := 9) hx hb (by decide) dX7_free_4 (by decide) (by decide) ?_
    refine lv_aload_n hx hb dX7_free_9 rfl (lv_at hl 0 rfl) ?_
    refine va_get (D := D) (ci := 7) (v := .ref (q 36)) (C := RX7) (T := TX7) (N := 56) hx hb hts (fun _ h => List.mem_cons_of_mem _ (List.mem_append_right _ h)) hown hK hP 0 rfl rfl 36 (by decide) (hts (.fieldLink RX7 75 "CrownTableModel" "held" "[Z") (mem_i 1 rfl)) (fun _ h9 => h9) rfl dX7_free_10 ?_
    refine lv_iload_n hx hb dX7_free_13 rfl (lv_at hl 1 rfl) ?_
    refine va_zald hx hb hK hP 1 3 rfl rfl (vin (a := i_a1) hi_a1 (by omega) (by omega)) dX7_free_14 ?_
    refine lk_i (y := 0) rfl ?_
    refine iif_eqT (a := 0) (tgt := 22) hx hb (by decide) dX7_free_15 (by decide) (by decide) ?_
    refine lv_iconst (v := 0) hx hb dX7_free_22 (by decide) ?_
    refine lv_istore_n (lv' := [(2, .int 0), (0, .ref h0), (1, .int a1)]) hx hb dX7_free_23 rfl hl (by decide) rfl (fun ls hl => ?_)
    refine lv_aload_n hx hb dX7_free_24 rfl (lv_at hl 1 rfl) ?_
    refine va_get (D := D) (ci := 7) (v := .ref (q 36)) (C := RX7) (T := TX7) (N := 56) hx hb hts (fun _ h => List.mem_cons_of_mem _ (List.mem_append_right _ h)) hown hK hP 0 rfl rfl 36 (by decide) (hts (.fieldLink RX7 75 "CrownTableModel" "held" "[Z") (mem_i 1 rfl)) (fun _ h9 => h9) rfl dX7_free_25 ?_
    refine lv_iload_n hx hb dX7_free_28 rfl (lv_at hl 2 rfl) ?_
    refine lv_iconst (v := 0) hx hb dX7_free_29 (by decide) ?_
    refine va_zast hx hb hK hP hD hS 1 3 rfl rfl (vin (a := i_a1) hi_a1 (by omega) (by omega)) dX7_free_30 (fun H locs hP hD hS => ?_)
    obtain ⟨f_3, hP, hD⟩ : ∃ f_3 : Nat → Int32, va_P D vwCl [(h0, .inr (7, o7 q v0 w0)), (q 36, .inl (c 3, 16, .inl f_3))] H ∧ va_D A [(h0, .inr (7, o7 q v0 w0)), (q 36, .inl (c 3, 16, .inl f_3))] := ⟨_, hP, hD⟩
    refine lv_iload_n hx hb dX7_free_31 rfl (lv_at hl 0 rfl) ?_
    refine W.widen (k := 0) (n := 0) (by omega) (by omega) ?_
    exact W.iret (v := 0) hx hb hr (fun t ht hW => ⟨⟨_, (), rfl, Or.inl ⟨by omega, rfl⟩, trivial⟩, hS.F ht⟩) hS.2.2 dX7_free_32
  · skip
    refine iif_neF (a := 0) (tgt := 9) hx hb (by decide) dX7_free_4 (by decide) (by decide) ?_
    refine lv_iconst (v := (-1)) hx hb dX7_free_7 (by decide) ?_
    refine W.widen (k := 0) (n := 0) (by omega) (by omega) ?_
    exact W.iret (v := (-1)) hx hb hr (fun t ht hW => ⟨⟨_, (), rfl, Or.inr (⟨by omega, rfl⟩), trivial⟩, hS.F ht⟩) hS.2.2 dX7_free_8
