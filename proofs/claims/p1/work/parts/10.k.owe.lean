set_option maxHeartbeats 4000000 in
set_option maxRecDepth 100000 in
theorem c_X6_leftOf (l : Launch) (D : va_G) (c : Nat → ClassId) (ts : Nat × Nat) (sz : Nat) (q : Nat → Nat) (h0 : Nat) (a1 : Int32) (i_a1 : Int) (hi_a1 : a1.toInt = i_a1) : Met l yX6_leftOf wsX6_leftOf ({ frames := 0, cells := 0, slots := 0, locals := 0 }) (va_Pc [.ref h0, .int a1] (Pre0 D c ts [(h0, .inr (6, o6 q 0 0 0 0)), (q 19, .inr (2, [.int 7, .int 400, .ref (q 20), .int 0]))] sz)) (vp_Sl (fun r : Int64 => r = 0)) 0 0 (fun _ => False) := by
  refine Met.ofW (cc := cX6_leftOf) (maxL := 5) (ret := (some .long)) (by decide) rfl ?_
  intro p e s m args below meth cd s₁ B hml hv
  obtain ⟨rfl, hsz, hP, hD0, hAm, hSt⟩ := hv
  have hx := B.exec
  have hb := B.bytes
  have hr := B.returns
  have hts := atoms_spec (ws := wsX6_leftOf) B.pre
  have hown : s.vm.findClass RX6 = some m.cls := findClass_of_methodNamed B.named
  have hlocks := B.notSynchronized
  subst hsz
  have hK := hAm.1
  have hD := hD0.self (sz := s.heap.size)
  generalize hAe : va_A [(h0, .inr (6, o6 q 0 0 0 0)), (q 19, .inr (2, [.int 7, .int 400, .ref (q 20), .int 0]))] s.heap.size = A at hD hSt
  have hA : ∀ q : Nat, s.heap.size ≤ q → A q := fun q h => by rw [← hAe]; exact Or.inr h
  have hS : va_S A s.heap s.heap [] := va_S.rf
  clear hD0 hAe
  have hl := lv_entry ([.ref h0, .int a1]) (n := 5) (Nat.le_of_ble_eq_true rfl)
  rw [lg_entry_eq]
  generalize (lg_sl ([.ref h0, .int a1]) ++ List.replicate (5 - (lg_sl ([.ref h0, .int a1])).length) Slot.unset).toArray = ls at hl ⊢
  have hl : lv_has ls 5 [(0, .ref h0), (1, .int a1)] := hl
  refine lv_lconst (v := 0) hx hb dX6_leftOf_0 (by decide) ?_
  refine lv_lstore_n (lv' := [(2, .long 0), (0, .ref h0), (1, .int a1)]) hx hb dX6_leftOf_1 rfl hl (by decide) rfl (fun ls hl => ?_)
  refine lv_iconst (v := 0) hx hb dX6_leftOf_2 (by decide) ?_
  refine lv_istore (lv' := [(4, .int 0), (2, .long 0), (0, .ref h0), (1, .int a1)]) hx hb dX6_leftOf_3 hl (by decide) rfl (fun ls hl => ?_)
  refine lv_iload hx hb dX6_leftOf_5 (lv_at hl 0 rfl) ?_
  refine lv_aload_n hx hb dX6_leftOf_7 rfl (lv_at hl 2 rfl) ?_
  refine va_get (D := D) (ci := 6) (v := .ref (q 19)) (C := RX6) (T := TX6) (N := 18) hx hb hts (fun _ h => List.mem_cons_of_mem _ (List.mem_append_left _ (List.mem_append_right _ h))) hown hK hP 0 rfl rfl 11 (by decide) (hts (.fieldLink RX6 65 "CrownTable" "debts" "LCrownTable$Rows;") (mem_i 1 rfl)) (fun _ h9 => h9) rfl dX6_leftOf_8 ?_
  refine va_getN (D := D) (ci := 2) (v := .int 0) (own := RX6) (ref := "CrownTable$Rows") (host := RX6) (index := 155) (C := RX2) (T := TX2) (N := 4) hx hb hts (fun _ h => List.mem_cons_of_mem _ (List.mem_append_right _ h)) hown hK hP 1 rfl rfl 3 (by decide) (show (Cond.fieldLinkNest RX6 155 "CrownTable$Rows" "size" "I" RX6).before _ _ = true from va_Nw.use rfl (hAm.2.1.2 (RX6, 155, "CrownTable$Rows", "size", "I", RX6) (mem_i 3 rfl))) (fun _ h9 => h9) rfl dX6_leftOf_11 ?_
  refine iicmp_geT (a := 0) (b := 0) (tgt := 47) hx hb (by decide) (by decide) dX6_leftOf_14 (by decide) (by decide) ?_
  refine lv_lload_n hx hb dX6_leftOf_47 rfl (lv_at hl 1 rfl) ?_
  exact W.lret (v := 0) hx hb hr (fun t ht hW => ⟨_, rfl, rfl, ht⟩) (fun _ h => by cases h) dX6_leftOf_48

set_option maxHeartbeats 4000000 in
set_option maxRecDepth 100000 in
theorem c_X6_owedDebtsOf (l : Launch) (D : va_G) (c : Nat → ClassId) (ts : Nat × Nat) (sz : Nat) (q : Nat → Nat) (h0 : Nat) (a1 : Int32) (i_a1 : Int) (hi_a1 : a1.toInt = i_a1) : Met l yX6_owedDebtsOf wsX6_owedDebtsOf ({ frames := 0, cells := 0, slots := 0, locals := 0 }) (va_Pc [.ref h0, .int a1] (Pre0 D c ts [(h0, .inr (6, o6 q 0 0 0 0)), (q 19, .inr (2, [.int 7, .int 400, .ref (q 20), .int 0]))] sz)) (vp_Si (fun r : Int32 => r = 0)) 0 0 (fun _ => False) := by
  refine Met.ofW (cc := cX6_owedDebtsOf) (maxL := 4) (ret := (some .int)) (by decide) rfl ?_
  intro p e s m args below meth cd s₁ B hml hv
  obtain ⟨rfl, hsz, hP, hD0, hAm, hSt⟩ := hv
  have hx := B.exec
  have hb := B.bytes
  have hr := B.returns
  have hts := atoms_spec (ws := wsX6_owedDebtsOf) B.pre
  have hown : s.vm.findClass RX6 = some m.cls := findClass_of_methodNamed B.named
  have hlocks := B.notSynchronized
  subst hsz
  have hK := hAm.1
  have hD := hD0.self (sz := s.heap.size)
  generalize hAe : va_A [(h0, .inr (6, o6 q 0 0 0 0)), (q 19, .inr (2, [.int 7, .int 400, .ref (q 20), .int 0]))] s.heap.size = A at hD hSt
  have hA : ∀ q : Nat, s.heap.size ≤ q → A q := fun q h => by rw [← hAe]; exact Or.inr h
  have hS : va_S A s.heap s.heap [] := va_S.rf
  clear hD0 hAe
  have hl := lv_entry ([.ref h0, .int a1]) (n := 4) (Nat.le_of_ble_eq_true rfl)
  rw [lg_entry_eq]
  generalize (lg_sl ([.ref h0, .int a1]) ++ List.replicate (4 - (lg_sl ([.ref h0, .int a1])).length) Slot.unset).toArray = ls at hl ⊢
  have hl : lv_has ls 4 [(0, .ref h0), (1, .int a1)] := hl
  refine lv_iconst (v := 0) hx hb dX6_owedDebtsOf_0 (by decide) ?_
  refine lv_istore_n (lv' := [(2, .int 0), (0, .ref h0), (1, .int a1)]) hx hb dX6_owedDebtsOf_1 rfl hl (by decide) rfl (fun ls hl => ?_)
  refine lv_iconst (v := 0) hx hb dX6_owedDebtsOf_2 (by decide) ?_
  refine lv_istore_n (lv' := [(3, .int 0), (2, .int 0), (0, .ref h0), (1, .int a1)]) hx hb dX6_owedDebtsOf_3 rfl hl (by decide) rfl (fun ls hl => ?_)
  refine lv_iload_n hx hb dX6_owedDebtsOf_4 rfl (lv_at hl 0 rfl) ?_
  refine lv_aload_n hx hb dX6_owedDebtsOf_5 rfl (lv_at hl 2 rfl) ?_
  refine va_get (D := D) (ci := 6) (v := .ref (q 19)) (C := RX6) (T := TX6) (N := 18) hx hb hts (fun _ h => List.mem_cons_of_mem _ (List.mem_append_left _ (List.mem_append_right _ h))) hown hK hP 0 rfl rfl 11 (by decide) (hts (.fieldLink RX6 65 "CrownTable" "debts" "LCrownTable$Rows;") (mem_i 1 rfl)) (fun _ h9 => h9) rfl dX6_owedDebtsOf_6 ?_
  refine va_getN (D := D) (ci := 2) (v := .int 0) (own := RX6) (ref := "CrownTable$Rows") (host := RX6) (index := 155) (C := RX2) (T := TX2) (N := 4) hx hb hts (fun _ h => List.mem_cons_of_mem _ (List.mem_append_right _ h)) hown hK hP 1 rfl rfl 3 (by decide) (show (Cond.fieldLinkNest RX6 155 "CrownTable$Rows" "size" "I" RX6).before _ _ = true from va_Nw.use rfl (hAm.2.1.2 (RX6, 155, "CrownTable$Rows", "size", "I", RX6) (mem_i 3 rfl))) (fun _ h9 => h9) rfl dX6_owedDebtsOf_9 ?_
  refine iicmp_geT (a := 0) (b := 0) (tgt := 33) hx hb (by decide) (by decide) dX6_owedDebtsOf_12 (by decide) (by decide) ?_
  refine lv_iload_n hx hb dX6_owedDebtsOf_33 rfl (lv_at hl 1 rfl) ?_
  exact W.iret (v := 0) hx hb hr (fun t ht hW => ⟨_, rfl, rfl, ht⟩) (fun _ h => by cases h) dX6_owedDebtsOf_34

set_option maxHeartbeats 4000000 in
set_option maxRecDepth 100000 in
theorem c_X6_owe (l : Launch) (D : va_G) (c : Nat → ClassId) (ts : Nat × Nat) (sz : Nat) (q : Nat → Nat) (h0 : Nat) (a1 : Int32) (i_a1 : Int) (hi_a1 : a1.toInt = i_a1) (a2 : Int32) (i_a2 : Int) (hi_a2 : a2.toInt = i_a2) : Met l yX6_owe wsX6_owe ({ frames := 1, cells := 0, slots := 0, locals := 24 }) (va_Pc [.ref h0, .int a1, .int a2] (Pre0 D c ts [(h0, .inr (6, o6 q 0 0 0 0)), (q 14, .inl (c 2, 16, .inr (.inl (fun _ => 0)))), (q 15, .inl (c 3, 16, .inl (fun _ => 0))), (q 16, .inl (c 1, 16, .inl (fun _ => (-1)))), (q 19, .inr (2, [.int 7, .int 400, .ref (q 20), .int 0]))] sz)) (vp_Sl (fun r : Int64 => ((0 ≤ i_a1 ∧ i_a1 ≤ 15 ∧ 0 ≤ i_a2 ∧ i_a2 ≤ 4) ∧ r = 0) ∨ ((¬ (0 ≤ i_a1 ∧ i_a1 ≤ 15 ∧ 0 ≤ i_a2 ∧ i_a2 ≤ 4)) ∧ r = (-1)))) 0 0 (fun _ => False) := by
  refine Met.ofW (cc := cX6_owe) (maxL := 3) (ret := (some .long)) (by decide) rfl ?_
  intro p e s m args below meth cd s₁ B hml hv
  obtain ⟨rfl, hsz, hP, hD0, hAm, hSt⟩ := hv
  have hx := B.exec
  have hb := B.bytes
  have hr := B.returns
  have hts := atoms_spec (ws := wsX6_owe) B.pre
  have hown : s.vm.findClass RX6 = some m.cls := findClass_of_methodNamed B.named
  have hlocks := B.notSynchronized
  subst hsz
  have hK := hAm.1
  have hD := hD0.self (sz := s.heap.size)
  generalize hAe : va_A [(h0, .inr (6, o6 q 0 0 0 0)), (q 14, .inl (c 2, 16, .inr (.inl (fun _ => 0)))), (q 15, .inl (c 3, 16, .inl (fun _ => 0))), (q 16, .inl (c 1, 16, .inl (fun _ => (-1)))), (q 19, .inr (2, [.int 7, .int 400, .ref (q 20), .int 0]))] s.heap.size = A at hD hSt
  have hA : ∀ q : Nat, s.heap.size ≤ q → A q := fun q h => by rw [← hAe]; exact Or.inr h
  have hS : va_S A s.heap s.heap [] := va_S.rf
  clear hD0 hAe
  have hl := lv_entry ([.ref h0, .int a1, .int a2]) (n := 3) (Nat.le_of_ble_eq_true rfl)
  rw [lg_entry_eq]
  generalize (lg_sl ([.ref h0, .int a1, .int a2]) ++ List.replicate (3 - (lg_sl ([.ref h0, .int a1, .int a2])).length) Slot.unset).toArray = ls at hl ⊢
  have hl : lv_has ls 3 [(0, .ref h0), (1, .int a1), (2, .int a2)] := hl
  refine lv_iload_n hx hb dX6_owe_0 rfl (lv_at hl 1 rfl) ?_
  have hPc := hP.sub (ws' := []) [] rfl
  have hDc := hD.sub (ws' := []) [] (by decide) rfl
  have hFc := va_free (wc := []) hD hS hA [] rfl
  refine va_csi (va_runS (As := [.int a1]) (rest := []) ⟨hx, hb, hml, hown, hts⟩ (c_X6_isPerson l D c ts s.heap.size a1 i_a1 hi_a1) (cwS 1 hts gX6_owe_X6_isPerson rfl rfl rfl ⟨rfl, hdX6_isPerson⟩ ⟨(show 0 + 1 ≤ 1 by decide), (show 8 + (1 + 11) + 0 ≤ 24 by decide)⟩) ⟨Pre0.blind, Pre0.at hPc hDc hAm hSt hS hFc⟩ rfl rfl hl.1 rfl (lv_room (Nat.le_of_ble_eq_true rfl)) dX6_owe_1 ⟨(show 0 + 0 ≤ 0 by decide), (show 0 + 0 ≤ 0 by decide)⟩) (fun r_2 hw_1 => ?_)
  rcases hw_1 with ⟨hw_1, rfl⟩ | ⟨hw_1, rfl⟩
  · skip
    refine iif_neT (a := 1) (tgt := 11) hx hb (by decide) dX6_owe_4 (by decide) (by decide) ?_
    refine lv_iload_n hx hb dX6_owe_11 rfl (lv_at hl 2 rfl) ?_
    by_cases k_3 : i_a2 = 0
    · have ek_3 : a2.toInt = 0 := hi_a2.trans k_3
      refine lv_tableIn (tgt := 48) hx hb dX6_owe_12 (by rw [ek_3]; decide) (by rw [ek_3]; decide) (by rw [ek_3]; rfl) (by decide) ?_
      refine lv_aload_n hx hb dX6_owe_48 rfl (lv_at hl 0 rfl) ?_
      refine lv_iload_n hx hb dX6_owe_49 rfl (lv_at hl 1 rfl) ?_
      have hPc := hP.sub (ws' := [(h0, .inr (6, o6 q 0 0 0 0)), (q 19, .inr (2, [.int 7, .int 400, .ref (q 20), .int 0]))]) [0, 4] rfl
      have hDc := hD.sub (ws' := [(h0, .inr (6, o6 q 0 0 0 0)), (q 19, .inr (2, [.int 7, .int 400, .ref (q 20), .int 0]))]) [0, 4] (by decide) rfl
      have hFc := va_free (wc := [(h0, .inr (6, o6 q 0 0 0 0)), (q 19, .inr (2, [.int 7, .int 400, .ref (q 20), .int 0]))]) hD hS hA [0, 4] rfl
      refine va_csl (va_runV (As := [.int a1]) (rest := []) ⟨hx, hb, hml, hown, hts⟩ (c_X6_leftOf l D c ts s.heap.size q h0 a1 i_a1 hi_a1) (cwV 1 hts gX6_owe_X6_leftOf rfl rfl rfl ⟨rfl, hdX6_leftOf⟩ ⟨(show 0 + 1 ≤ 1 by decide), (show 8 + (5 + 11) + 0 ≤ 24 by decide)⟩) ⟨Pre0.blind, va_recv hK hPc (ci := 6) (q0 := 0) rfl rfl, Pre0.at hPc hDc hAm hSt hS hFc⟩ rfl rfl hl.1 rfl (lv_room (Nat.le_of_ble_eq_true rfl)) dX6_owe_50 ⟨(show 0 + 0 ≤ 0 by decide), (show 0 + 0 ≤ 0 by decide)⟩) (fun r_5 hw_4 => ?_)
      refine lk_l (y := 0) hw_4 ?_
      exact W.lret (v := 0) hx hb hr (fun t ht hW => ⟨_, rfl, Or.inl ⟨by omega, rfl⟩, ht⟩) (fun _ h => by cases h) dX6_owe_53
    by_cases k_6 : i_a2 = 1
    · have ek_6 : a2.toInt = 1 := hi_a2.trans k_6
      refine lv_tableIn (tgt := 54) hx hb dX6_owe_12 (by rw [ek_6]; decide) (by rw [ek_6]; decide) (by rw [ek_6]; rfl) (by decide) ?_
      refine lv_aload_n hx hb dX6_owe_54 rfl (lv_at hl 0 rfl) ?_
      refine va_get (D := D) (ci := 6) (v := .ref (q 14)) (C := RX6) (T := TX6) (N := 18) hx hb hts (fun _ h => List.mem_cons_of_mem _ (List.mem_append_left _ (List.mem_append_right _ h))) hown hK hP 0 rfl rfl 6 (by decide) (hts (.fieldLink RX6 47 "CrownTable" "credits" "[J") (mem_i 2 rfl)) (fun _ h9 => h9) rfl dX6_owe_55 ?_
      refine lv_iload_n hx hb dX6_owe_58 rfl (lv_at hl 1 rfl) ?_
      refine va_lald hx hb hK hP 1 2 rfl rfl (vin (a := i_a1) hi_a1 (by omega) (by omega)) dX6_owe_59 ?_
      refine lk_l (y := 0) rfl ?_
      exact W.lret (v := 0) hx hb hr (fun t ht hW => ⟨_, rfl, Or.inl ⟨by omega, rfl⟩, ht⟩) (fun _ h => by cases h) dX6_owe_60
    by_cases k_7 : i_a2 = 2
    · have ek_7 : a2.toInt = 2 := hi_a2.trans k_7
      refine lv_tableIn (tgt := 61) hx hb dX6_owe_12 (by rw [ek_7]; decide) (by rw [ek_7]; decide) (by rw [ek_7]; rfl) (by decide) ?_
      refine lv_aload_n hx hb dX6_owe_61 rfl (lv_at hl 0 rfl) ?_
      refine va_get (D := D) (ci := 6) (v := .ref (q 15)) (C := RX6) (T := TX6) (N := 18) hx hb hts (fun _ h => List.mem_cons_of_mem _ (List.mem_append_left _ (List.mem_append_right _ h))) hown hK hP 0 rfl rfl 7 (by decide) (hts (.fieldLink RX6 51 "CrownTable" "held" "[Z") (mem_i 3 rfl)) (fun _ h9 => h9) rfl dX6_owe_62 ?_
      refine lv_iload_n hx hb dX6_owe_65 rfl (lv_at hl 1 rfl) ?_
      refine va_zald hx hb hK hP 2 3 rfl rfl (vin (a := i_a1) hi_a1 (by omega) (by omega)) dX6_owe_66 ?_
      refine lk_i (y := 0) rfl ?_
      refine iif_eqT (a := 0) (tgt := 74) hx hb (by decide) dX6_owe_67 (by decide) (by decide) ?_
      refine lv_lconst (v := 0) hx hb dX6_owe_74 (by decide) ?_
      exact W.lret (v := 0) hx hb hr (fun t ht hW => ⟨_, rfl, Or.inl ⟨by omega, rfl⟩, ht⟩) (fun _ h => by cases h) dX6_owe_75
    by_cases k_8 : i_a2 = 3
    · have ek_8 : a2.toInt = 3 := hi_a2.trans k_8
      refine lv_tableIn (tgt := 76) hx hb dX6_owe_12 (by rw [ek_8]; decide) (by rw [ek_8]; decide) (by rw [ek_8]; rfl) (by decide) ?_
      refine lv_aload_n hx hb dX6_owe_76 rfl (lv_at hl 0 rfl) ?_
      refine lv_iload_n hx hb dX6_owe_77 rfl (lv_at hl 1 rfl) ?_
      have hPc := hP.sub (ws' := [(h0, .inr (6, o6 q 0 0 0 0)), (q 19, .inr (2, [.int 7, .int 400, .ref (q 20), .int 0]))]) [0, 4] rfl
      have hDc := hD.sub (ws' := [(h0, .inr (6, o6 q 0 0 0 0)), (q 19, .inr (2, [.int 7, .int 400, .ref (q 20), .int 0]))]) [0, 4] (by decide) rfl
      have hFc := va_free (wc := [(h0, .inr (6, o6 q 0 0 0 0)), (q 19, .inr (2, [.int 7, .int 400, .ref (q 20), .int 0]))]) hD hS hA [0, 4] rfl
      refine va_csi (va_runV (As := [.int a1]) (rest := []) ⟨hx, hb, hml, hown, hts⟩ (c_X6_owedDebtsOf l D c ts s.heap.size q h0 a1 i_a1 hi_a1) (cwV 1 hts gX6_owe_X6_owedDebtsOf rfl rfl rfl ⟨rfl, hdX6_owedDebtsOf⟩ ⟨(show 0 + 1 ≤ 1 by decide), (show 8 + (4 + 11) + 0 ≤ 24 by decide)⟩) ⟨Pre0.blind, va_recv hK hPc (ci := 6) (q0 := 0) rfl rfl, Pre0.at hPc hDc hAm hSt hS hFc⟩ rfl rfl hl.1 rfl (lv_room (Nat.le_of_ble_eq_true rfl)) dX6_owe_78 ⟨(show 0 + 0 ≤ 0 by decide), (show 0 + 0 ≤ 0 by decide)⟩) (fun r_10 hw_9 => ?_)
      refine lk_i (y := 0) hw_9 ?_
      refine lv_i2l (v := 0) hx hb dX6_owe_81 (by decide) ?_
      exact W.lret (v := 0) hx hb hr (fun t ht hW => ⟨_, rfl, Or.inl ⟨by omega, rfl⟩, ht⟩) (fun _ h => by cases h) dX6_owe_82
    by_cases k_11 : i_a2 = 4
    · have ek_11 : a2.toInt = 4 := hi_a2.trans k_11
      refine lv_tableIn (tgt := 83) hx hb dX6_owe_12 (by rw [ek_11]; decide) (by rw [ek_11]; decide) (by rw [ek_11]; rfl) (by decide) ?_
      refine lv_aload_n hx hb dX6_owe_83 rfl (lv_at hl 0 rfl) ?_
      refine va_get (D := D) (ci := 6) (v := .ref (q 16)) (C := RX6) (T := TX6) (N := 18) hx hb hts (fun _ h => List.mem_cons_of_mem _ (List.mem_append_left _ (List.mem_append_right _ h))) hown hK hP 0 rfl rfl 8 (by decide) (hts (.fieldLink RX6 55 "CrownTable" "cameAt" "[I") (mem_i 4 rfl)) (fun _ h9 => h9) rfl dX6_owe_84 ?_
      refine lv_iload_n hx hb dX6_owe_87 rfl (lv_at hl 1 rfl) ?_
      refine va_iald hx hb hK hP 3 1 rfl rfl (vin (a := i_a1) hi_a1 (by omega) (by omega)) dX6_owe_88 ?_
      refine lk_i (y := (-1)) rfl ?_
      refine lv_aload_n hx hb dX6_owe_89 rfl (lv_at hl 0 rfl) ?_
      refine va_get (D := D) (ci := 6) (v := .int 0) (C := RX6) (T := TX6) (N := 18) hx hb hts (fun _ h => List.mem_cons_of_mem _ (List.mem_append_left _ (List.mem_append_right _ h))) hown hK hP 0 rfl rfl 15 (by decide) (hts (.fieldLink RX6 120 "CrownTable" "now" "I") (mem_i 5 rfl)) (fun _ h9 => h9) rfl dX6_owe_90 ?_
      refine iicmp_neT (a := (-1)) (b := 0) (tgt := 100) hx hb (by decide) (by decide) dX6_owe_93 (by decide) (by decide) ?_
      refine lv_lconst (v := 0) hx hb dX6_owe_100 (by decide) ?_
      exact W.lret (v := 0) hx hb hr (fun t ht hW => ⟨_, rfl, Or.inl ⟨by omega, rfl⟩, ht⟩) (fun _ h => by cases h) dX6_owe_101
    refine lv_tableOut (tgt := 102) hx hb dX6_owe_12 (by rw [hi_a2]; omega) (by decide) ?_
    refine lv_ldc2 (v := (-1)) hx hb hown (hts (.constantLong RX6 205 (-1)) (mem_i 1 rfl)) dX6_owe_102 ?_
    exact W.lret (v := (-1)) hx hb hr (fun t ht hW => ⟨_, rfl, Or.inr (⟨by omega, rfl⟩), ht⟩) (fun _ h => by cases h) dX6_owe_105
  · skip
    refine iif_neF (a := 0) (tgt := 11) hx hb (by decide) dX6_owe_4 (by decide) (by decide) ?_
    refine lv_ldc2 (v := (-1)) hx hb hown (hts (.constantLong RX6 205 (-1)) (mem_i 1 rfl)) dX6_owe_7 ?_
    exact W.lret (v := (-1)) hx hb hr (fun t ht hW => ⟨_, rfl, Or.inr (⟨by omega, rfl⟩), ht⟩) (fun _ h => by cases h) dX6_owe_10

set_option maxHeartbeats 4000000 in
set_option maxRecDepth 100000 in
theorem c_X7_allOf (l : Launch) (D : va_G) (c : Nat → ClassId) (ts : Nat × Nat) (sz : Nat) (q : Nat → Nat) (h0 : Nat) (a1 : Int32) (i_a1 : Int) (hi_a1 : a1.toInt = i_a1) : Met l yX7_allOf wsX7_allOf ({ frames := 0, cells := 0, slots := 0, locals := 0 }) (va_Pc [.ref h0, .int a1] (Pre0 D c ts [(h0, .inr (7, o7 q v0 w0))] sz)) (vp_Sl (fun r : Int64 => r = 0)) 0 0 (fun _ => False) := by
  refine Met.ofW (cc := cX7_allOf) (maxL := 5) (ret := (some .long)) (by decide) rfl ?_
  intro p e s m args below meth cd s₁ B hml hv
  obtain ⟨rfl, hsz, hP, hD0, hAm, hSt⟩ := hv
  have hx := B.exec
  have hb := B.bytes
  have hr := B.returns
  have hts := atoms_spec (ws := wsX7_allOf) B.pre
  have hown : s.vm.findClass RX7 = some m.cls := findClass_of_methodNamed B.named
  have hlocks := B.notSynchronized
  subst hsz
  have hK := hAm.1
  have hD := hD0.self (sz := s.heap.size)
  generalize hAe : va_A [(h0, .inr (7, o7 q v0 w0))] s.heap.size = A at hD hSt
  have hA : ∀ q : Nat, s.heap.size ≤ q → A q := fun q h => by rw [← hAe]; exact Or.inr h
  have hS : va_S A s.heap s.heap [] := va_S.rf
  clear hD0 hAe
  have hl := lv_entry ([.ref h0, .int a1]) (n := 5) (Nat.le_of_ble_eq_true rfl)
  rw [lg_entry_eq]
  generalize (lg_sl ([.ref h0, .int a1]) ++ List.replicate (5 - (lg_sl ([.ref h0, .int a1])).length) Slot.unset).toArray = ls at hl ⊢
  have hl : lv_has ls 5 [(0, .ref h0), (1, .int a1)] := hl
  refine lv_lconst (v := 0) hx hb dX7_allOf_0 (by decide) ?_
  refine lv_lstore_n (lv' := [(2, .long 0), (0, .ref h0), (1, .int a1)]) hx hb dX7_allOf_1 rfl hl (by decide) rfl (fun ls hl => ?_)
  refine lv_iconst (v := 0) hx hb dX7_allOf_2 (by decide) ?_
  refine lv_istore (lv' := [(4, .int 0), (2, .long 0), (0, .ref h0), (1, .int a1)]) hx hb dX7_allOf_3 hl (by decide) rfl (fun ls hl => ?_)
  refine lv_iload hx hb dX7_allOf_5 (lv_at hl 0 rfl) ?_
  refine lv_aload_n hx hb dX7_allOf_7 rfl (lv_at hl 2 rfl) ?_
  refine va_get (D := D) (ci := 7) (v := .int 0) (C := RX7) (T := TX7) (N := 56) hx hb hts (fun _ h => List.mem_cons_of_mem _ (List.mem_append_right _ h)) hown hK hP 0 rfl rfl 27 (by decide) (hts (.fieldLink RX7 277 "CrownTableModel" "debts" "I") (mem_i 1 rfl)) (fun _ h9 => h9) rfl dX7_allOf_8 ?_
  refine iicmp_geT (a := 0) (b := 0) (tgt := 46) hx hb (by decide) (by decide) dX7_allOf_11 (by decide) (by decide) ?_
  refine lv_lload_n hx hb dX7_allOf_46 rfl (lv_at hl 1 rfl) ?_
  exact W.lret (v := 0) hx hb hr (fun t ht hW => ⟨_, rfl, rfl, ht⟩) (fun _ h => by cases h) dX7_allOf_47

set_option maxHeartbeats 4000000 in
set_option maxRecDepth 100000 in
theorem c_X7_owedOf (l : Launch) (D : va_G) (c : Nat → ClassId) (ts : Nat × Nat) (sz : Nat) (q : Nat → Nat) (h0 : Nat) (a1 : Int32) (i_a1 : Int) (hi_a1 : a1.toInt = i_a1) : Met l yX7_owedOf wsX7_owedOf ({ frames := 0, cells := 0, slots := 0, locals := 0 }) (va_Pc [.ref h0, .int a1] (Pre0 D c ts [(h0, .inr (7, o7 q v0 w0))] sz)) (vp_Si (fun r : Int32 => r = 0)) 0 0 (fun _ => False) := by
  refine Met.ofW (cc := cX7_owedOf) (maxL := 4) (ret := (some .int)) (by decide) rfl ?_
  intro p e s m args below meth cd s₁ B hml hv
  obtain ⟨rfl, hsz, hP, hD0, hAm, hSt⟩ := hv
  have hx := B.exec
  have hb := B.bytes
  have hr := B.returns
  have hts := atoms_spec (ws := wsX7_owedOf) B.pre
  have hown : s.vm.findClass RX7 = some m.cls := findClass_of_methodNamed B.named
  have hlocks := B.notSynchronized
  subst hsz
  have hK := hAm.1
  have hD := hD0.self (sz := s.heap.size)
  generalize hAe : va_A [(h0, .inr (7, o7 q v0 w0))] s.heap.size = A at hD hSt
  have hA : ∀ q : Nat, s.heap.size ≤ q → A q := fun q h => by rw [← hAe]; exact Or.inr h
  have hS : va_S A s.heap s.heap [] := va_S.rf
  clear hD0 hAe
  have hl := lv_entry ([.ref h0, .int a1]) (n := 4) (Nat.le_of_ble_eq_true rfl)
  rw [lg_entry_eq]
  generalize (lg_sl ([.ref h0, .int a1]) ++ List.replicate (4 - (lg_sl ([.ref h0, .int a1])).length) Slot.unset).toArray = ls at hl ⊢
  have hl : lv_has ls 4 [(0, .ref h0), (1, .int a1)] := hl
  refine lv_iconst (v := 0) hx hb dX7_owedOf_0 (by decide) ?_
  refine lv_istore_n (lv' := [(2, .int 0), (0, .ref h0), (1, .int a1)]) hx hb dX7_owedOf_1 rfl hl (by decide) rfl (fun ls hl => ?_)
  refine lv_iconst (v := 0) hx hb dX7_owedOf_2 (by decide) ?_
  refine lv_istore_n (lv' := [(3, .int 0), (2, .int 0), (0, .ref h0), (1, .int a1)]) hx hb dX7_owedOf_3 rfl hl (by decide) rfl (fun ls hl => ?_)
  refine lv_iload_n hx hb dX7_owedOf_4 rfl (lv_at hl 0 rfl) ?_
  refine lv_aload_n hx hb dX7_owedOf_5 rfl (lv_at hl 2 rfl) ?_
  refine va_get (D := D) (ci := 7) (v := .int 0) (C := RX7) (T := TX7) (N := 56) hx hb hts (fun _ h => List.mem_cons_of_mem _ (List.mem_append_right _ h)) hown hK hP 0 rfl rfl 27 (by decide) (hts (.fieldLink RX7 277 "CrownTableModel" "debts" "I") (mem_i 1 rfl)) (fun _ h9 => h9) rfl dX7_owedOf_6 ?_
  refine iicmp_geT (a := 0) (b := 0) (tgt := 45) hx hb (by decide) (by decide) dX7_owedOf_9 (by decide) (by decide) ?_
  refine lv_iload_n hx hb dX7_owedOf_45 rfl (lv_at hl 1 rfl) ?_
  exact W.iret (v := 0) hx hb hr (fun t ht hW => ⟨_, rfl, rfl, ht⟩) (fun _ h => by cases h) dX7_owedOf_46

set_option maxHeartbeats 4000000 in
set_option maxRecDepth 100000 in
theorem c_X7_owe (l : Launch) (D : va_G) (c : Nat → ClassId) (ts : Nat × Nat) (sz : Nat) (q : Nat → Nat) (h0 : Nat) (a1 : Int32) (i_a1 : Int) (hi_a1 : a1.toInt = i_a1) (a2 : Int32) (i_a2 : Int) (hi_a2 : a2.toInt = i_a2) : Met l yX7_owe wsX7_owe ({ frames := 2, cells := 0, slots := 0, locals := 42 }) (va_Pc [.ref h0, .int a1, .int a2] (Pre0 D c ts [(h0, .inr (7, o7 q v0 w0)), (q 35, .inl (c 2, 16, .inr (.inl (fun _ => 0)))), (q 36, .inl (c 3, 16, .inl (fun _ => 0))), (q 37, .inl (c 1, 16, .inl (fun _ => (-1))))] sz)) (vp_Sl (fun r : Int64 => ((0 ≤ i_a1 ∧ i_a1 ≤ 15 ∧ 0 ≤ i_a2 ∧ i_a2 ≤ 4) ∧ r = 0) ∨ ((¬ (0 ≤ i_a1 ∧ i_a1 ≤ 15 ∧ 0 ≤ i_a2 ∧ i_a2 ≤ 4)) ∧ r = (-1)))) 0 0 (fun _ => False) := by
  refine Met.ofW (cc := cX7_owe) (maxL := 3) (ret := (some .long)) (by decide) rfl ?_
  intro p e s m args below meth cd s₁ B hml hv
  obtain ⟨rfl, hsz, hP, hD0, hAm, hSt⟩ := hv
  have hx := B.exec
  have hb := B.bytes
  have hr := B.returns
  have hts := atoms_spec (ws := wsX7_owe) B.pre
  have hown : s.vm.findClass RX7 = some m.cls := findClass_of_methodNamed B.named
  have hlocks := B.notSynchronized
  subst hsz
  have hK := hAm.1
  have hD := hD0.self (sz := s.heap.size)
  generalize hAe : va_A [(h0, .inr (7, o7 q v0 w0)), (q 35, .inl (c 2, 16, .inr (.inl (fun _ => 0)))), (q 36, .inl (c 3, 16, .inl (fun _ => 0))), (q 37, .inl (c 1, 16, .inl (fun _ => (-1))))] s.heap.size = A at hD hSt
  have hA : ∀ q : Nat, s.heap.size ≤ q → A q := fun q h => by rw [← hAe]; exact Or.inr h
  have hS : va_S A s.heap s.heap [] := va_S.rf
  clear hD0 hAe
  have hl := lv_entry ([.ref h0, .int a1, .int a2]) (n := 3) (Nat.le_of_ble_eq_true rfl)
  rw [lg_entry_eq]
  generalize (lg_sl ([.ref h0, .int a1, .int a2]) ++ List.replicate (3 - (lg_sl ([.ref h0, .int a1, .int a2])).length) Slot.unset).toArray = ls at hl ⊢
  have hl : lv_has ls 3 [(0, .ref h0), (1, .int a1), (2, .int a2)] := hl
  refine lv_iload_n hx hb dX7_owe_0 rfl (lv_at hl 1 rfl) ?_
  have hPc := hP.sub (ws' := []) [] rfl
  have hDc := hD.sub (ws' := []) [] (by decide) rfl
  have hFc := va_free (wc := []) hD hS hA [] rfl
  refine va_csi (va_runS (As := [.int a1]) (rest := []) ⟨hx, hb, hml, hown, hts⟩ (c_X7_isPerson l D c ts s.heap.size a1 i_a1 hi_a1) (cwS 1 hts gX7_owe_X7_isPerson rfl rfl rfl ⟨rfl, hdX7_isPerson⟩ ⟨(show 1 + 1 ≤ 2 by decide), (show 8 + (1 + 11) + 22 ≤ 42 by decide)⟩) ⟨Pre0.blind, Pre0.at hPc hDc hAm hSt hS hFc⟩ rfl rfl hl.1 rfl (lv_room (Nat.le_of_ble_eq_true rfl)) dX7_owe_1 ⟨(show 0 + 0 ≤ 0 by decide), (show 0 + 0 ≤ 0 by decide)⟩) (fun r_2 hw_1 => ?_)
  rcases hw_1 with ⟨hw_1, rfl⟩ | ⟨hw_1, rfl⟩
  · skip
    refine iif_neT (a := 1) (tgt := 11) hx hb (by decide) dX7_owe_4 (by decide) (by decide) ?_
    refine lv_iload_n hx hb dX7_owe_11 rfl (lv_at hl 2 rfl) ?_
    by_cases k_3 : i_a2 = 0
    · have ek_3 : a2.toInt = 0 := hi_a2.trans k_3
      refine lv_tableIn (tgt := 48) hx hb dX7_owe_12 (by rw [ek_3]; decide) (by rw [ek_3]; decide) (by rw [ek_3]; rfl) (by decide) ?_
      refine lv_aload_n hx hb dX7_owe_48 rfl (lv_at hl 0 rfl) ?_
      refine lv_iload_n hx hb dX7_owe_49 rfl (lv_at hl 1 rfl) ?_
      have hPc := hP.sub (ws' := [(h0, .inr (7, o7 q v0 w0))]) [0] rfl
      have hDc := hD.sub (ws' := [(h0, .inr (7, o7 q v0 w0))]) [0] (by decide) rfl
      have hFc := va_free (wc := [(h0, .inr (7, o7 q v0 w0))]) hD hS hA [0] rfl
      refine va_csl (va_runV (As := [.int a1]) (rest := []) ⟨hx, hb, hml, hown, hts⟩ (c_X7_allOf l D c ts s.heap.size q h0 a1 i_a1 hi_a1) (cwV 1 hts gX7_owe_X7_allOf rfl rfl rfl ⟨rfl, hdX7_allOf⟩ ⟨(show 0 + 1 ≤ 2 by decide), (show 8 + (5 + 11) + 0 ≤ 42 by decide)⟩) ⟨Pre0.blind, va_recv hK hPc (ci := 7) (q0 := 0) rfl rfl, Pre0.at hPc hDc hAm hSt hS hFc⟩ rfl rfl hl.1 rfl (lv_room (Nat.le_of_ble_eq_true rfl)) dX7_owe_50 ⟨(show 0 + 0 ≤ 0 by decide), (show 0 + 0 ≤ 0 by decide)⟩) (fun r_5 hw_4 => ?_)
      refine lk_l (y := 0) hw_4 ?_
      exact W.lret (v := 0) hx hb hr (fun t ht hW => ⟨_, rfl, Or.inl ⟨by omega, rfl⟩, ht⟩) (fun _ h => by cases h) dX7_owe_53
    by_cases k_6 : i_a2 = 1
    · have ek_6 : a2.toInt = 1 := hi_a2.trans k_6
      refine lv_tableIn (tgt := 54) hx hb dX7_owe_12 (by rw [ek_6]; decide) (by rw [ek_6]; decide) (by rw [ek_6]; rfl) (by decide) ?_
      refine lv_aload_n hx hb dX7_owe_54 rfl (lv_at hl 0 rfl) ?_
      refine va_get (D := D) (ci := 7) (v := .ref (q 35)) (C := RX7) (T := TX7) (N := 56) hx hb hts (fun _ h => List.mem_cons_of_mem _ (List.mem_append_right _ h)) hown hK hP 0 rfl rfl 35 (by decide) (hts (.fieldLink RX7 71 "CrownTableModel" "credit" "[J") (mem_i 2 rfl)) (fun _ h9 => h9) rfl dX7_owe_55 ?_
      refine lv_iload_n hx hb dX7_owe_58 rfl (lv_at hl 1 rfl) ?_
      refine va_lald hx hb hK hP 1 2 rfl rfl (vin (a := i_a1) hi_a1 (by omega) (by omega)) dX7_owe_59 ?_
      refine lk_l (y := 0) rfl ?_
      exact W.lret (v := 0) hx hb hr (fun t ht hW => ⟨_, rfl, Or.inl ⟨by omega, rfl⟩, ht⟩) (fun _ h => by cases h) dX7_owe_60
    by_cases k_7 : i_a2 = 2
    · have ek_7 : a2.toInt = 2 := hi_a2.trans k_7
      refine lv_tableIn (tgt := 61) hx hb dX7_owe_12 (by rw [ek_7]; decide) (by rw [ek_7]; decide) (by rw [ek_7]; rfl) (by decide) ?_
      refine lv_aload_n hx hb dX7_owe_61 rfl (lv_at hl 0 rfl) ?_
      refine va_get (D := D) (ci := 7) (v := .ref (q 36)) (C := RX7) (T := TX7) (N := 56) hx hb hts (fun _ h => List.mem_cons_of_mem _ (List.mem_append_right _ h)) hown hK hP 0 rfl rfl 36 (by decide) (hts (.fieldLink RX7 75 "CrownTableModel" "held" "[Z") (mem_i 3 rfl)) (fun _ h9 => h9) rfl dX7_owe_62 ?_
      refine lv_iload_n hx hb dX7_owe_65 rfl (lv_at hl 1 rfl) ?_
      refine va_zald hx hb hK hP 2 3 rfl rfl (vin (a := i_a1) hi_a1 (by omega) (by omega)) dX7_owe_66 ?_
      refine lk_i (y := 0) rfl ?_
      refine iif_eqT (a := 0) (tgt := 74) hx hb (by decide) dX7_owe_67 (by decide) (by decide) ?_
      refine lv_lconst (v := 0) hx hb dX7_owe_74 (by decide) ?_
      exact W.lret (v := 0) hx hb hr (fun t ht hW => ⟨_, rfl, Or.inl ⟨by omega, rfl⟩, ht⟩) (fun _ h => by cases h) dX7_owe_75
    by_cases k_8 : i_a2 = 3
    · have ek_8 : a2.toInt = 3 := hi_a2.trans k_8
      refine lv_tableIn (tgt := 76) hx hb dX7_owe_12 (by rw [ek_8]; decide) (by rw [ek_8]; decide) (by rw [ek_8]; rfl) (by decide) ?_
      refine lv_aload_n hx hb dX7_owe_76 rfl (lv_at hl 0 rfl) ?_
      refine lv_iload_n hx hb dX7_owe_77 rfl (lv_at hl 1 rfl) ?_
      have hPc := hP.sub (ws' := [(h0, .inr (7, o7 q v0 w0))]) [0] rfl
      have hDc := hD.sub (ws' := [(h0, .inr (7, o7 q v0 w0))]) [0] (by decide) rfl
      have hFc := va_free (wc := [(h0, .inr (7, o7 q v0 w0))]) hD hS hA [0] rfl
      refine va_csi (va_runV (As := [.int a1]) (rest := []) ⟨hx, hb, hml, hown, hts⟩ (c_X7_owedOf l D c ts s.heap.size q h0 a1 i_a1 hi_a1) (cwV 1 hts gX7_owe_X7_owedOf rfl rfl rfl ⟨rfl, hdX7_owedOf⟩ ⟨(show 0 + 1 ≤ 2 by decide), (show 8 + (4 + 11) + 0 ≤ 42 by decide)⟩) ⟨Pre0.blind, va_recv hK hPc (ci := 7) (q0 := 0) rfl rfl, Pre0.at hPc hDc hAm hSt hS hFc⟩ rfl rfl hl.1 rfl (lv_room (Nat.le_of_ble_eq_true rfl)) dX7_owe_78 ⟨(show 0 + 0 ≤ 0 by decide), (show 0 + 0 ≤ 0 by decide)⟩) (fun r_10 hw_9 => ?_)
      refine lk_i (y := 0) hw_9 ?_
      refine lv_i2l (v := 0) hx hb dX7_owe_81 (by decide) ?_
      exact W.lret (v := 0) hx hb hr (fun t ht hW => ⟨_, rfl, Or.inl ⟨by omega, rfl⟩, ht⟩) (fun _ h => by cases h) dX7_owe_82
    by_cases k_11 : i_a2 = 4
    · have ek_11 : a2.toInt = 4 := hi_a2.trans k_11
      refine lv_tableIn (tgt := 83) hx hb dX7_owe_12 (by rw [ek_11]; decide) (by rw [ek_11]; decide) (by rw [ek_11]; rfl) (by decide) ?_
      refine lv_aload_n hx hb dX7_owe_83 rfl (lv_at hl 0 rfl) ?_
      refine va_get (D := D) (ci := 7) (v := .ref (q 37)) (C := RX7) (T := TX7) (N := 56) hx hb hts (fun _ h => List.mem_cons_of_mem _ (List.mem_append_right _ h)) hown hK hP 0 rfl rfl 37 (by decide) (hts (.fieldLink RX7 79 "CrownTableModel" "cameAt" "[I") (mem_i 4 rfl)) (fun _ h9 => h9) rfl dX7_owe_84 ?_
      refine lv_iload_n hx hb dX7_owe_87 rfl (lv_at hl 1 rfl) ?_
      refine va_iald hx hb hK hP 3 1 rfl rfl (vin (a := i_a1) hi_a1 (by omega) (by omega)) dX7_owe_88 ?_
      refine lk_i (y := (-1)) rfl ?_
      refine lv_aload_n hx hb dX7_owe_89 rfl (lv_at hl 0 rfl) ?_
      refine va_get (D := D) (ci := 7) (v := .int 0) (C := RX7) (T := TX7) (N := 56) hx hb hts (fun _ h => List.mem_cons_of_mem _ (List.mem_append_right _ h)) hown hK hP 0 rfl rfl 24 (by decide) (hts (.fieldLink RX7 267 "CrownTableModel" "term" "I") (mem_i 5 rfl)) (fun _ h9 => h9) rfl dX7_owe_90 ?_
      refine iicmp_neT (a := (-1)) (b := 0) (tgt := 100) hx hb (by decide) (by decide) dX7_owe_93 (by decide) (by decide) ?_
      refine lv_lconst (v := 0) hx hb dX7_owe_100 (by decide) ?_
      exact W.lret (v := 0) hx hb hr (fun t ht hW => ⟨_, rfl, Or.inl ⟨by omega, rfl⟩, ht⟩) (fun _ h => by cases h) dX7_owe_101
    refine lv_tableOut (tgt := 102) hx hb dX7_owe_12 (by rw [hi_a2]; omega) (by decide) ?_
    refine lv_ldc2 (v := (-1)) hx hb hown (hts (.constantLong RX7 338 (-1)) (mem_i 1 rfl)) dX7_owe_102 ?_
    exact W.lret (v := (-1)) hx hb hr (fun t ht hW => ⟨_, rfl, Or.inr (⟨by omega, rfl⟩), ht⟩) (fun _ h => by cases h) dX7_owe_105
  · skip
    refine iif_neF (a := 0) (tgt := 11) hx hb (by decide) dX7_owe_4 (by decide) (by decide) ?_
    refine lv_ldc2 (v := (-1)) hx hb hown (hts (.constantLong RX7 338 (-1)) (mem_i 1 rfl)) dX7_owe_7 ?_
    exact W.lret (v := (-1)) hx hb hr (fun t ht hW => ⟨_, rfl, Or.inr (⟨by omega, rfl⟩), ht⟩) (fun _ h => by cases h) dX7_owe_10
