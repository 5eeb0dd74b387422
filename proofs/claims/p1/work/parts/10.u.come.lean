set_option maxHeartbeats 4000000 in
set_option maxRecDepth 100000 in
theorem c_X2_hasRoom_1 (l : Launch) (D : va_G) (c : Nat → ClassId) (ts : Nat × Nat) (sz : Nat) (h0 : Nat) (h1 : Nat) : Met l yX2_hasRoom wsX2_hasRoom ({ frames := 0, cells := 0, slots := 0, locals := 0 }) (va_Pc [.ref h0, .int 0] (Pre0 D c ts [(h0, .inr (2, [.int 8, .int 4000, .ref h1, .int 0]))] sz)) (vp_Si (fun r : Int32 => r = 1)) 0 0 (fun _ => False) := by
  refine Met.ofW (cc := cX2_hasRoom) (maxL := 2) (ret := (some .boolean)) (by decide) rfl ?_
  intro p e s m args below meth cd s₁ B hml hv
  obtain ⟨rfl, hsz, hP, hD0, hAm, hSt⟩ := hv
  have hx := B.exec
  have hb := B.bytes
  have hr := B.returns
  have hts := atoms_spec (ws := wsX2_hasRoom) B.pre
  have hown : s.vm.findClass RX2 = some m.cls := findClass_of_methodNamed B.named
  have hlocks := B.notSynchronized
  subst hsz
  have hK := hAm.1
  have hD := hD0.self (sz := s.heap.size)
  generalize hAe : va_A [(h0, .inr (2, [.int 8, .int 4000, .ref h1, .int 0]))] s.heap.size = A at hD hSt
  have hA : ∀ q : Nat, s.heap.size ≤ q → A q := fun q h => by rw [← hAe]; exact Or.inr h
  have hS : va_S A s.heap s.heap [] := va_S.rf
  clear hD0 hAe
  have hl := lv_entry ([.ref h0, .int 0]) (n := 2) (Nat.le_of_ble_eq_true rfl)
  rw [lg_entry_eq]
  generalize (lg_sl ([.ref h0, .int 0]) ++ List.replicate (2 - (lg_sl ([.ref h0, .int 0])).length) Slot.unset).toArray = ls at hl ⊢
  have hl : lv_has ls 2 [(0, .ref h0), (1, .int 0)] := hl
  refine lv_aload_n hx hb dX2_hasRoom_0 rfl (lv_at hl 0 rfl) ?_
  refine va_get (D := D) (ci := 2) (v := .int 0) (C := RX2) (T := TX2) (N := 4) hx hb hts (fun _ h => List.mem_cons_of_mem _ (List.mem_append_right _ h)) hown hK hP 0 rfl rfl 3 (by decide) (hts (.fieldLink RX2 28 "CrownTable$Rows" "size" "I") (mem_i 1 rfl)) (fun _ h9 => h9) rfl dX2_hasRoom_1 ?_
  refine lv_iload_n hx hb dX2_hasRoom_4 rfl (lv_at hl 1 rfl) ?_
  refine lv_iadd hx hb dX2_hasRoom_5 ?_
  refine lk_i (y := 0) (by decide) ?_
  refine lv_aload_n hx hb dX2_hasRoom_6 rfl (lv_at hl 0 rfl) ?_
  refine va_get (D := D) (ci := 2) (v := .int 4000) (C := RX2) (T := TX2) (N := 4) hx hb hts (fun _ h => List.mem_cons_of_mem _ (List.mem_append_right _ h)) hown hK hP 0 rfl rfl 1 (by decide) (hts (.fieldLink RX2 21 "CrownTable$Rows" "most" "I") (mem_i 2 rfl)) (fun _ h9 => h9) rfl dX2_hasRoom_7 ?_
  refine iicmp_gtF (a := 0) (b := 4000) (tgt := 17) hx hb (by decide) (by decide) dX2_hasRoom_10 (by decide) (by decide) ?_
  refine lv_iconst (v := 1) hx hb dX2_hasRoom_13 (by decide) ?_
  refine lv_goto (tgt := 18) hx hb dX2_hasRoom_14 (by decide) ?_
  exact W.zret (v := 1) hx hb hr (by decide) (fun t ht hW => ⟨_, rfl, rfl, ht⟩) (fun _ h => by cases h) dX2_hasRoom_18

set_option maxHeartbeats 4000000 in
set_option maxRecDepth 100000 in
theorem c_X2_hasRoom_2 (l : Launch) (D : va_G) (c : Nat → ClassId) (ts : Nat × Nat) (sz : Nat) (h0 : Nat) (h1 : Nat) : Met l yX2_hasRoom wsX2_hasRoom ({ frames := 0, cells := 0, slots := 0, locals := 0 }) (va_Pc [.ref h0, .int 0] (Pre0 D c ts [(h0, .inr (2, [.int 1, .int 2000, .ref h1, .int 0]))] sz)) (vp_Si (fun r : Int32 => r = 1)) 0 0 (fun _ => False) := by
  refine Met.ofW (cc := cX2_hasRoom) (maxL := 2) (ret := (some .boolean)) (by decide) rfl ?_
  intro p e s m args below meth cd s₁ B hml hv
  obtain ⟨rfl, hsz, hP, hD0, hAm, hSt⟩ := hv
  have hx := B.exec
  have hb := B.bytes
  have hr := B.returns
  have hts := atoms_spec (ws := wsX2_hasRoom) B.pre
  have hown : s.vm.findClass RX2 = some m.cls := findClass_of_methodNamed B.named
  have hlocks := B.notSynchronized
  subst hsz
  have hK := hAm.1
  have hD := hD0.self (sz := s.heap.size)
  generalize hAe : va_A [(h0, .inr (2, [.int 1, .int 2000, .ref h1, .int 0]))] s.heap.size = A at hD hSt
  have hA : ∀ q : Nat, s.heap.size ≤ q → A q := fun q h => by rw [← hAe]; exact Or.inr h
  have hS : va_S A s.heap s.heap [] := va_S.rf
  clear hD0 hAe
  have hl := lv_entry ([.ref h0, .int 0]) (n := 2) (Nat.le_of_ble_eq_true rfl)
  rw [lg_entry_eq]
  generalize (lg_sl ([.ref h0, .int 0]) ++ List.replicate (2 - (lg_sl ([.ref h0, .int 0])).length) Slot.unset).toArray = ls at hl ⊢
  have hl : lv_has ls 2 [(0, .ref h0), (1, .int 0)] := hl
  refine lv_aload_n hx hb dX2_hasRoom_0 rfl (lv_at hl 0 rfl) ?_
  refine va_get (D := D) (ci := 2) (v := .int 0) (C := RX2) (T := TX2) (N := 4) hx hb hts (fun _ h => List.mem_cons_of_mem _ (List.mem_append_right _ h)) hown hK hP 0 rfl rfl 3 (by decide) (hts (.fieldLink RX2 28 "CrownTable$Rows" "size" "I") (mem_i 1 rfl)) (fun _ h9 => h9) rfl dX2_hasRoom_1 ?_
  refine lv_iload_n hx hb dX2_hasRoom_4 rfl (lv_at hl 1 rfl) ?_
  refine lv_iadd hx hb dX2_hasRoom_5 ?_
  refine lk_i (y := 0) (by decide) ?_
  refine lv_aload_n hx hb dX2_hasRoom_6 rfl (lv_at hl 0 rfl) ?_
  refine va_get (D := D) (ci := 2) (v := .int 2000) (C := RX2) (T := TX2) (N := 4) hx hb hts (fun _ h => List.mem_cons_of_mem _ (List.mem_append_right _ h)) hown hK hP 0 rfl rfl 1 (by decide) (hts (.fieldLink RX2 21 "CrownTable$Rows" "most" "I") (mem_i 2 rfl)) (fun _ h9 => h9) rfl dX2_hasRoom_7 ?_
  refine iicmp_gtF (a := 0) (b := 2000) (tgt := 17) hx hb (by decide) (by decide) dX2_hasRoom_10 (by decide) (by decide) ?_
  refine lv_iconst (v := 1) hx hb dX2_hasRoom_13 (by decide) ?_
  refine lv_goto (tgt := 18) hx hb dX2_hasRoom_14 (by decide) ?_
  exact W.zret (v := 1) hx hb hr (by decide) (fun t ht hW => ⟨_, rfl, rfl, ht⟩) (fun _ h => by cases h) dX2_hasRoom_18

set_option maxHeartbeats 4000000 in
set_option maxRecDepth 100000 in
theorem c_X6_textInForce_1 (l : Launch) (D : va_G) (c : Nat → ClassId) (ts : Nat × Nat) (sz : Nat) (q : Nat → Nat) (h0 : Nat) (j0 : Int64) : Met l yX6_textInForce wsX6_textInForce ({ frames := 0, cells := 0, slots := 0, locals := 0 }) (va_Pc [.ref h0, .int 0] (Pre0 D c ts [(h0, .inr (6, o6 q 0 0 0 j0)), (q 12, .inr (2, [.int 2, .int 40, .ref (q 13), .int 0]))] sz)) (vp_Si (fun r : Int32 => r = (-1))) 0 0 (fun _ => False) := by
  refine Met.ofW (cc := cX6_textInForce) (maxL := 3) (ret := (some .int)) (by decide) rfl ?_
  intro p e s m args below meth cd s₁ B hml hv
  obtain ⟨rfl, hsz, hP, hD0, hAm, hSt⟩ := hv
  have hx := B.exec
  have hb := B.bytes
  have hr := B.returns
  have hts := atoms_spec (ws := wsX6_textInForce) B.pre
  have hown : s.vm.findClass RX6 = some m.cls := findClass_of_methodNamed B.named
  have hlocks := B.notSynchronized
  subst hsz
  have hK := hAm.1
  have hD := hD0.self (sz := s.heap.size)
  generalize hAe : va_A [(h0, .inr (6, o6 q 0 0 0 j0)), (q 12, .inr (2, [.int 2, .int 40, .ref (q 13), .int 0]))] s.heap.size = A at hD hSt
  have hA : ∀ q : Nat, s.heap.size ≤ q → A q := fun q h => by rw [← hAe]; exact Or.inr h
  have hS : va_S A s.heap s.heap [] := va_S.rf
  clear hD0 hAe
  have hl := lv_entry ([.ref h0, .int 0]) (n := 3) (Nat.le_of_ble_eq_true rfl)
  rw [lg_entry_eq]
  generalize (lg_sl ([.ref h0, .int 0]) ++ List.replicate (3 - (lg_sl ([.ref h0, .int 0])).length) Slot.unset).toArray = ls at hl ⊢
  have hl : lv_has ls 3 [(0, .ref h0), (1, .int 0)] := hl
  refine lv_aload_n hx hb dX6_textInForce_0 rfl (lv_at hl 0 rfl) ?_
  refine va_get (D := D) (ci := 6) (v := .ref (q 12)) (C := RX6) (T := TX6) (N := 18) hx hb hts (fun _ h => List.mem_cons_of_mem _ (List.mem_append_left _ (List.mem_append_right _ h))) hown hK hP 0 rfl rfl 5 (by decide) (hts (.fieldLink RX6 43 "CrownTable" "forces" "LCrownTable$Rows;") (mem_i 1 rfl)) (fun _ h9 => h9) rfl dX6_textInForce_1 ?_
  refine va_getN (D := D) (ci := 2) (v := .int 0) (own := RX6) (ref := "CrownTable$Rows") (host := RX6) (index := 155) (C := RX2) (T := TX2) (N := 4) hx hb hts (fun _ h => List.mem_cons_of_mem _ (List.mem_append_right _ h)) hown hK hP 1 rfl rfl 3 (by decide) (show (Cond.fieldLinkNest RX6 155 "CrownTable$Rows" "size" "I" RX6).before _ _ = true from va_Nw.use rfl (hAm.2.1.2 (RX6, 155, "CrownTable$Rows", "size", "I", RX6) (mem_i 3 rfl))) (fun _ h9 => h9) rfl dX6_textInForce_4 ?_
  refine lv_iconst (v := 1) hx hb dX6_textInForce_7 (by decide) ?_
  refine lv_isub hx hb dX6_textInForce_8 ?_
  refine lk_i (y := (-1)) (by decide) ?_
  refine lv_istore_n (lv' := [(2, .int (-1)), (0, .ref h0), (1, .int 0)]) hx hb dX6_textInForce_9 rfl hl (by decide) rfl (fun ls hl => ?_)
  refine lv_iload_n hx hb dX6_textInForce_10 rfl (lv_at hl 0 rfl) ?_
  refine iif_ltT (a := (-1)) (tgt := 43) hx hb (by decide) dX6_textInForce_11 (by decide) (by decide) ?_
  refine lv_iconst (v := (-1)) hx hb dX6_textInForce_43 (by decide) ?_
  exact W.iret (v := (-1)) hx hb hr (fun t ht hW => ⟨_, rfl, rfl, ht⟩) (fun _ h => by cases h) dX6_textInForce_44

set_option maxHeartbeats 4000000 in
set_option maxRecDepth 100000 in
theorem c_X6_leftOf_1 (l : Launch) (D : va_G) (c : Nat → ClassId) (ts : Nat × Nat) (sz : Nat) (q : Nat → Nat) (h0 : Nat) (a1 : Int32) (i_a1 : Int) (hi_a1 : a1.toInt = i_a1) (j0 : Int64) : Met l yX6_leftOf wsX6_leftOf ({ frames := 0, cells := 0, slots := 0, locals := 0 }) (va_Pc [.ref h0, .int a1] (Pre0 D c ts [(h0, .inr (6, o6 q 0 0 0 j0)), (q 19, .inr (2, [.int 7, .int 400, .ref (q 20), .int 0]))] sz)) (vp_Sl (fun r : Int64 => r = 0)) 0 0 (fun _ => False) := by
  refine Met.ofW (cc := cX6_leftOf) (maxL := 5) (ret := (some .long)) (by decide) rfl ?_
  intro p e s m args below meth cd s₁ B hml hv
  obtain ⟨rfl, hsz, hP, hD0, hAm, hSt⟩ := hv
  have hx := B.exec
  have hb := B.bytes
  have hr := B.returns
  have hts := atoms_spec (ws := wsX6_leftOf) B.pre
  have hown : s.vm.findClass RX6 = some m.cls := findClass_of_methodNamed B.named
  have hlocks := B.notSynchronized
  subst hsz
  have hK := hAm.1
  have hD := hD0.self (sz := s.heap.size)
  generalize hAe : va_A [(h0, .inr (6, o6 q 0 0 0 j0)), (q 19, .inr (2, [.int 7, .int 400, .ref (q 20), .int 0]))] s.heap.size = A at hD hSt
  have hA : ∀ q : Nat, s.heap.size ≤ q → A q := fun q h => by rw [← hAe]; exact Or.inr h
  have hS : va_S A s.heap s.heap [] := va_S.rf
  clear hD0 hAe
  have hl := lv_entry ([.ref h0, .int a1]) (n := 5) (Nat.le_of_ble_eq_true rfl)
  rw [lg_entry_eq]
  generalize (lg_sl ([.ref h0, .int a1]) ++ List.replicate (5 - (lg_sl ([.ref h0, .int a1])).length) Slot.unset).toArray = ls at hl ⊢
  have hl : lv_has ls 5 [(0, .ref h0), (1, .int a1)] := hl
  refine lv_lconst (v := 0) hx hb dX6_leftOf_0 (by decide) ?_
  refine lv_lstore_n (lv' := [(2, .long 0), (0, .ref h0), (1, .int a1)]) hx hb dX6_leftOf_1 rfl hl (by decide) rfl (fun ls hl => ?_)
  refine lv_iconst (v := 0) hx hb dX6_leftOf_2 (by decide) ?_
  refine lv_istore (lv' := [(4, .int 0), (2, .long 0), (0, .ref h0), (1, .int a1)]) hx hb dX6_leftOf_3 hl (by decide) rfl (fun ls hl => ?_)
  refine lv_iload hx hb dX6_leftOf_5 (lv_at hl 0 rfl) ?_
  refine lv_aload_n hx hb dX6_leftOf_7 rfl (lv_at hl 2 rfl) ?_
  refine va_get (D := D) (ci := 6) (v := .ref (q 19)) (C := RX6) (T := TX6) (N := 18) hx hb hts (fun _ h => List.mem_cons_of_mem _ (List.mem_append_left _ (List.mem_append_right _ h))) hown hK hP 0 rfl rfl 11 (by decide) (hts (.fieldLink RX6 65 "CrownTable" "debts" "LCrownTable$Rows;") (mem_i 1 rfl)) (fun _ h9 => h9) rfl dX6_leftOf_8 ?_
  refine va_getN (D := D) (ci := 2) (v := .int 0) (own := RX6) (ref := "CrownTable$Rows") (host := RX6) (index := 155) (C := RX2) (T := TX2) (N := 4) hx hb hts (fun _ h => List.mem_cons_of_mem _ (List.mem_append_right _ h)) hown hK hP 1 rfl rfl 3 (by decide) (show (Cond.fieldLinkNest RX6 155 "CrownTable$Rows" "size" "I" RX6).before _ _ = true from va_Nw.use rfl (hAm.2.1.2 (RX6, 155, "CrownTable$Rows", "size", "I", RX6) (mem_i 3 rfl))) (fun _ h9 => h9) rfl dX6_leftOf_11 ?_
  refine iicmp_geT (a := 0) (b := 0) (tgt := 47) hx hb (by decide) (by decide) dX6_leftOf_14 (by decide) (by decide) ?_
  refine lv_lload_n hx hb dX6_leftOf_47 rfl (lv_at hl 1 rfl) ?_
  exact W.lret (v := 0) hx hb hr (fun t ht hW => ⟨_, rfl, rfl, ht⟩) (fun _ h => by cases h) dX6_leftOf_48

set_option maxHeartbeats 4000000 in
set_option maxRecDepth 100000 in
theorem c_X6_askAll (l : Launch) (D : va_G) (c : Nat → ClassId) (ts : Nat × Nat) (sz : Nat) (q : Nat → Nat) (h0 : Nat) (a1 : Int32) (i_a1 : Int) (hi_a1 : a1.toInt = i_a1) (j0 : Int64) (a2 : Int64) : Met l yX6_askAll wsX6_askAll ({ frames := 1, cells := 0, slots := 0, locals := 24 }) (va_Pc [.ref h0, .int a1, .long a2] (Pre0 D c ts [(h0, .inr (6, o6 q 0 0 0 j0)), (q 12, .inr (2, [.int 2, .int 40, .ref (q 13), .int 0])), (q 19, .inr (2, [.int 7, .int 400, .ref (q 20), .int 0]))] sz)) (vp_Sl (fun r : Int64 => r = 0)) 0 0 (fun _ => False) := by
  refine Met.ofW (cc := cX6_askAll) (maxL := 13) (ret := (some .long)) (by decide) rfl ?_
  intro p e s m args below meth cd s₁ B hml hv
  obtain ⟨rfl, hsz, hP, hD0, hAm, hSt⟩ := hv
  have hx := B.exec
  have hb := B.bytes
  have hr := B.returns
  have hts := atoms_spec (ws := wsX6_askAll) B.pre
  have hown : s.vm.findClass RX6 = some m.cls := findClass_of_methodNamed B.named
  have hlocks := B.notSynchronized
  subst hsz
  have hK := hAm.1
  have hD := hD0.self (sz := s.heap.size)
  generalize hAe : va_A [(h0, .inr (6, o6 q 0 0 0 j0)), (q 12, .inr (2, [.int 2, .int 40, .ref (q 13), .int 0])), (q 19, .inr (2, [.int 7, .int 400, .ref (q 20), .int 0]))] s.heap.size = A at hD hSt
  have hA : ∀ q : Nat, s.heap.size ≤ q → A q := fun q h => by rw [← hAe]; exact Or.inr h
  have hS : va_S A s.heap s.heap [] := va_S.rf
  clear hD0 hAe
  have hl := lv_entry ([.ref h0, .int a1, .long a2]) (n := 13) (Nat.le_of_ble_eq_true rfl)
  rw [lg_entry_eq]
  generalize (lg_sl ([.ref h0, .int a1, .long a2]) ++ List.replicate (13 - (lg_sl ([.ref h0, .int a1, .long a2])).length) Slot.unset).toArray = ls at hl ⊢
  have hl : lv_has ls 13 [(0, .ref h0), (1, .int a1), (2, .long a2)] := hl
  refine lv_aload_n hx hb dX6_askAll_0 rfl (lv_at hl 0 rfl) ?_
  refine lv_aload_n hx hb dX6_askAll_1 rfl (lv_at hl 0 rfl) ?_
  refine va_get (D := D) (ci := 6) (v := .int 0) (C := RX6) (T := TX6) (N := 18) hx hb hts (fun _ h => List.mem_cons_of_mem _ (List.mem_append_left _ (List.mem_append_left _ (List.mem_append_left _ (List.mem_append_right _ h))))) hown hK hP 0 rfl rfl 15 (by decide) (hts (.fieldLink RX6 120 "CrownTable" "now" "I") (mem_i 1 rfl)) (fun _ h9 => h9) rfl dX6_askAll_2 ?_
  have hPc := hP.sub (ws' := [(h0, .inr (6, o6 q 0 0 0 j0)), (q 12, .inr (2, [.int 2, .int 40, .ref (q 13), .int 0]))]) [0, 1] rfl
  have hDc := hD.sub (ws' := [(h0, .inr (6, o6 q 0 0 0 j0)), (q 12, .inr (2, [.int 2, .int 40, .ref (q 13), .int 0]))]) [0, 1] (by decide) rfl
  have hFc := va_free (wc := [(h0, .inr (6, o6 q 0 0 0 j0)), (q 12, .inr (2, [.int 2, .int 40, .ref (q 13), .int 0]))]) hD hS hA [0, 1] rfl
  refine va_csi (va_runV (As := [.int 0]) (rest := []) ⟨hx, hb, hml, hown, hts⟩ (c_X6_textInForce_1 l D c ts s.heap.size q h0 j0) (cwV 1 hts gX6_askAll_X6_textInForce rfl rfl rfl ⟨rfl, hdX6_textInForce⟩ ⟨(show 0 + 1 ≤ 1 by decide), (show 8 + (3 + 11) + 0 ≤ 24 by decide)⟩) ⟨Pre0.blind, va_recv hK hPc (ci := 6) (q0 := 0) rfl rfl, Pre0.at hPc hDc hAm hSt hS hFc⟩ rfl rfl hl.1 rfl (lv_room (Nat.le_of_ble_eq_true rfl)) dX6_askAll_5 ⟨(show 0 + 0 ≤ 0 by decide), (show 0 + 0 ≤ 0 by decide)⟩) (fun r_2 hw_1 => ?_)
  refine lk_i (y := (-1)) hw_1 ?_
  refine lv_istore (lv' := [(4, .int (-1)), (0, .ref h0), (1, .int a1), (2, .long a2)]) hx hb dX6_askAll_8 hl (by decide) rfl (fun ls hl => ?_)
  refine lv_aload_n hx hb dX6_askAll_10 rfl (lv_at hl 1 rfl) ?_
  refine lv_iload_n hx hb dX6_askAll_11 rfl (lv_at hl 2 rfl) ?_
  have hPc := hP.sub (ws' := [(h0, .inr (6, o6 q 0 0 0 j0)), (q 19, .inr (2, [.int 7, .int 400, .ref (q 20), .int 0]))]) [0, 2] rfl
  have hDc := hD.sub (ws' := [(h0, .inr (6, o6 q 0 0 0 j0)), (q 19, .inr (2, [.int 7, .int 400, .ref (q 20), .int 0]))]) [0, 2] (by decide) rfl
  have hFc := va_free (wc := [(h0, .inr (6, o6 q 0 0 0 j0)), (q 19, .inr (2, [.int 7, .int 400, .ref (q 20), .int 0]))]) hD hS hA [0, 2] rfl
  refine va_csl (va_runV (As := [.int a1]) (rest := []) ⟨hx, hb, hml, hown, hts⟩ (c_X6_leftOf_1 l D c ts s.heap.size q h0 a1 i_a1 hi_a1 j0) (cwV 1 hts gX6_askAll_X6_leftOf rfl rfl rfl ⟨rfl, hdX6_leftOf⟩ ⟨(show 0 + 1 ≤ 1 by decide), (show 8 + (5 + 11) + 0 ≤ 24 by decide)⟩) ⟨Pre0.blind, va_recv hK hPc (ci := 6) (q0 := 0) rfl rfl, Pre0.at hPc hDc hAm hSt hS hFc⟩ rfl rfl hl.1 rfl (lv_room (Nat.le_of_ble_eq_true rfl)) dX6_askAll_12 ⟨(show 0 + 0 ≤ 0 by decide), (show 0 + 0 ≤ 0 by decide)⟩) (fun r_4 hw_3 => ?_)
  refine lk_l (y := 0) hw_3 ?_
  refine lv_lstore (lv' := [(5, .long 0), (4, .int (-1)), (0, .ref h0), (1, .int a1), (2, .long a2)]) hx hb dX6_askAll_15 hl (by decide) rfl (fun ls hl => ?_)
  refine lv_lconst (v := 0) hx hb dX6_askAll_17 (by decide) ?_
  refine lv_lstore (lv' := [(7, .long 0), (5, .long 0), (4, .int (-1)), (0, .ref h0), (1, .int a1), (2, .long a2)]) hx hb dX6_askAll_18 hl (by decide) rfl (fun ls hl => ?_)
  refine lv_iconst (v := 0) hx hb dX6_askAll_20 (by decide) ?_
  refine lv_istore (lv' := [(9, .int 0), (7, .long 0), (5, .long 0), (4, .int (-1)), (0, .ref h0), (1, .int a1), (2, .long a2)]) hx hb dX6_askAll_21 hl (by decide) rfl (fun ls hl => ?_)
  refine lv_iload hx hb dX6_askAll_23 (lv_at hl 0 rfl) ?_
  refine lv_aload_n hx hb dX6_askAll_25 rfl (lv_at hl 4 rfl) ?_
  refine va_get (D := D) (ci := 6) (v := .ref (q 19)) (C := RX6) (T := TX6) (N := 18) hx hb hts (fun _ h => List.mem_cons_of_mem _ (List.mem_append_left _ (List.mem_append_left _ (List.mem_append_left _ (List.mem_append_right _ h))))) hown hK hP 0 rfl rfl 11 (by decide) (hts (.fieldLink RX6 65 "CrownTable" "debts" "LCrownTable$Rows;") (mem_i 2 rfl)) (fun _ h9 => h9) rfl dX6_askAll_26 ?_
  refine va_getN (D := D) (ci := 2) (v := .int 0) (own := RX6) (ref := "CrownTable$Rows") (host := RX6) (index := 155) (C := RX2) (T := TX2) (N := 4) hx hb hts (fun _ h => List.mem_cons_of_mem _ (List.mem_append_left _ (List.mem_append_left _ (List.mem_append_right _ h)))) hown hK hP 2 rfl rfl 3 (by decide) (show (Cond.fieldLinkNest RX6 155 "CrownTable$Rows" "size" "I" RX6).before _ _ = true from va_Nw.use rfl (hAm.2.1.2 (RX6, 155, "CrownTable$Rows", "size", "I", RX6) (mem_i 3 rfl))) (fun _ h9 => h9) rfl dX6_askAll_29 ?_
  refine iicmp_geT (a := 0) (b := 0) (tgt := 132) hx hb (by decide) (by decide) dX6_askAll_32 (by decide) (by decide) ?_
  refine lv_lload hx hb dX6_askAll_132 (lv_at hl 1 rfl) ?_
  exact W.lret (v := 0) hx hb hr (fun t ht hW => ⟨_, rfl, rfl, ht⟩) (fun _ h => by cases h) dX6_askAll_134

set_option maxHeartbeats 4000000 in
set_option maxRecDepth 100000 in
theorem c_X6_come (l : Launch) (D : va_G) (c : Nat → ClassId) (ts : Nat × Nat) (sz : Nat) (q : Nat → Nat) (h0 : Nat) (a1 : Int32) (i_a1 : Int) (hi_a1 : a1.toInt = i_a1) (a2 : Int32) (i_a2 : Int) (hi_a2 : a2.toInt = i_a2) : Met l yX6_come wsX6_come ({ frames := 2, cells := 0, slots := 0, locals := 56 }) (va_Pc [.ref h0, .int a1, .int a2] (Pre0 D c ts [(h0, .inr (6, o6 q 0 0 0 0)), (q 14, .inl (c 2, 16, .inr (.inl (fun _ => 0)))), (q 16, .inl (c 1, 16, .inl (fun _ => (-1)))), (q 19, .inr (2, [.int 7, .int 400, .ref (q 20), .int 0])), (q 21, .inr (2, [.int 8, .int 4000, .ref (q 22), .int 0])), (q 23, .inr (2, [.int 1, .int 2000, .ref (q 24), .int 0])), (q 12, .inr (2, [.int 2, .int 40, .ref (q 13), .int 0]))] sz)) (va_Qi (fun (r : Int32) (u : Unit) => ((0 ≤ i_a1 ∧ i_a1 ≤ 15 ∧ 0 ≤ i_a2 ∧ i_a2 ≤ 1000000) ∧ r = 0) ∨ ((¬ (0 ≤ i_a1 ∧ i_a1 ≤ 15 ∧ 0 ≤ i_a2 ∧ i_a2 ≤ 1000000)) ∧ r = (-1))) (fun _ _ => True) (va_A [(h0, .inr (6, o6 q 0 0 0 0)), (q 14, .inl (c 2, 16, .inr (.inl (fun _ => 0)))), (q 16, .inl (c 1, 16, .inl (fun _ => (-1)))), (q 19, .inr (2, [.int 7, .int 400, .ref (q 20), .int 0])), (q 21, .inr (2, [.int 8, .int 4000, .ref (q 22), .int 0])), (q 23, .inr (2, [.int 1, .int 2000, .ref (q 24), .int 0])), (q 12, .inr (2, [.int 2, .int 40, .ref (q 13), .int 0]))] sz)) 0 0 (va_A [(h0, .inr (6, o6 q 0 0 0 0)), (q 14, .inl (c 2, 16, .inr (.inl (fun _ => 0)))), (q 16, .inl (c 1, 16, .inl (fun _ => (-1)))), (q 19, .inr (2, [.int 7, .int 400, .ref (q 20), .int 0])), (q 21, .inr (2, [.int 8, .int 4000, .ref (q 22), .int 0])), (q 23, .inr (2, [.int 1, .int 2000, .ref (q 24), .int 0])), (q 12, .inr (2, [.int 2, .int 40, .ref (q 13), .int 0]))] sz) := by
  refine Met.ofW (cc := cX6_come) (maxL := 6) (ret := (some .int)) (by decide) rfl ?_
  intro p e s m args below meth cd s₁ B hml hv
  obtain ⟨rfl, hsz, hP, hD0, hAm, hSt⟩ := hv
  have hx := B.exec
  have hb := B.bytes
  have hr := B.returns
  have hts := atoms_spec (ws := wsX6_come) B.pre
  have hown : s.vm.findClass RX6 = some m.cls := findClass_of_methodNamed B.named
  have hlocks := B.notSynchronized
  subst hsz
  have hK := hAm.1
  have hD := hD0.self (sz := s.heap.size)
  generalize hAe : va_A [(h0, .inr (6, o6 q 0 0 0 0)), (q 14, .inl (c 2, 16, .inr (.inl (fun _ => 0)))), (q 16, .inl (c 1, 16, .inl (fun _ => (-1)))), (q 19, .inr (2, [.int 7, .int 400, .ref (q 20), .int 0])), (q 21, .inr (2, [.int 8, .int 4000, .ref (q 22), .int 0])), (q 23, .inr (2, [.int 1, .int 2000, .ref (q 24), .int 0])), (q 12, .inr (2, [.int 2, .int 40, .ref (q 13), .int 0]))] s.heap.size = A at hD hSt ⊢
  have hA : ∀ q : Nat, s.heap.size ≤ q → A q := fun q h => by rw [← hAe]; exact Or.inr h
  have hS : va_S A s.heap s.heap [] := va_S.rf
  clear hD0 hAe
  have hl := lv_entry ([.ref h0, .int a1, .int a2]) (n := 6) (Nat.le_of_ble_eq_true rfl)
  rw [lg_entry_eq]
  generalize (lg_sl ([.ref h0, .int a1, .int a2]) ++ List.replicate (6 - (lg_sl ([.ref h0, .int a1, .int a2])).length) Slot.unset).toArray = ls at hl ⊢
  have hl : lv_has ls 6 [(0, .ref h0), (1, .int a1), (2, .int a2)] := hl
  refine lv_iload_n hx hb dX6_come_0 rfl (lv_at hl 1 rfl) ?_
  have hPc := hP.sub (ws' := []) [] rfl
  have hDc := hD.sub (ws' := []) [] (by decide) rfl
  have hFc := va_free (wc := []) hD hS hA [] rfl
  refine va_csi (va_runS (As := [.int a1]) (rest := []) ⟨hx, hb, hml, hown, hts⟩ (c_X6_isPerson l D c ts s.heap.size a1 i_a1 hi_a1) (cwS 1 hts gX6_come_X6_isPerson rfl rfl rfl ⟨rfl, hdX6_isPerson⟩ ⟨(show 0 + 1 ≤ 2 by decide), (show 8 + (1 + 11) + 0 ≤ 56 by decide)⟩) ⟨Pre0.blind, Pre0.at hPc hDc hAm hSt hS hFc⟩ rfl rfl hl.1 rfl (lv_room (Nat.le_of_ble_eq_true rfl)) dX6_come_1 ⟨(show 0 + 0 ≤ 0 by decide), (show 0 + 0 ≤ 0 by decide)⟩) (fun r_2 hw_1 => ?_)
  rcases hw_1 with ⟨hw_1, rfl⟩ | ⟨hw_1, rfl⟩
  · skip
    refine iif_eqF (a := 1) (tgt := 17) hx hb (by decide) dX6_come_4 (by decide) (by decide) ?_
    refine lv_iload_n hx hb dX6_come_7 rfl (lv_at hl 2 rfl) ?_
    refine iif_lt (a := i_a2) (tgt := 17) hx hb hi_a2 dX6_come_8 (by decide) (fun k_3 => ?_) (fun k_3 => ?_)
    · skip
      refine lv_iconst (v := (-1)) hx hb dX6_come_17 (by decide) ?_
      refine W.widen (k := 0) (n := 0) (by omega) (by omega) ?_
      exact W.iret (v := (-1)) hx hb hr (fun t ht hW => ⟨⟨_, (), rfl, Or.inr (⟨by omega, rfl⟩), trivial⟩, hS.F ht⟩) hS.2.2 dX6_come_18
    · skip
      refine lv_iload_n hx hb dX6_come_11 rfl (lv_at hl 2 rfl) ?_
      refine lv_ldc (v := 1000000) hx hb hown (hts (.constant RX6 183 (1000000)) (mem_i 1 rfl)) dX6_come_12 ?_
      refine iicmp_le (a := i_a2) (b := 1000000) (tgt := 19) hx hb hi_a2 (by decide) dX6_come_14 (by decide) (fun k_4 => ?_) (fun k_4 => ?_)
      · skip
        refine lv_aload_n hx hb dX6_come_19 rfl (lv_at hl 0 rfl) ?_
        refine va_get (D := D) (ci := 6) (v := .ref (q 16)) (C := RX6) (T := TX6) (N := 18) hx hb hts (fun _ h => List.mem_cons_of_mem _ (List.mem_append_left _ (List.mem_append_left _ (List.mem_append_left _ (List.mem_append_right _ h))))) hown hK hP 0 rfl rfl 8 (by decide) (hts (.fieldLink RX6 55 "CrownTable" "cameAt" "[I") (mem_i 2 rfl)) (fun _ h9 => h9) rfl dX6_come_20 ?_
        refine lv_iload_n hx hb dX6_come_23 rfl (lv_at hl 1 rfl) ?_
        refine va_iald hx hb hK hP 2 1 rfl rfl (vin (a := i_a1) hi_a1 (by omega) (by omega)) dX6_come_24 ?_
        refine lk_i (y := (-1)) rfl ?_
        refine lv_aload_n hx hb dX6_come_25 rfl (lv_at hl 0 rfl) ?_
        refine va_get (D := D) (ci := 6) (v := .int 0) (C := RX6) (T := TX6) (N := 18) hx hb hts (fun _ h => List.mem_cons_of_mem _ (List.mem_append_left _ (List.mem_append_left _ (List.mem_append_left _ (List.mem_append_right _ h))))) hown hK hP 0 rfl rfl 15 (by decide) (hts (.fieldLink RX6 120 "CrownTable" "now" "I") (mem_i 3 rfl)) (fun _ h9 => h9) rfl dX6_come_26 ?_
        refine iicmp_neT (a := (-1)) (b := 0) (tgt := 35) hx hb (by decide) (by decide) dX6_come_29 (by decide) (by decide) ?_
        refine lv_aload_n hx hb dX6_come_35 rfl (lv_at hl 0 rfl) ?_
        refine lv_iload_n hx hb dX6_come_36 rfl (lv_at hl 1 rfl) ?_
        have hPc := hP.sub (ws' := [(h0, .inr (6, o6 q 0 0 0 0)), (q 19, .inr (2, [.int 7, .int 400, .ref (q 20), .int 0]))]) [0, 3] rfl
        have hDc := hD.sub (ws' := [(h0, .inr (6, o6 q 0 0 0 0)), (q 19, .inr (2, [.int 7, .int 400, .ref (q 20), .int 0]))]) [0, 3] (by decide) rfl
        have hFc := va_free (wc := [(h0, .inr (6, o6 q 0 0 0 0)), (q 19, .inr (2, [.int 7, .int 400, .ref (q 20), .int 0]))]) hD hS hA [0, 3] rfl
        refine va_csi (va_runV (As := [.int a1]) (rest := []) ⟨hx, hb, hml, hown, hts⟩ (c_X6_owedDebtsOf l D c ts s.heap.size q h0 a1 i_a1 hi_a1) (cwV 1 hts gX6_come_X6_owedDebtsOf rfl rfl rfl ⟨rfl, hdX6_owedDebtsOf⟩ ⟨(show 0 + 1 ≤ 2 by decide), (show 8 + (4 + 11) + 0 ≤ 56 by decide)⟩) ⟨Pre0.blind, va_recv hK hPc (ci := 6) (q0 := 0) rfl rfl, Pre0.at hPc hDc hAm hSt hS hFc⟩ rfl rfl hl.1 rfl (lv_room (Nat.le_of_ble_eq_true rfl)) dX6_come_37 ⟨(show 0 + 0 ≤ 0 by decide), (show 0 + 0 ≤ 0 by decide)⟩) (fun r_6 hw_5 => ?_)
        refine lk_i (y := 0) hw_5 ?_
        refine lv_istore_n (lv' := [(3, .int 0), (0, .ref h0), (1, .int a1), (2, .int a2)]) hx hb dX6_come_40 rfl hl (by decide) rfl (fun ls hl => ?_)
        refine lv_aload_n hx hb dX6_come_41 rfl (lv_at hl 1 rfl) ?_
        refine va_get (D := D) (ci := 6) (v := .ref (q 21)) (C := RX6) (T := TX6) (N := 18) hx hb hts (fun _ h => List.mem_cons_of_mem _ (List.mem_append_left _ (List.mem_append_left _ (List.mem_append_left _ (List.mem_append_right _ h))))) hown hK hP 0 rfl rfl 12 (by decide) (hts (.fieldLink RX6 68 "CrownTable" "roll" "LCrownTable$Rows;") (mem_i 4 rfl)) (fun _ h9 => h9) rfl dX6_come_42 ?_
        refine lv_iload_n hx hb dX6_come_45 rfl (lv_at hl 0 rfl) ?_
        have hPc := hP.sub (ws' := [(q 21, .inr (2, [.int 8, .int 4000, .ref (q 22), .int 0]))]) [4] rfl
        have hDc := hD.sub (ws' := [(q 21, .inr (2, [.int 8, .int 4000, .ref (q 22), .int 0]))]) [4] (by decide) rfl
        have hFc := va_free (wc := [(q 21, .inr (2, [.int 8, .int 4000, .ref (q 22), .int 0]))]) hD hS hA [4] rfl
        refine va_csi (va_runVN (As := [.int 0]) (rest := []) ⟨hx, hb, hml, hown, hts⟩ (c_X2_hasRoom_1 l D c ts s.heap.size (q 21) (q 22)) ⟨va_cnB 1 hts gX6_come_X2_hasRoom_n172 rfl rfl rfl (show va_Nw (.methodLinkNest RX6 172 yX2_hasRoom RX6) _ from hAm.2.1.1 (RX6, 172, yX2_hasRoom, RX6) (mem_i 19 rfl)) (hts (.initialized RX2) (mem_i 26 rfl)) hdX2_hasRoom ⟨(show 0 + 1 ≤ 2 by decide), (show 8 + (2 + 11) + 0 ≤ 56 by decide)⟩, (hts (.instanceMethod yX2_hasRoom) (mem_i 36 rfl)), (hts (.selects RX2 yX2_hasRoom yX2_hasRoom) (mem_i 37 rfl))⟩ ⟨Pre0.blind, va_recv hK hPc (ci := 2) (q0 := 0) rfl rfl, Pre0.at hPc hDc hAm hSt hS hFc⟩ rfl rfl hl.1 rfl (lv_room (Nat.le_of_ble_eq_true rfl)) dX6_come_46 ⟨(show 0 + 0 ≤ 0 by decide), (show 0 + 0 ≤ 0 by decide)⟩) (fun r_8 hw_7 => ?_)
        refine lk_i (y := 1) hw_7 ?_
        refine iif_eqF (a := 1) (tgt := 63) hx hb (by decide) dX6_come_49 (by decide) (by decide) ?_
        refine lv_aload_n hx hb dX6_come_52 rfl (lv_at hl 1 rfl) ?_
        refine va_get (D := D) (ci := 6) (v := .ref (q 23)) (C := RX6) (T := TX6) (N := 18) hx hb hts (fun _ h => List.mem_cons_of_mem _ (List.mem_append_left _ (List.mem_append_left _ (List.mem_append_left _ (List.mem_append_right _ h))))) hown hK hP 0 rfl rfl 13 (by decide) (hts (.fieldLink RX6 71 "CrownTable" "sticks" "LCrownTable$Rows;") (mem_i 5 rfl)) (fun _ h9 => h9) rfl dX6_come_53 ?_
        refine lv_iload_n hx hb dX6_come_56 rfl (lv_at hl 0 rfl) ?_
        have hPc := hP.sub (ws' := [(q 23, .inr (2, [.int 1, .int 2000, .ref (q 24), .int 0]))]) [5] rfl
        have hDc := hD.sub (ws' := [(q 23, .inr (2, [.int 1, .int 2000, .ref (q 24), .int 0]))]) [5] (by decide) rfl
        have hFc := va_free (wc := [(q 23, .inr (2, [.int 1, .int 2000, .ref (q 24), .int 0]))]) hD hS hA [5] rfl
        refine va_csi (va_runVN (As := [.int 0]) (rest := []) ⟨hx, hb, hml, hown, hts⟩ (c_X2_hasRoom_2 l D c ts s.heap.size (q 23) (q 24)) ⟨va_cnB 1 hts gX6_come_X2_hasRoom_n172 rfl rfl rfl (show va_Nw (.methodLinkNest RX6 172 yX2_hasRoom RX6) _ from hAm.2.1.1 (RX6, 172, yX2_hasRoom, RX6) (mem_i 19 rfl)) (hts (.initialized RX2) (mem_i 26 rfl)) hdX2_hasRoom ⟨(show 0 + 1 ≤ 2 by decide), (show 8 + (2 + 11) + 0 ≤ 56 by decide)⟩, (hts (.instanceMethod yX2_hasRoom) (mem_i 36 rfl)), (hts (.selects RX2 yX2_hasRoom yX2_hasRoom) (mem_i 37 rfl))⟩ ⟨Pre0.blind, va_recv hK hPc (ci := 2) (q0 := 0) rfl rfl, Pre0.at hPc hDc hAm hSt hS hFc⟩ rfl rfl hl.1 rfl (lv_room (Nat.le_of_ble_eq_true rfl)) dX6_come_57 ⟨(show 0 + 0 ≤ 0 by decide), (show 0 + 0 ≤ 0 by decide)⟩) (fun r_10 hw_9 => ?_)
        refine lk_i (y := 1) hw_9 ?_
        refine iif_neT (a := 1) (tgt := 66) hx hb (by decide) dX6_come_60 (by decide) (by decide) ?_
        refine lv_aload_n hx hb dX6_come_66 rfl (lv_at hl 1 rfl) ?_
        refine va_get (D := D) (ci := 6) (v := .ref (q 16)) (C := RX6) (T := TX6) (N := 18) hx hb hts (fun _ h => List.mem_cons_of_mem _ (List.mem_append_left _ (List.mem_append_left _ (List.mem_append_left _ (List.mem_append_right _ h))))) hown hK hP 0 rfl rfl 8 (by decide) (hts (.fieldLink RX6 55 "CrownTable" "cameAt" "[I") (mem_i 2 rfl)) (fun _ h9 => h9) rfl dX6_come_67 ?_
        refine lv_iload_n hx hb dX6_come_70 rfl (lv_at hl 2 rfl) ?_
        refine lv_aload_n hx hb dX6_come_71 rfl (lv_at hl 1 rfl) ?_
        refine va_get (D := D) (ci := 6) (v := .int 0) (C := RX6) (T := TX6) (N := 18) hx hb hts (fun _ h => List.mem_cons_of_mem _ (List.mem_append_left _ (List.mem_append_left _ (List.mem_append_left _ (List.mem_append_right _ h))))) hown hK hP 0 rfl rfl 15 (by decide) (hts (.fieldLink RX6 120 "CrownTable" "now" "I") (mem_i 3 rfl)) (fun _ h9 => h9) rfl dX6_come_72 ?_
        refine va_iast hx hb hK hP hD hS 2 1 rfl rfl (vin (a := i_a1) hi_a1 (by omega) (by omega)) dX6_come_75 (fun H locs hP hD hS => ?_)
        obtain ⟨f_11, hP, hD⟩ : ∃ f_11 : Nat → Int32, va_P D vwCl [(h0, .inr (6, o6 q 0 0 0 0)), (q 14, .inl (c 2, 16, .inr (.inl (fun _ => 0)))), (q 16, .inl (c 1, 16, .inl f_11)), (q 19, .inr (2, [.int 7, .int 400, .ref (q 20), .int 0])), (q 21, .inr (2, [.int 8, .int 4000, .ref (q 22), .int 0])), (q 23, .inr (2, [.int 1, .int 2000, .ref (q 24), .int 0])), (q 12, .inr (2, [.int 2, .int 40, .ref (q 13), .int 0]))] H ∧ va_D A [(h0, .inr (6, o6 q 0 0 0 0)), (q 14, .inl (c 2, 16, .inr (.inl (fun _ => 0)))), (q 16, .inl (c 1, 16, .inl f_11)), (q 19, .inr (2, [.int 7, .int 400, .ref (q 20), .int 0])), (q 21, .inr (2, [.int 8, .int 4000, .ref (q 22), .int 0])), (q 23, .inr (2, [.int 1, .int 2000, .ref (q 24), .int 0])), (q 12, .inr (2, [.int 2, .int 40, .ref (q 13), .int 0]))] := ⟨_, hP, hD⟩
        refine lv_aload_n hx hb dX6_come_76 rfl (lv_at hl 1 rfl) ?_
        refine lv_dup hx hb dX6_come_77 rfl ?_
        refine va_get (D := D) (ci := 6) (v := .long 0) (C := RX6) (T := TX6) (N := 18) hx hb hts (fun _ h => List.mem_cons_of_mem _ (List.mem_append_left _ (List.mem_append_left _ (List.mem_append_left _ (List.mem_append_right _ h))))) hown hK hP 0 rfl rfl 17 (by decide) (hts (.fieldLink RX6 187 "CrownTable" "brought" "J") (mem_i 6 rfl)) (fun _ h9 => h9) rfl dX6_come_78 ?_
        refine lv_iload_n hx hb dX6_come_81 rfl (lv_at hl 3 rfl) ?_
        refine lv_i2l hx hb dX6_come_82 rfl ?_
        refine lv_ladd hx hb dX6_come_83 ?_
        refine lv_topl (fun x_12 ex_12 => ?_)
        refine va_put (D := D) (ci := 6) (v := .long x_12) (ty := .long) (C := RX6) (T := TX6) (N := 18) hx hb hts (fun _ h => List.mem_cons_of_mem _ (List.mem_append_left _ (List.mem_append_left _ (List.mem_append_left _ (List.mem_append_right _ h))))) tyX6 tyX6_ok nmX6 hown hK hP hD hS 0 rfl rfl 17 (by decide) (hts (.fieldLink RX6 187 "CrownTable" "brought" "J") (mem_i 6 rfl)) (fun _ h9 => h9) rfl (by decide +kernel) rfl rfl (Nat.le_of_ble_eq_true rfl) dX6_come_84 (fun H locs hP hD hS => ?_)
        have hP : va_P D vwCl [(h0, .inr (6, o6 q 0 0 0 x_12)), (q 14, .inl (c 2, 16, .inr (.inl (fun _ => 0)))), (q 16, .inl (c 1, 16, .inl f_11)), (q 19, .inr (2, [.int 7, .int 400, .ref (q 20), .int 0])), (q 21, .inr (2, [.int 8, .int 4000, .ref (q 22), .int 0])), (q 23, .inr (2, [.int 1, .int 2000, .ref (q 24), .int 0])), (q 12, .inr (2, [.int 2, .int 40, .ref (q 13), .int 0]))] H := hP
        have hD : va_D A [(h0, .inr (6, o6 q 0 0 0 x_12)), (q 14, .inl (c 2, 16, .inr (.inl (fun _ => 0)))), (q 16, .inl (c 1, 16, .inl f_11)), (q 19, .inr (2, [.int 7, .int 400, .ref (q 20), .int 0])), (q 21, .inr (2, [.int 8, .int 4000, .ref (q 22), .int 0])), (q 23, .inr (2, [.int 1, .int 2000, .ref (q 24), .int 0])), (q 12, .inr (2, [.int 2, .int 40, .ref (q 13), .int 0]))] := hD
        refine lv_aload_n hx hb dX6_come_87 rfl (lv_at hl 1 rfl) ?_
        refine va_get (D := D) (ci := 6) (v := .ref (q 14)) (C := RX6) (T := TX6) (N := 18) hx hb hts (fun _ h => List.mem_cons_of_mem _ (List.mem_append_left _ (List.mem_append_left _ (List.mem_append_left _ (List.mem_append_right _ h))))) hown hK hP 0 rfl rfl 6 (by decide) (hts (.fieldLink RX6 47 "CrownTable" "credits" "[J") (mem_i 7 rfl)) (fun _ h9 => h9) rfl dX6_come_88 ?_
        refine lv_iload_n hx hb dX6_come_91 rfl (lv_at hl 2 rfl) ?_
        refine va_lald hx hb hK hP 1 2 rfl rfl (vin (a := i_a1) hi_a1 (by omega) (by omega)) dX6_come_92 ?_
        refine lk_l (y := 0) rfl ?_
        refine lv_iload_n hx hb dX6_come_93 rfl (lv_at hl 3 rfl) ?_
        refine lv_i2l hx hb dX6_come_94 rfl ?_
        refine lv_ladd hx hb dX6_come_95 ?_
        refine lv_topl (fun x_13 ex_13 => ?_)
        refine lv_lstore (lv' := [(4, .long x_13), (3, .int 0), (0, .ref h0), (1, .int a1), (2, .int a2)]) hx hb dX6_come_96 hl (by decide) rfl (fun ls hl => ?_)
        refine lv_aload_n hx hb dX6_come_98 rfl (lv_at hl 2 rfl) ?_
        refine va_get (D := D) (ci := 6) (v := .ref (q 14)) (C := RX6) (T := TX6) (N := 18) hx hb hts (fun _ h => List.mem_cons_of_mem _ (List.mem_append_left _ (List.mem_append_left _ (List.mem_append_left _ (List.mem_append_right _ h))))) hown hK hP 0 rfl rfl 6 (by decide) (hts (.fieldLink RX6 47 "CrownTable" "credits" "[J") (mem_i 7 rfl)) (fun _ h9 => h9) rfl dX6_come_99 ?_
        refine lv_iload_n hx hb dX6_come_102 rfl (lv_at hl 3 rfl) ?_
        refine lv_lload hx hb dX6_come_103 (lv_at hl 0 rfl) ?_
        refine lv_aload_n hx hb dX6_come_105 rfl (lv_at hl 2 rfl) ?_
        refine lv_iload_n hx hb dX6_come_106 rfl (lv_at hl 3 rfl) ?_
        refine lv_lload hx hb dX6_come_107 (lv_at hl 0 rfl) ?_
        have hPc := hP.sub (ws' := [(h0, .inr (6, o6 q 0 0 0 x_12)), (q 12, .inr (2, [.int 2, .int 40, .ref (q 13), .int 0])), (q 19, .inr (2, [.int 7, .int 400, .ref (q 20), .int 0]))]) [0, 6, 3] rfl
        have hDc := hD.sub (ws' := [(h0, .inr (6, o6 q 0 0 0 x_12)), (q 12, .inr (2, [.int 2, .int 40, .ref (q 13), .int 0])), (q 19, .inr (2, [.int 7, .int 400, .ref (q 20), .int 0]))]) [0, 6, 3] (by decide) rfl
        have hFc := va_free (wc := [(h0, .inr (6, o6 q 0 0 0 x_12)), (q 12, .inr (2, [.int 2, .int 40, .ref (q 13), .int 0])), (q 19, .inr (2, [.int 7, .int 400, .ref (q 20), .int 0]))]) hD hS hA [0, 6, 3] rfl
        refine va_csl (va_runV (As := [.int a1, .long x_13]) (rest := [.long x_13, .int a1, .ref (q 14)]) ⟨hx, hb, hml, hown, hts⟩ (c_X6_askAll l D c ts H.size q h0 a1 i_a1 hi_a1 x_12 x_13) (cwV 2 hts gX6_come_X6_askAll rfl rfl rfl ⟨rfl, hdX6_askAll⟩ ⟨(show 1 + 1 ≤ 2 by decide), (show 8 + (13 + 11) + 24 ≤ 56 by decide)⟩) ⟨Pre0.blind, va_recv hK hPc (ci := 6) (q0 := 0) rfl rfl, Pre0.at hPc hDc hAm hSt hS hFc⟩ rfl rfl hl.1 rfl (lv_room (Nat.le_of_ble_eq_true rfl)) dX6_come_109 ⟨(show 0 + 0 ≤ 0 by decide), (show 0 + 0 ≤ 0 by decide)⟩) (fun r_15 hw_14 => ?_)
        refine lk_l (y := 0) hw_14 ?_
        refine lv_lsub hx hb dX6_come_112 ?_
        refine lv_topl (fun x_16 ex_16 => ?_)
        refine va_last hx hb hK hP hD hS 1 2 rfl rfl (vin (a := i_a1) hi_a1 (by omega) (by omega)) dX6_come_113 (fun H locs hP hD hS => ?_)
        obtain ⟨g_17, hP, hD⟩ : ∃ g_17 : Nat → Int64, va_P D vwCl [(h0, .inr (6, o6 q 0 0 0 x_12)), (q 14, .inl (c 2, 16, .inr (.inl g_17))), (q 16, .inl (c 1, 16, .inl f_11)), (q 19, .inr (2, [.int 7, .int 400, .ref (q 20), .int 0])), (q 21, .inr (2, [.int 8, .int 4000, .ref (q 22), .int 0])), (q 23, .inr (2, [.int 1, .int 2000, .ref (q 24), .int 0])), (q 12, .inr (2, [.int 2, .int 40, .ref (q 13), .int 0]))] H ∧ va_D A [(h0, .inr (6, o6 q 0 0 0 x_12)), (q 14, .inl (c 2, 16, .inr (.inl g_17))), (q 16, .inl (c 1, 16, .inl f_11)), (q 19, .inr (2, [.int 7, .int 400, .ref (q 20), .int 0])), (q 21, .inr (2, [.int 8, .int 4000, .ref (q 22), .int 0])), (q 23, .inr (2, [.int 1, .int 2000, .ref (q 24), .int 0])), (q 12, .inr (2, [.int 2, .int 40, .ref (q 13), .int 0]))] := ⟨_, hP, hD⟩
        refine lv_iload_n hx hb dX6_come_114 rfl (lv_at hl 1 rfl) ?_
        refine W.widen (k := 0) (n := 0) (by omega) (by omega) ?_
        exact W.iret (v := 0) hx hb hr (fun t ht hW => ⟨⟨_, (), rfl, Or.inl ⟨by omega, rfl⟩, trivial⟩, hS.F ht⟩) hS.2.2 dX6_come_115
      · skip
        refine lv_iconst (v := (-1)) hx hb dX6_come_17 (by decide) ?_
        refine W.widen (k := 0) (n := 0) (by omega) (by omega) ?_
        exact W.iret (v := (-1)) hx hb hr (fun t ht hW => ⟨⟨_, (), rfl, Or.inr (⟨by omega, rfl⟩), trivial⟩, hS.F ht⟩) hS.2.2 dX6_come_18
  · skip
    refine iif_eqT (a := 0) (tgt := 17) hx hb (by decide) dX6_come_4 (by decide) (by decide) ?_
    refine lv_iconst (v := (-1)) hx hb dX6_come_17 (by decide) ?_
    refine W.widen (k := 0) (n := 0) (by omega) (by omega) ?_
    exact W.iret (v := (-1)) hx hb hr (fun t ht hW => ⟨⟨_, (), rfl, Or.inr (⟨by omega, rfl⟩), trivial⟩, hS.F ht⟩) hS.2.2 dX6_come_18

set_option maxHeartbeats 4000000 in
set_option maxRecDepth 100000 in
theorem c_X7_in_10 (l : Launch) (D : va_G) (c : Nat → ClassId) (ts : Nat × Nat) (sz : Nat)  (a0 : Int32) (i_a0 : Int) (hi_a0 : a0.toInt = i_a0) : Met l yX7_in wsX7_in ({ frames := 0, cells := 0, slots := 0, locals := 0 }) (va_Pc [.int a0, .int 0, .int 1000000] (Pre0 D c ts [] sz)) (vp_Si (fun r : Int32 => ((0 ≤ i_a0 ∧ i_a0 ≤ 1000000) ∧ r = 1) ∨ ((¬ (0 ≤ i_a0 ∧ i_a0 ≤ 1000000)) ∧ r = 0))) 0 0 (fun _ => False) := by
  refine Met.ofW (cc := cX7_in) (maxL := 3) (ret := (some .boolean)) (by decide) rfl ?_
  intro p e s m args below meth cd s₁ B hml hv
  obtain ⟨rfl, hsz, hP, hD0, hAm, hSt⟩ := hv
  have hx := B.exec
  have hb := B.bytes
  have hr := B.returns
  have hts := atoms_spec (ws := wsX7_in) B.pre
  have hown : s.vm.findClass RX7 = some m.cls := findClass_of_methodNamed B.named
  have hlocks := B.notSynchronized
  subst hsz
  have hK := hAm.1
  have hD := hD0.self (sz := s.heap.size)
  generalize hAe : va_A [] s.heap.size = A at hD hSt
  have hA : ∀ q : Nat, s.heap.size ≤ q → A q := fun q h => by rw [← hAe]; exact Or.inr h
  have hS : va_S A s.heap s.heap [] := va_S.rf
  clear hD0 hAe
  have hl := lv_entry ([.int a0, .int 0, .int 1000000]) (n := 3) (Nat.le_of_ble_eq_true rfl)
  rw [lg_entry_eq]
  generalize (lg_sl ([.int a0, .int 0, .int 1000000]) ++ List.replicate (3 - (lg_sl ([.int a0, .int 0, .int 1000000])).length) Slot.unset).toArray = ls at hl ⊢
  have hl : lv_has ls 3 [(0, .int a0), (1, .int 0), (2, .int 1000000)] := hl
  refine lv_iload_n hx hb dX7_in_0 rfl (lv_at hl 0 rfl) ?_
  refine lv_iload_n hx hb dX7_in_1 rfl (lv_at hl 1 rfl) ?_
  refine iicmp_lt (a := i_a0) (b := 0) (tgt := 14) hx hb hi_a0 (by decide) dX7_in_2 (by decide) (fun k_1 => ?_) (fun k_1 => ?_)
  · skip
    refine lv_iconst (v := 0) hx hb dX7_in_14 (by decide) ?_
    exact W.zret (v := 0) hx hb hr (by decide) (fun t ht hW => ⟨_, rfl, Or.inr (⟨by omega, rfl⟩), ht⟩) (fun _ h => by cases h) dX7_in_15
  · skip
    refine lv_iload_n hx hb dX7_in_5 rfl (lv_at hl 0 rfl) ?_
    refine lv_iload_n hx hb dX7_in_6 rfl (lv_at hl 2 rfl) ?_
    refine iicmp_gt (a := i_a0) (b := 1000000) (tgt := 14) hx hb hi_a0 (by decide) dX7_in_7 (by decide) (fun k_2 => ?_) (fun k_2 => ?_)
    · skip
      refine lv_iconst (v := 0) hx hb dX7_in_14 (by decide) ?_
      exact W.zret (v := 0) hx hb hr (by decide) (fun t ht hW => ⟨_, rfl, Or.inr (⟨by omega, rfl⟩), ht⟩) (fun _ h => by cases h) dX7_in_15
    · skip
      refine lv_iconst (v := 1) hx hb dX7_in_10 (by decide) ?_
      refine lv_goto (tgt := 15) hx hb dX7_in_11 (by decide) ?_
      exact W.zret (v := 1) hx hb hr (by decide) (fun t ht hW => ⟨_, rfl, Or.inl ⟨by omega, rfl⟩, ht⟩) (fun _ h => by cases h) dX7_in_15

set_option maxHeartbeats 4000000 in
set_option maxRecDepth 100000 in
theorem c_X7_forceAt_1 (l : Launch) (D : va_G) (c : Nat → ClassId) (ts : Nat × Nat) (sz : Nat) (q : Nat → Nat) (h0 : Nat) (j0 : Int64) : Met l yX7_forceAt wsX7_forceAt ({ frames := 0, cells := 0, slots := 0, locals := 0 }) (va_Pc [.ref h0, .int 0] (Pre0 D c ts [(h0, .inr (7, o7 q v0 (vp_updL w0 39 j0)))] sz)) (vp_Si (fun r : Int32 => r = (-1))) 0 0 (fun _ => False) := by
  refine Met.ofW (cc := cX7_forceAt) (maxL := 3) (ret := (some .int)) (by decide) rfl ?_
  intro p e s m args below meth cd s₁ B hml hv
  obtain ⟨rfl, hsz, hP, hD0, hAm, hSt⟩ := hv
  have hx := B.exec
  have hb := B.bytes
  have hr := B.returns
  have hts := atoms_spec (ws := wsX7_forceAt) B.pre
  have hown : s.vm.findClass RX7 = some m.cls := findClass_of_methodNamed B.named
  have hlocks := B.notSynchronized
  subst hsz
  have hK := hAm.1
  have hD := hD0.self (sz := s.heap.size)
  generalize hAe : va_A [(h0, .inr (7, o7 q v0 (vp_updL w0 39 j0)))] s.heap.size = A at hD hSt
  have hA : ∀ q : Nat, s.heap.size ≤ q → A q := fun q h => by rw [← hAe]; exact Or.inr h
  have hS : va_S A s.heap s.heap [] := va_S.rf
  clear hD0 hAe
  have hl := lv_entry ([.ref h0, .int 0]) (n := 3) (Nat.le_of_ble_eq_true rfl)
  rw [lg_entry_eq]
  generalize (lg_sl ([.ref h0, .int 0]) ++ List.replicate (3 - (lg_sl ([.ref h0, .int 0])).length) Slot.unset).toArray = ls at hl ⊢
  have hl : lv_has ls 3 [(0, .ref h0), (1, .int 0)] := hl
  refine lv_aload_n hx hb dX7_forceAt_0 rfl (lv_at hl 0 rfl) ?_
  refine va_get (D := D) (ci := 7) (v := .int 0) (C := RX7) (T := TX7) (N := 56) hx hb hts (fun _ h => List.mem_cons_of_mem _ (List.mem_append_right _ h)) hown hK hP 0 rfl rfl 21 (by decide) (hts (.fieldLink RX7 270 "CrownTableModel" "forces" "I") (mem_i 1 rfl)) (fun _ h9 => h9) rfl dX7_forceAt_1 ?_
  refine lv_iconst (v := 1) hx hb dX7_forceAt_4 (by decide) ?_
  refine lv_isub hx hb dX7_forceAt_5 ?_
  refine lk_i (y := (-1)) (by decide) ?_
  refine lv_istore_n (lv' := [(2, .int (-1)), (0, .ref h0), (1, .int 0)]) hx hb dX7_forceAt_6 rfl hl (by decide) rfl (fun ls hl => ?_)
  refine lv_iload_n hx hb dX7_forceAt_7 rfl (lv_at hl 0 rfl) ?_
  refine iif_ltT (a := (-1)) (tgt := 34) hx hb (by decide) dX7_forceAt_8 (by decide) (by decide) ?_
  refine lv_iconst (v := (-1)) hx hb dX7_forceAt_34 (by decide) ?_
  exact W.iret (v := (-1)) hx hb hr (fun t ht hW => ⟨_, rfl, rfl, ht⟩) (fun _ h => by cases h) dX7_forceAt_35

set_option maxHeartbeats 4000000 in
set_option maxRecDepth 100000 in
theorem c_X7_come (l : Launch) (D : va_G) (c : Nat → ClassId) (ts : Nat × Nat) (sz : Nat) (q : Nat → Nat) (h0 : Nat) (a1 : Int32) (i_a1 : Int) (hi_a1 : a1.toInt = i_a1) (a2 : Int32) (i_a2 : Int) (hi_a2 : a2.toInt = i_a2) : Met l yX7_come wsX7_come ({ frames := 2, cells := 0, slots := 0, locals := 42 }) (va_Pc [.ref h0, .int a1, .int a2] (Pre0 D c ts [(h0, .inr (7, o7 q v0 w0)), (q 35, .inl (c 2, 16, .inr (.inl (fun _ => 0)))), (q 37, .inl (c 1, 16, .inl (fun _ => (-1))))] sz)) (va_Qi (fun (r : Int32) (u : Unit) => ((0 ≤ i_a1 ∧ i_a1 ≤ 15 ∧ 0 ≤ i_a2 ∧ i_a2 ≤ 1000000) ∧ r = 0) ∨ ((¬ (0 ≤ i_a1 ∧ i_a1 ≤ 15 ∧ 0 ≤ i_a2 ∧ i_a2 ≤ 1000000)) ∧ r = (-1))) (fun _ _ => True) (va_A [(h0, .inr (7, o7 q v0 w0)), (q 35, .inl (c 2, 16, .inr (.inl (fun _ => 0)))), (q 37, .inl (c 1, 16, .inl (fun _ => (-1))))] sz)) 0 0 (va_A [(h0, .inr (7, o7 q v0 w0)), (q 35, .inl (c 2, 16, .inr (.inl (fun _ => 0)))), (q 37, .inl (c 1, 16, .inl (fun _ => (-1))))] sz) := by
  refine Met.ofW (cc := cX7_come) (maxL := 12) (ret := (some .int)) (by decide) rfl ?_
  intro p e s m args below meth cd s₁ B hml hv
  obtain ⟨rfl, hsz, hP, hD0, hAm, hSt⟩ := hv
  have hx := B.exec
  have hb := B.bytes
  have hr := B.returns
  have hts := atoms_spec (ws := wsX7_come) B.pre
  have hown : s.vm.findClass RX7 = some m.cls := findClass_of_methodNamed B.named
  have hlocks := B.notSynchronized
  subst hsz
  have hK := hAm.1
  have hD := hD0.self (sz := s.heap.size)
  generalize hAe : va_A [(h0, .inr (7, o7 q v0 w0)), (q 35, .inl (c 2, 16, .inr (.inl (fun _ => 0)))), (q 37, .inl (c 1, 16, .inl (fun _ => (-1))))] s.heap.size = A at hD hSt ⊢
  have hA : ∀ q : Nat, s.heap.size ≤ q → A q := fun q h => by rw [← hAe]; exact Or.inr h
  have hS : va_S A s.heap s.heap [] := va_S.rf
  clear hD0 hAe
  have hl := lv_entry ([.ref h0, .int a1, .int a2]) (n := 12) (Nat.le_of_ble_eq_true rfl)
  rw [lg_entry_eq]
  generalize (lg_sl ([.ref h0, .int a1, .int a2]) ++ List.replicate (12 - (lg_sl ([.ref h0, .int a1, .int a2])).length) Slot.unset).toArray = ls at hl ⊢
  have hl : lv_has ls 12 [(0, .ref h0), (1, .int a1), (2, .int a2)] := hl
  refine lv_iload_n hx hb dX7_come_0 rfl (lv_at hl 1 rfl) ?_
  have hPc := hP.sub (ws' := []) [] rfl
  have hDc := hD.sub (ws' := []) [] (by decide) rfl
  have hFc := va_free (wc := []) hD hS hA [] rfl
  refine va_csi (va_runS (As := [.int a1]) (rest := []) ⟨hx, hb, hml, hown, hts⟩ (c_X7_isPerson l D c ts s.heap.size a1 i_a1 hi_a1) (cwS 1 hts gX7_come_X7_isPerson rfl rfl rfl ⟨rfl, hdX7_isPerson⟩ ⟨(show 1 + 1 ≤ 2 by decide), (show 8 + (1 + 11) + 22 ≤ 42 by decide)⟩) ⟨Pre0.blind, Pre0.at hPc hDc hAm hSt hS hFc⟩ rfl rfl hl.1 rfl (lv_room (Nat.le_of_ble_eq_true rfl)) dX7_come_1 ⟨(show 0 + 0 ≤ 0 by decide), (show 0 + 0 ≤ 0 by decide)⟩) (fun r_2 hw_1 => ?_)
  rcases hw_1 with ⟨hw_1, rfl⟩ | ⟨hw_1, rfl⟩
  · skip
    refine iif_eqF (a := 1) (tgt := 18) hx hb (by decide) dX7_come_4 (by decide) (by decide) ?_
    refine lv_iload_n hx hb dX7_come_7 rfl (lv_at hl 2 rfl) ?_
    refine lv_iconst (v := 0) hx hb dX7_come_8 (by decide) ?_
    refine lv_ldcw (v := 1000000) hx hb hown (hts (.constant RX7 284 (1000000)) (mem_i 1 rfl)) dX7_come_9 ?_
    have hPc := hP.sub (ws' := []) [] rfl
    have hDc := hD.sub (ws' := []) [] (by decide) rfl
    have hFc := va_free (wc := []) hD hS hA [] rfl
    refine va_csi (va_runS (As := [.int a2, .int 0, .int 1000000]) (rest := []) ⟨hx, hb, hml, hown, hts⟩ (c_X7_in_10 l D c ts s.heap.size a2 i_a2 hi_a2) (cwS 3 hts gX7_come_X7_in rfl rfl rfl ⟨rfl, hdX7_in⟩ ⟨(show 0 + 1 ≤ 2 by decide), (show 8 + (3 + 11) + 0 ≤ 42 by decide)⟩) ⟨Pre0.blind, Pre0.at hPc hDc hAm hSt hS hFc⟩ rfl rfl hl.1 rfl (lv_room (Nat.le_of_ble_eq_true rfl)) dX7_come_12 ⟨(show 0 + 0 ≤ 0 by decide), (show 0 + 0 ≤ 0 by decide)⟩) (fun r_4 hw_3 => ?_)
    rcases hw_3 with ⟨hw_3, rfl⟩ | ⟨hw_3, rfl⟩
    · skip
      refine iif_neT (a := 1) (tgt := 20) hx hb (by decide) dX7_come_15 (by decide) (by decide) ?_
      refine lv_aload_n hx hb dX7_come_20 rfl (lv_at hl 0 rfl) ?_
      refine va_get (D := D) (ci := 7) (v := .ref (q 37)) (C := RX7) (T := TX7) (N := 56) hx hb hts (fun _ h => List.mem_cons_of_mem _ (List.mem_append_right _ h)) hown hK hP 0 rfl rfl 37 (by decide) (hts (.fieldLink RX7 79 "CrownTableModel" "cameAt" "[I") (mem_i 2 rfl)) (fun _ h9 => h9) rfl dX7_come_21 ?_
      refine lv_iload_n hx hb dX7_come_24 rfl (lv_at hl 1 rfl) ?_
      refine va_iald hx hb hK hP 2 1 rfl rfl (vin (a := i_a1) hi_a1 (by omega) (by omega)) dX7_come_25 ?_
      refine lk_i (y := (-1)) rfl ?_
      refine lv_aload_n hx hb dX7_come_26 rfl (lv_at hl 0 rfl) ?_
      refine va_get (D := D) (ci := 7) (v := .int 0) (C := RX7) (T := TX7) (N := 56) hx hb hts (fun _ h => List.mem_cons_of_mem _ (List.mem_append_right _ h)) hown hK hP 0 rfl rfl 24 (by decide) (hts (.fieldLink RX7 267 "CrownTableModel" "term" "I") (mem_i 3 rfl)) (fun _ h9 => h9) rfl dX7_come_27 ?_
      refine iicmp_neT (a := (-1)) (b := 0) (tgt := 36) hx hb (by decide) (by decide) dX7_come_30 (by decide) (by decide) ?_
      refine lv_aload_n hx hb dX7_come_36 rfl (lv_at hl 0 rfl) ?_
      refine lv_iload_n hx hb dX7_come_37 rfl (lv_at hl 1 rfl) ?_
      have hPc := hP.sub (ws' := [(h0, .inr (7, o7 q v0 w0))]) [0] rfl
      have hDc := hD.sub (ws' := [(h0, .inr (7, o7 q v0 w0))]) [0] (by decide) rfl
      have hFc := va_free (wc := [(h0, .inr (7, o7 q v0 w0))]) hD hS hA [0] rfl
      refine va_csi (va_runV (As := [.int a1]) (rest := []) ⟨hx, hb, hml, hown, hts⟩ (c_X7_owedOf l D c ts s.heap.size q h0 a1 i_a1 hi_a1) (cwV 1 hts gX7_come_X7_owedOf rfl rfl rfl ⟨rfl, hdX7_owedOf⟩ ⟨(show 0 + 1 ≤ 2 by decide), (show 8 + (4 + 11) + 0 ≤ 42 by decide)⟩) ⟨Pre0.blind, va_recv hK hPc (ci := 7) (q0 := 0) rfl rfl, Pre0.at hPc hDc hAm hSt hS hFc⟩ rfl rfl hl.1 rfl (lv_room (Nat.le_of_ble_eq_true rfl)) dX7_come_38 ⟨(show 0 + 0 ≤ 0 by decide), (show 0 + 0 ≤ 0 by decide)⟩) (fun r_6 hw_5 => ?_)
      refine lk_i (y := 0) hw_5 ?_
      refine lv_istore_n (lv' := [(3, .int 0), (0, .ref h0), (1, .int a1), (2, .int a2)]) hx hb dX7_come_41 rfl hl (by decide) rfl (fun ls hl => ?_)
      refine lv_aload_n hx hb dX7_come_42 rfl (lv_at hl 1 rfl) ?_
      refine va_get (D := D) (ci := 7) (v := .int 0) (C := RX7) (T := TX7) (N := 56) hx hb hts (fun _ h => List.mem_cons_of_mem _ (List.mem_append_right _ h)) hown hK hP 0 rfl rfl 42 (by decide) (hts (.fieldLink RX7 319 "CrownTableModel" "lines" "I") (mem_i 4 rfl)) (fun _ h9 => h9) rfl dX7_come_43 ?_
      refine lv_iload_n hx hb dX7_come_46 rfl (lv_at hl 0 rfl) ?_
      refine lv_iadd hx hb dX7_come_47 ?_
      refine lk_i (y := 0) (by decide) ?_
      refine lv_sipush (v := 4000) hx hb dX7_come_48 (by decide) ?_
      refine iicmp_gtF (a := 0) (b := 4000) (tgt := 66) hx hb (by decide) (by decide) dX7_come_51 (by decide) (by decide) ?_
      refine lv_aload_n hx hb dX7_come_54 rfl (lv_at hl 1 rfl) ?_
      refine va_get (D := D) (ci := 7) (v := .int 0) (C := RX7) (T := TX7) (N := 56) hx hb hts (fun _ h => List.mem_cons_of_mem _ (List.mem_append_right _ h)) hown hK hP 0 rfl rfl 52 (by decide) (hts (.fieldLink RX7 322 "CrownTableModel" "sticks" "I") (mem_i 5 rfl)) (fun _ h9 => h9) rfl dX7_come_55 ?_
      refine lv_iload_n hx hb dX7_come_58 rfl (lv_at hl 0 rfl) ?_
      refine lv_iadd hx hb dX7_come_59 ?_
      refine lk_i (y := 0) (by decide) ?_
      refine lv_sipush (v := 2000) hx hb dX7_come_60 (by decide) ?_
      refine iicmp_leT (a := 0) (b := 2000) (tgt := 69) hx hb (by decide) (by decide) dX7_come_63 (by decide) (by decide) ?_
      refine lv_aload_n hx hb dX7_come_69 rfl (lv_at hl 1 rfl) ?_
      refine va_get (D := D) (ci := 7) (v := .ref (q 37)) (C := RX7) (T := TX7) (N := 56) hx hb hts (fun _ h => List.mem_cons_of_mem _ (List.mem_append_right _ h)) hown hK hP 0 rfl rfl 37 (by decide) (hts (.fieldLink RX7 79 "CrownTableModel" "cameAt" "[I") (mem_i 2 rfl)) (fun _ h9 => h9) rfl dX7_come_70 ?_
      refine lv_iload_n hx hb dX7_come_73 rfl (lv_at hl 2 rfl) ?_
      refine lv_aload_n hx hb dX7_come_74 rfl (lv_at hl 1 rfl) ?_
      refine va_get (D := D) (ci := 7) (v := .int 0) (C := RX7) (T := TX7) (N := 56) hx hb hts (fun _ h => List.mem_cons_of_mem _ (List.mem_append_right _ h)) hown hK hP 0 rfl rfl 24 (by decide) (hts (.fieldLink RX7 267 "CrownTableModel" "term" "I") (mem_i 3 rfl)) (fun _ h9 => h9) rfl dX7_come_75 ?_
      refine va_iast hx hb hK hP hD hS 2 1 rfl rfl (vin (a := i_a1) hi_a1 (by omega) (by omega)) dX7_come_78 (fun H locs hP hD hS => ?_)
      obtain ⟨f_7, hP, hD⟩ : ∃ f_7 : Nat → Int32, va_P D vwCl [(h0, .inr (7, o7 q v0 w0)), (q 35, .inl (c 2, 16, .inr (.inl (fun _ => 0)))), (q 37, .inl (c 1, 16, .inl f_7))] H ∧ va_D A [(h0, .inr (7, o7 q v0 w0)), (q 35, .inl (c 2, 16, .inr (.inl (fun _ => 0)))), (q 37, .inl (c 1, 16, .inl f_7))] := ⟨_, hP, hD⟩
      refine lv_aload_n hx hb dX7_come_79 rfl (lv_at hl 1 rfl) ?_
      refine lv_dup hx hb dX7_come_80 rfl ?_
      refine va_get (D := D) (ci := 7) (v := .long 0) (C := RX7) (T := TX7) (N := 56) hx hb hts (fun _ h => List.mem_cons_of_mem _ (List.mem_append_right _ h)) hown hK hP 0 rfl rfl 39 (by decide) (hts (.fieldLink RX7 325 "CrownTableModel" "brought" "J") (mem_i 6 rfl)) (fun _ h9 => h9) rfl dX7_come_81 ?_
      refine lv_iload_n hx hb dX7_come_84 rfl (lv_at hl 3 rfl) ?_
      refine lv_i2l hx hb dX7_come_85 rfl ?_
      refine lv_ladd hx hb dX7_come_86 ?_
      refine lv_topl (fun x_8 ex_8 => ?_)
      refine va_put (D := D) (ci := 7) (v := .long x_8) (ty := .long) (C := RX7) (T := TX7) (N := 56) hx hb hts (fun _ h => List.mem_cons_of_mem _ (List.mem_append_right _ h)) tyX7 tyX7_ok nmX7 hown hK hP hD hS 0 rfl rfl 39 (by decide) (hts (.fieldLink RX7 325 "CrownTableModel" "brought" "J") (mem_i 6 rfl)) (fun _ h9 => h9) rfl (by decide +kernel) rfl rfl (Nat.le_of_ble_eq_true rfl) dX7_come_87 (fun H locs hP hD hS => ?_)
      have hP : va_P D vwCl [(h0, .inr (7, o7 q v0 (vp_updL w0 39 x_8))), (q 35, .inl (c 2, 16, .inr (.inl (fun _ => 0)))), (q 37, .inl (c 1, 16, .inl f_7))] H := hP
      have hD : va_D A [(h0, .inr (7, o7 q v0 (vp_updL w0 39 x_8))), (q 35, .inl (c 2, 16, .inr (.inl (fun _ => 0)))), (q 37, .inl (c 1, 16, .inl f_7))] := hD
      refine lv_iload_n hx hb dX7_come_90 rfl (lv_at hl 3 rfl) ?_
      refine lv_i2l hx hb dX7_come_91 rfl ?_
      refine lv_aload_n hx hb dX7_come_92 rfl (lv_at hl 1 rfl) ?_
      refine va_get (D := D) (ci := 7) (v := .ref (q 35)) (C := RX7) (T := TX7) (N := 56) hx hb hts (fun _ h => List.mem_cons_of_mem _ (List.mem_append_right _ h)) hown hK hP 0 rfl rfl 35 (by decide) (hts (.fieldLink RX7 71 "CrownTableModel" "credit" "[J") (mem_i 7 rfl)) (fun _ h9 => h9) rfl dX7_come_93 ?_
      refine lv_iload_n hx hb dX7_come_96 rfl (lv_at hl 2 rfl) ?_
      refine va_lald hx hb hK hP 1 2 rfl rfl (vin (a := i_a1) hi_a1 (by omega) (by omega)) dX7_come_97 ?_
      refine lk_l (y := 0) rfl ?_
      refine lv_ladd hx hb dX7_come_98 ?_
      refine lv_topl (fun x_9 ex_9 => ?_)
      refine lv_lstore (lv' := [(4, .long x_9), (3, .int 0), (0, .ref h0), (1, .int a1), (2, .int a2)]) hx hb dX7_come_99 hl (by decide) rfl (fun ls hl => ?_)
      refine lv_aload_n hx hb dX7_come_101 rfl (lv_at hl 2 rfl) ?_
      refine va_get (D := D) (ci := 7) (v := .ref (q 35)) (C := RX7) (T := TX7) (N := 56) hx hb hts (fun _ h => List.mem_cons_of_mem _ (List.mem_append_right _ h)) hown hK hP 0 rfl rfl 35 (by decide) (hts (.fieldLink RX7 71 "CrownTableModel" "credit" "[J") (mem_i 7 rfl)) (fun _ h9 => h9) rfl dX7_come_102 ?_
      refine lv_iload_n hx hb dX7_come_105 rfl (lv_at hl 3 rfl) ?_
      refine lv_lconst (v := 0) hx hb dX7_come_106 (by decide) ?_
      refine va_last hx hb hK hP hD hS 1 2 rfl rfl (vin (a := i_a1) hi_a1 (by omega) (by omega)) dX7_come_107 (fun H locs hP hD hS => ?_)
      obtain ⟨g_10, hP, hD⟩ : ∃ g_10 : Nat → Int64, va_P D vwCl [(h0, .inr (7, o7 q v0 (vp_updL w0 39 x_8))), (q 35, .inl (c 2, 16, .inr (.inl g_10))), (q 37, .inl (c 1, 16, .inl f_7))] H ∧ va_D A [(h0, .inr (7, o7 q v0 (vp_updL w0 39 x_8))), (q 35, .inl (c 2, 16, .inr (.inl g_10))), (q 37, .inl (c 1, 16, .inl f_7))] := ⟨_, hP, hD⟩
      refine lv_lconst (v := 0) hx hb dX7_come_108 (by decide) ?_
      refine lv_lstore (lv' := [(6, .long 0), (4, .long x_9), (3, .int 0), (0, .ref h0), (1, .int a1), (2, .int a2)]) hx hb dX7_come_109 hl (by decide) rfl (fun ls hl => ?_)
      refine lv_aload_n hx hb dX7_come_111 rfl (lv_at hl 3 rfl) ?_
      refine lv_aload_n hx hb dX7_come_112 rfl (lv_at hl 3 rfl) ?_
      refine va_get (D := D) (ci := 7) (v := .int 0) (C := RX7) (T := TX7) (N := 56) hx hb hts (fun _ h => List.mem_cons_of_mem _ (List.mem_append_right _ h)) hown hK hP 0 rfl rfl 24 (by decide) (hts (.fieldLink RX7 267 "CrownTableModel" "term" "I") (mem_i 3 rfl)) (fun _ h9 => h9) rfl dX7_come_113 ?_
      have hPc := hP.sub (ws' := [(h0, .inr (7, o7 q v0 (vp_updL w0 39 x_8)))]) [0] rfl
      have hDc := hD.sub (ws' := [(h0, .inr (7, o7 q v0 (vp_updL w0 39 x_8)))]) [0] (by decide) rfl
      have hFc := va_free (wc := [(h0, .inr (7, o7 q v0 (vp_updL w0 39 x_8)))]) hD hS hA [0] rfl
      refine va_csi (va_runV (As := [.int 0]) (rest := []) ⟨hx, hb, hml, hown, hts⟩ (c_X7_forceAt_1 l D c ts H.size q h0 x_8) (cwV 1 hts gX7_come_X7_forceAt rfl rfl rfl ⟨rfl, hdX7_forceAt⟩ ⟨(show 0 + 1 ≤ 2 by decide), (show 8 + (3 + 11) + 0 ≤ 42 by decide)⟩) ⟨Pre0.blind, va_recv hK hPc (ci := 7) (q0 := 0) rfl rfl, Pre0.at hPc hDc hAm hSt hS hFc⟩ rfl rfl hl.1 rfl (lv_room (Nat.le_of_ble_eq_true rfl)) dX7_come_116 ⟨(show 0 + 0 ≤ 0 by decide), (show 0 + 0 ≤ 0 by decide)⟩) (fun r_12 hw_11 => ?_)
      refine lk_i (y := (-1)) hw_11 ?_
      refine lv_istore (lv' := [(8, .int (-1)), (6, .long 0), (4, .long x_9), (3, .int 0), (0, .ref h0), (1, .int a1), (2, .int a2)]) hx hb dX7_come_119 hl (by decide) rfl (fun ls hl => ?_)
      refine lv_iconst (v := 0) hx hb dX7_come_121 (by decide) ?_
      refine lv_istore (lv' := [(9, .int 0), (8, .int (-1)), (6, .long 0), (4, .long x_9), (3, .int 0), (0, .ref h0), (1, .int a1), (2, .int a2)]) hx hb dX7_come_122 hl (by decide) rfl (fun ls hl => ?_)
      refine lv_iconst (v := 0) hx hb dX7_come_124 (by decide) ?_
      refine lv_istore (lv' := [(10, .int 0), (9, .int 0), (8, .int (-1)), (6, .long 0), (4, .long x_9), (3, .int 0), (0, .ref h0), (1, .int a1), (2, .int a2)]) hx hb dX7_come_125 hl (by decide) rfl (fun ls hl => ?_)
      refine lv_iload hx hb dX7_come_127 (lv_at hl 0 rfl) ?_
      refine lv_aload_n hx hb dX7_come_129 rfl (lv_at hl 6 rfl) ?_
      refine va_get (D := D) (ci := 7) (v := .int 0) (C := RX7) (T := TX7) (N := 56) hx hb hts (fun _ h => List.mem_cons_of_mem _ (List.mem_append_right _ h)) hown hK hP 0 rfl rfl 27 (by decide) (hts (.fieldLink RX7 277 "CrownTableModel" "debts" "I") (mem_i 8 rfl)) (fun _ h9 => h9) rfl dX7_come_130 ?_
      refine iicmp_geT (a := 0) (b := 0) (tgt := 175) hx hb (by decide) (by decide) dX7_come_133 (by decide) (by decide) ?_
      refine lv_iconst (v := 0) hx hb dX7_come_175 (by decide) ?_
      refine lv_istore (lv' := [(10, .int 0), (9, .int 0), (8, .int (-1)), (6, .long 0), (4, .long x_9), (3, .int 0), (0, .ref h0), (1, .int a1), (2, .int a2)]) hx hb dX7_come_176 hl (by decide) rfl (fun ls hl => ?_)
      refine lv_iload hx hb dX7_come_178 (lv_at hl 0 rfl) ?_
      refine lv_aload_n hx hb dX7_come_180 rfl (lv_at hl 6 rfl) ?_
      refine va_get (D := D) (ci := 7) (v := .int 0) (C := RX7) (T := TX7) (N := 56) hx hb hts (fun _ h => List.mem_cons_of_mem _ (List.mem_append_right _ h)) hown hK hP 0 rfl rfl 27 (by decide) (hts (.fieldLink RX7 277 "CrownTableModel" "debts" "I") (mem_i 8 rfl)) (fun _ h9 => h9) rfl dX7_come_181 ?_
      refine iicmp_geT (a := 0) (b := 0) (tgt := 261) hx hb (by decide) (by decide) dX7_come_184 (by decide) (by decide) ?_
      refine lv_aload_n hx hb dX7_come_261 rfl (lv_at hl 6 rfl) ?_
      refine va_get (D := D) (ci := 7) (v := .ref (q 35)) (C := RX7) (T := TX7) (N := 56) hx hb hts (fun _ h => List.mem_cons_of_mem _ (List.mem_append_right _ h)) hown hK hP 0 rfl rfl 35 (by decide) (hts (.fieldLink RX7 71 "CrownTableModel" "credit" "[J") (mem_i 7 rfl)) (fun _ h9 => h9) rfl dX7_come_262 ?_
      refine lv_iload_n hx hb dX7_come_265 rfl (lv_at hl 7 rfl) ?_
      refine lv_dup2_11 hx hb dX7_come_266 rfl rfl ?_
      refine va_lald hx hb hK hP 1 2 rfl rfl (vin (a := i_a1) hi_a1 (by omega) (by omega)) dX7_come_267 ?_
      refine lv_topl (fun x_13 ex_13 => ?_)
      refine lv_lload hx hb dX7_come_268 (lv_at hl 4 rfl) ?_
      refine lv_ladd hx hb dX7_come_270 ?_
      refine lv_topl (fun x_14 ex_14 => ?_)
      refine va_last hx hb hK hP hD hS 1 2 rfl rfl (vin (a := i_a1) hi_a1 (by omega) (by omega)) dX7_come_271 (fun H locs hP hD hS => ?_)
      obtain ⟨g_15, hP, hD⟩ : ∃ g_15 : Nat → Int64, va_P D vwCl [(h0, .inr (7, o7 q v0 (vp_updL w0 39 x_8))), (q 35, .inl (c 2, 16, .inr (.inl g_15))), (q 37, .inl (c 1, 16, .inl f_7))] H ∧ va_D A [(h0, .inr (7, o7 q v0 (vp_updL w0 39 x_8))), (q 35, .inl (c 2, 16, .inr (.inl g_15))), (q 37, .inl (c 1, 16, .inl f_7))] := ⟨_, hP, hD⟩
      refine lv_iload hx hb dX7_come_272 (lv_at hl 1 rfl) ?_
      refine W.widen (k := 0) (n := 0) (by omega) (by omega) ?_
      exact W.iret (v := 0) hx hb hr (fun t ht hW => ⟨⟨_, (), rfl, Or.inl ⟨by omega, rfl⟩, trivial⟩, hS.F ht⟩) hS.2.2 dX7_come_274
    · skip
      refine iif_neF (a := 0) (tgt := 20) hx hb (by decide) dX7_come_15 (by decide) (by decide) ?_
      refine lv_iconst (v := (-1)) hx hb dX7_come_18 (by decide) ?_
      refine W.widen (k := 0) (n := 0) (by omega) (by omega) ?_
      exact W.iret (v := (-1)) hx hb hr (fun t ht hW => ⟨⟨_, (), rfl, Or.inr (⟨by omega, rfl⟩), trivial⟩, hS.F ht⟩) hS.2.2 dX7_come_19
  · skip
    refine iif_eqT (a := 0) (tgt := 18) hx hb (by decide) dX7_come_4 (by decide) (by decide) ?_
    refine lv_iconst (v := (-1)) hx hb dX7_come_18 (by decide) ?_
    refine W.widen (k := 0) (n := 0) (by omega) (by omega) ?_
    exact W.iret (v := (-1)) hx hb hr (fun t ht hW => ⟨⟨_, (), rfl, Or.inr (⟨by omega, rfl⟩), trivial⟩, hS.F ht⟩) hS.2.2 dX7_come_19
