set_option maxHeartbeats 4000000 in
set_option maxRecDepth 100000 in
theorem c_X3_byteAt (l : Launch) (D : va_G) (c : Nat → ClassId) (ts : Nat × Nat) (sz : Nat) (h0 : Nat) (h1 : Nat) : Met l yX3_byteAt wsX3_byteAt ({ frames := 0, cells := 0, slots := 0, locals := 0 }) (va_Pc [.ref h0, .int 0] (Pre0 D c ts [(h0, .inr (3, [.ref h1, .int 0]))] sz)) (vp_Si (fun r : Int32 => r = (-1))) 0 0 (fun _ => False) := by
  refine Met.ofW (cc := cX3_byteAt) (maxL := 2) (ret := (some .int)) (by decide) rfl ?_
  intro p e s m args below meth cd s₁ B hml hv
  obtain ⟨rfl, hsz, hP, hD0, hAm, hSt⟩ := hv
  have hx := B.exec
  have hb := B.bytes
  have hr := B.returns
  have hts := atoms_spec (ws := wsX3_byteAt) B.pre
  have hown : s.vm.findClass RX3 = some m.cls := findClass_of_methodNamed B.named
  have hlocks := B.notSynchronized
  subst hsz
  have hK := hAm.1
  have hD := hD0.self (sz := s.heap.size)
  generalize hAe : va_A [(h0, .inr (3, [.ref h1, .int 0]))] s.heap.size = A at hD hSt
  have hA : ∀ q : Nat, s.heap.size ≤ q → A q := fun q h => by rw [← hAe]; exact Or.inr h
  have hS : va_S A s.heap s.heap [] := va_S.rf
  clear hD0 hAe
  have hl := lv_entry ([.ref h0, .int 0]) (n := 2) (Nat.le_of_ble_eq_true rfl)
  rw [lg_entry_eq]
  generalize (lg_sl ([.ref h0, .int 0]) ++ List.replicate (2 - (lg_sl ([.ref h0, .int 0])).length) Slot.unset).toArray = ls at hl ⊢
  have hl : lv_has ls 2 [(0, .ref h0), (1, .int 0)] := hl
  refine lv_iload_n hx hb dX3_byteAt_0 rfl (lv_at hl 1 rfl) ?_
  refine iif_ltF (a := 0) (tgt := 19) hx hb (by decide) dX3_byteAt_1 (by decide) (by decide) ?_
  refine lv_iload_n hx hb dX3_byteAt_4 rfl (lv_at hl 1 rfl) ?_
  refine lv_aload_n hx hb dX3_byteAt_5 rfl (lv_at hl 0 rfl) ?_
  refine va_get (D := D) (ci := 3) (v := .int 0) (C := RX3) (T := TX3) (N := 2) hx hb hts (fun _ h => List.mem_cons_of_mem _ (List.mem_append_right _ h)) hown hK hP 0 rfl rfl 1 (by decide) (hts (.fieldLink RX3 15 "CrownTable$Tape" "length" "I") (mem_i 1 rfl)) (fun _ h9 => h9) rfl dX3_byteAt_6 ?_
  refine iicmp_geT (a := 0) (b := 0) (tgt := 19) hx hb (by decide) (by decide) dX3_byteAt_9 (by decide) (by decide) ?_
  refine lv_iconst (v := (-1)) hx hb dX3_byteAt_19 (by decide) ?_
  refine lv_goto (tgt := 33) hx hb dX3_byteAt_20 (by decide) ?_
  exact W.iret (v := (-1)) hx hb hr (fun t ht hW => ⟨_, rfl, rfl, ht⟩) (fun _ h => by cases h) dX3_byteAt_33

set_option maxHeartbeats 4000000 in
set_option maxRecDepth 100000 in
theorem c_X1_isLetter (l : Launch) (D : va_G) (c : Nat → ClassId) (ts : Nat × Nat) (sz : Nat)  : Met l yX1_isLetter wsX1_isLetter ({ frames := 0, cells := 0, slots := 0, locals := 0 }) (va_Pc [.int (-1)] (Pre0 D c ts [] sz)) (vp_Si (fun r : Int32 => r = 0)) 0 0 (fun _ => False) := by
  refine Met.ofW (cc := cX1_isLetter) (maxL := 1) (ret := (some .boolean)) (by decide) rfl ?_
  intro p e s m args below meth cd s₁ B hml hv
  obtain ⟨rfl, hsz, hP, hD0, hAm, hSt⟩ := hv
  have hx := B.exec
  have hb := B.bytes
  have hr := B.returns
  have hts := atoms_spec (ws := wsX1_isLetter) B.pre
  have hown : s.vm.findClass RX1 = some m.cls := findClass_of_methodNamed B.named
  have hlocks := B.notSynchronized
  subst hsz
  have hK := hAm.1
  have hD := hD0.self (sz := s.heap.size)
  generalize hAe : va_A [] s.heap.size = A at hD hSt
  have hA : ∀ q : Nat, s.heap.size ≤ q → A q := fun q h => by rw [← hAe]; exact Or.inr h
  have hS : va_S A s.heap s.heap [] := va_S.rf
  clear hD0 hAe
  have hl := lv_entry ([.int (-1)]) (n := 1) (Nat.le_of_ble_eq_true rfl)
  rw [lg_entry_eq]
  generalize (lg_sl ([.int (-1)]) ++ List.replicate (1 - (lg_sl ([.int (-1)])).length) Slot.unset).toArray = ls at hl ⊢
  have hl : lv_has ls 1 [(0, .int (-1))] := hl
  refine lv_iload_n hx hb dX1_isLetter_0 rfl (lv_at hl 0 rfl) ?_
  refine lv_bipush (v := 97) hx hb dX1_isLetter_1 (by decide) ?_
  refine iicmp_ltT (a := (-1)) (b := 97) (tgt := 16) hx hb (by decide) (by decide) dX1_isLetter_3 (by decide) (by decide) ?_
  refine lv_iconst (v := 0) hx hb dX1_isLetter_16 (by decide) ?_
  exact W.zret (v := 0) hx hb hr (by decide) (fun t ht hW => ⟨_, rfl, rfl, ht⟩) (fun _ h => by cases h) dX1_isLetter_17

set_option maxHeartbeats 4000000 in
set_option maxRecDepth 100000 in
theorem c_X1_isDigit (l : Launch) (D : va_G) (c : Nat → ClassId) (ts : Nat × Nat) (sz : Nat)  : Met l yX1_isDigit wsX1_isDigit ({ frames := 0, cells := 0, slots := 0, locals := 0 }) (va_Pc [.int (-1)] (Pre0 D c ts [] sz)) (vp_Si (fun r : Int32 => r = 0)) 0 0 (fun _ => False) := by
  refine Met.ofW (cc := cX1_isDigit) (maxL := 1) (ret := (some .boolean)) (by decide) rfl ?_
  intro p e s m args below meth cd s₁ B hml hv
  obtain ⟨rfl, hsz, hP, hD0, hAm, hSt⟩ := hv
  have hx := B.exec
  have hb := B.bytes
  have hr := B.returns
  have hts := atoms_spec (ws := wsX1_isDigit) B.pre
  have hown : s.vm.findClass RX1 = some m.cls := findClass_of_methodNamed B.named
  have hlocks := B.notSynchronized
  subst hsz
  have hK := hAm.1
  have hD := hD0.self (sz := s.heap.size)
  generalize hAe : va_A [] s.heap.size = A at hD hSt
  have hA : ∀ q : Nat, s.heap.size ≤ q → A q := fun q h => by rw [← hAe]; exact Or.inr h
  have hS : va_S A s.heap s.heap [] := va_S.rf
  clear hD0 hAe
  have hl := lv_entry ([.int (-1)]) (n := 1) (Nat.le_of_ble_eq_true rfl)
  rw [lg_entry_eq]
  generalize (lg_sl ([.int (-1)]) ++ List.replicate (1 - (lg_sl ([.int (-1)])).length) Slot.unset).toArray = ls at hl ⊢
  have hl : lv_has ls 1 [(0, .int (-1))] := hl
  refine lv_iload_n hx hb dX1_isDigit_0 rfl (lv_at hl 0 rfl) ?_
  refine lv_bipush (v := 48) hx hb dX1_isDigit_1 (by decide) ?_
  refine iicmp_ltT (a := (-1)) (b := 48) (tgt := 16) hx hb (by decide) (by decide) dX1_isDigit_3 (by decide) (by decide) ?_
  refine lv_iconst (v := 0) hx hb dX1_isDigit_16 (by decide) ?_
  exact W.zret (v := 0) hx hb hr (by decide) (fun t ht hW => ⟨_, rfl, rfl, ht⟩) (fun _ h => by cases h) dX1_isDigit_17

set_option maxHeartbeats 4000000 in
set_option maxRecDepth 100000 in
theorem c_X1_nextToken (l : Launch) (D : va_G) (c : Nat → ClassId) (ts : Nat × Nat) (sz : Nat) (h0 : Nat) (h1 : Nat) (h2 : Nat) (h3 : Nat) (h4 : Nat) (h5 : Nat) (h6 : Nat) (h7 : Nat) : Met l yX1_nextToken wsX1_nextToken ({ frames := 1, cells := 0, slots := 0, locals := 21 }) (va_Pc [.ref h0] (Pre0 D c ts [(h0, .inr (1, [.ref h1, .int 0, .int 0, .int 0, .int 0, .int 0, .int 0, .int 0, .int 0, .ref h2, .int 0, .ref h3, .ref h4, .ref h5, .int 0, .ref h6, .int 0])), (h1, .inr (3, [.ref h7, .int 0]))] sz)) (va_Qv (fun (u : (Nat → Nat) × (Nat → Nat → Int32) × (Nat → Nat → Int64)) => True) (fun u t => va_P D vwCl [(h0, .inr (1, [.ref h1, .int 1, .int 0, .int (-1), .int 0, .int 0, .int 0, .int 0, .int 0, .ref h2, .int 0, .ref h3, .ref h4, .ref h5, .int 0, .ref h6, .int 0])), (h1, .inr (3, [.ref h7, .int 0]))] t.heap ∧ va_D (va_A [(h0, .inr (1, [.ref h1, .int 0, .int 0, .int 0, .int 0, .int 0, .int 0, .int 0, .int 0, .ref h2, .int 0, .ref h3, .ref h4, .ref h5, .int 0, .ref h6, .int 0])), (h1, .inr (3, [.ref h7, .int 0]))] sz) [(h0, .inr (1, [.ref h1, .int 1, .int 0, .int (-1), .int 0, .int 0, .int 0, .int 0, .int 0, .ref h2, .int 0, .ref h3, .ref h4, .ref h5, .int 0, .ref h6, .int 0])), (h1, .inr (3, [.ref h7, .int 0]))]) (va_A [(h0, .inr (1, [.ref h1, .int 0, .int 0, .int 0, .int 0, .int 0, .int 0, .int 0, .int 0, .ref h2, .int 0, .ref h3, .ref h4, .ref h5, .int 0, .ref h6, .int 0])), (h1, .inr (3, [.ref h7, .int 0]))] sz)) 0 0 (va_A [(h0, .inr (1, [.ref h1, .int 0, .int 0, .int 0, .int 0, .int 0, .int 0, .int 0, .int 0, .ref h2, .int 0, .ref h3, .ref h4, .ref h5, .int 0, .ref h6, .int 0])), (h1, .inr (3, [.ref h7, .int 0]))] sz) := by
  refine Met.ofW (cc := cX1_nextToken) (maxL := 2) (ret := none) (by decide) rfl ?_
  intro p e s m args below meth cd s₁ B hml hv
  obtain ⟨rfl, hsz, hP, hD0, hAm, hSt⟩ := hv
  have hx := B.exec
  have hb := B.bytes
  have hr := B.returns
  have hts := atoms_spec (ws := wsX1_nextToken) B.pre
  have hown : s.vm.findClass RX1 = some m.cls := findClass_of_methodNamed B.named
  have hlocks := B.notSynchronized
  subst hsz
  have hK := hAm.1
  have hD := hD0.self (sz := s.heap.size)
  generalize hAe : va_A [(h0, .inr (1, [.ref h1, .int 0, .int 0, .int 0, .int 0, .int 0, .int 0, .int 0, .int 0, .ref h2, .int 0, .ref h3, .ref h4, .ref h5, .int 0, .ref h6, .int 0])), (h1, .inr (3, [.ref h7, .int 0]))] s.heap.size = A at hD hSt ⊢
  have hA : ∀ q : Nat, s.heap.size ≤ q → A q := fun q h => by rw [← hAe]; exact Or.inr h
  have hS : va_S A s.heap s.heap [] := va_S.rf
  clear hD0 hAe
  have hl := lv_entry ([.ref h0]) (n := 2) (Nat.le_of_ble_eq_true rfl)
  rw [lg_entry_eq]
  generalize (lg_sl ([.ref h0]) ++ List.replicate (2 - (lg_sl ([.ref h0])).length) Slot.unset).toArray = ls at hl ⊢
  have hl : lv_has ls 2 [(0, .ref h0)] := hl
  refine lv_aload_n hx hb dX1_nextToken_0 rfl (lv_at hl 0 rfl) ?_
  refine lv_aload_n hx hb dX1_nextToken_1 rfl (lv_at hl 0 rfl) ?_
  refine va_get (D := D) (ci := 1) (v := .int 0) (C := RX1) (T := TX1) (N := 17) hx hb hts (fun _ h => List.mem_cons_of_mem _ (List.mem_append_left _ (List.mem_append_right _ h))) hown hK hP 0 rfl rfl 1 (by decide) (hts (.fieldLink RX1 31 "CrownTable$Reader" "place" "I") (mem_i 1 rfl)) (fun _ h9 => h9) rfl dX1_nextToken_2 ?_
  refine va_put (D := D) (ci := 1) (v := .int 0) (ty := .int) (C := RX1) (T := TX1) (N := 17) hx hb hts (fun _ h => List.mem_cons_of_mem _ (List.mem_append_left _ (List.mem_append_right _ h))) tyX1 tyX1_ok nmX1 hown hK hP hD hS 0 rfl rfl 2 (by decide) (hts (.fieldLink RX1 78 "CrownTable$Reader" "start" "I") (mem_i 2 rfl)) (fun _ h9 => h9) rfl (by decide +kernel) rfl rfl (Nat.le_of_ble_eq_true rfl) dX1_nextToken_5 (fun H locs hP hD hS => ?_)
  have hP : va_P D vwCl [(h0, .inr (1, [.ref h1, .int 0, .int 0, .int 0, .int 0, .int 0, .int 0, .int 0, .int 0, .ref h2, .int 0, .ref h3, .ref h4, .ref h5, .int 0, .ref h6, .int 0])), (h1, .inr (3, [.ref h7, .int 0]))] H := hP
  have hD : va_D A [(h0, .inr (1, [.ref h1, .int 0, .int 0, .int 0, .int 0, .int 0, .int 0, .int 0, .int 0, .ref h2, .int 0, .ref h3, .ref h4, .ref h5, .int 0, .ref h6, .int 0])), (h1, .inr (3, [.ref h7, .int 0]))] := hD
  refine lv_aload_n hx hb dX1_nextToken_8 rfl (lv_at hl 0 rfl) ?_
  refine va_get (D := D) (ci := 1) (v := .int 0) (C := RX1) (T := TX1) (N := 17) hx hb hts (fun _ h => List.mem_cons_of_mem _ (List.mem_append_left _ (List.mem_append_right _ h))) hown hK hP 0 rfl rfl 2 (by decide) (hts (.fieldLink RX1 78 "CrownTable$Reader" "start" "I") (mem_i 2 rfl)) (fun _ h9 => h9) rfl dX1_nextToken_9 ?_
  refine lv_aload_n hx hb dX1_nextToken_12 rfl (lv_at hl 0 rfl) ?_
  refine va_get (D := D) (ci := 1) (v := .ref h1) (C := RX1) (T := TX1) (N := 17) hx hb hts (fun _ h => List.mem_cons_of_mem _ (List.mem_append_left _ (List.mem_append_right _ h))) hown hK hP 0 rfl rfl 0 (by decide) (hts (.fieldLink RX1 27 "CrownTable$Reader" "tape" "LCrownTable$Tape;") (mem_i 3 rfl)) (fun _ h9 => h9) rfl dX1_nextToken_13 ?_
  refine va_getN (D := D) (ci := 3) (v := .int 0) (own := RX1) (ref := "CrownTable$Tape") (host := RX6) (index := 81) (C := RX3) (T := TX3) (N := 2) hx hb hts (fun _ h => List.mem_cons_of_mem _ (List.mem_append_right _ h)) hown hK hP 1 rfl rfl 1 (by decide) (show (Cond.fieldLinkNest RX1 81 "CrownTable$Tape" "length" "I" RX6).before _ _ = true from va_Nw.use rfl (hAm.2.1.2 (RX1, 81, "CrownTable$Tape", "length", "I", RX6) (mem_i 1 rfl))) (fun _ h9 => h9) rfl dX1_nextToken_16 ?_
  refine iicmp_geT (a := 0) (b := 0) (tgt := 52) hx hb (by decide) (by decide) dX1_nextToken_19 (by decide) (by decide) ?_
  refine lv_aload_n hx hb dX1_nextToken_52 rfl (lv_at hl 0 rfl) ?_
  refine va_get (D := D) (ci := 1) (v := .ref h1) (C := RX1) (T := TX1) (N := 17) hx hb hts (fun _ h => List.mem_cons_of_mem _ (List.mem_append_left _ (List.mem_append_right _ h))) hown hK hP 0 rfl rfl 0 (by decide) (hts (.fieldLink RX1 27 "CrownTable$Reader" "tape" "LCrownTable$Tape;") (mem_i 3 rfl)) (fun _ h9 => h9) rfl dX1_nextToken_53 ?_
  refine lv_aload_n hx hb dX1_nextToken_56 rfl (lv_at hl 0 rfl) ?_
  refine va_get (D := D) (ci := 1) (v := .int 0) (C := RX1) (T := TX1) (N := 17) hx hb hts (fun _ h => List.mem_cons_of_mem _ (List.mem_append_left _ (List.mem_append_right _ h))) hown hK hP 0 rfl rfl 2 (by decide) (hts (.fieldLink RX1 78 "CrownTable$Reader" "start" "I") (mem_i 2 rfl)) (fun _ h9 => h9) rfl dX1_nextToken_57 ?_
  have hPc := hP.sub (ws' := [(h1, .inr (3, [.ref h7, .int 0]))]) [1] rfl
  have hDc := hD.sub (ws' := [(h1, .inr (3, [.ref h7, .int 0]))]) [1] (by decide) rfl
  have hFc := va_free (wc := [(h1, .inr (3, [.ref h7, .int 0]))]) hD hS hA [1] rfl
  refine va_csi (va_runVN (As := [.int 0]) (rest := []) ⟨hx, hb, hml, hown, hts⟩ (c_X3_byteAt l D c ts H.size h1 h7) ⟨va_cnB 1 hts gX1_nextToken_X3_byteAt_n86 rfl rfl rfl (show va_Nw (.methodLinkNest RX1 86 yX3_byteAt RX6) _ from hAm.2.1.1 (RX1, 86, yX3_byteAt, RX6) (mem_i 8 rfl)) (hts (.initialized RX3) (mem_i 7 rfl)) hdX3_byteAt ⟨(show 0 + 1 ≤ 1 by decide), (show 8 + (2 + 11) + 0 ≤ 21 by decide)⟩, (hts (.instanceMethod yX3_byteAt) (mem_i 6 rfl)), (hts (.selects RX3 yX3_byteAt yX3_byteAt) (mem_i 8 rfl))⟩ ⟨Pre0.blind, va_recv hK hPc (ci := 3) (q0 := 0) rfl rfl, Pre0.at hPc hDc hAm hSt hS hFc⟩ rfl rfl hl.1 rfl (lv_room (Nat.le_of_ble_eq_true rfl)) dX1_nextToken_60 ⟨(show 0 + 0 ≤ 0 by decide), (show 0 + 0 ≤ 0 by decide)⟩) (fun r_2 hw_1 => ?_)
  refine lk_i (y := (-1)) hw_1 ?_
  refine lv_istore_n (lv' := [(1, .int (-1)), (0, .ref h0)]) hx hb dX1_nextToken_63 rfl hl (by decide) rfl (fun ls hl => ?_)
  refine lv_aload_n hx hb dX1_nextToken_64 rfl (lv_at hl 1 rfl) ?_
  refine lv_aload_n hx hb dX1_nextToken_65 rfl (lv_at hl 1 rfl) ?_
  refine va_get (D := D) (ci := 1) (v := .int 0) (C := RX1) (T := TX1) (N := 17) hx hb hts (fun _ h => List.mem_cons_of_mem _ (List.mem_append_left _ (List.mem_append_right _ h))) hown hK hP 0 rfl rfl 2 (by decide) (hts (.fieldLink RX1 78 "CrownTable$Reader" "start" "I") (mem_i 2 rfl)) (fun _ h9 => h9) rfl dX1_nextToken_66 ?_
  refine lv_iconst (v := 1) hx hb dX1_nextToken_69 (by decide) ?_
  refine lv_iadd hx hb dX1_nextToken_70 ?_
  refine lk_i (y := 1) (by decide) ?_
  refine va_put (D := D) (ci := 1) (v := .int 1) (ty := .int) (C := RX1) (T := TX1) (N := 17) hx hb hts (fun _ h => List.mem_cons_of_mem _ (List.mem_append_left _ (List.mem_append_right _ h))) tyX1 tyX1_ok nmX1 hown hK hP hD hS 0 rfl rfl 1 (by decide) (hts (.fieldLink RX1 31 "CrownTable$Reader" "place" "I") (mem_i 1 rfl)) (fun _ h9 => h9) rfl (by decide +kernel) rfl rfl (Nat.le_of_ble_eq_true rfl) dX1_nextToken_71 (fun H locs hP hD hS => ?_)
  have hP : va_P D vwCl [(h0, .inr (1, [.ref h1, .int 1, .int 0, .int 0, .int 0, .int 0, .int 0, .int 0, .int 0, .ref h2, .int 0, .ref h3, .ref h4, .ref h5, .int 0, .ref h6, .int 0])), (h1, .inr (3, [.ref h7, .int 0]))] H := hP
  have hD : va_D A [(h0, .inr (1, [.ref h1, .int 1, .int 0, .int 0, .int 0, .int 0, .int 0, .int 0, .int 0, .ref h2, .int 0, .ref h3, .ref h4, .ref h5, .int 0, .ref h6, .int 0])), (h1, .inr (3, [.ref h7, .int 0]))] := hD
  refine lv_iload_n hx hb dX1_nextToken_74 rfl (lv_at hl 0 rfl) ?_
  have hPc := hP.sub (ws' := []) [] rfl
  have hDc := hD.sub (ws' := []) [] (by decide) rfl
  have hFc := va_free (wc := []) hD hS hA [] rfl
  refine va_csi (va_runS (As := [.int (-1)]) (rest := []) ⟨hx, hb, hml, hown, hts⟩ (c_X1_isLetter l D c ts H.size) (cwS 1 hts gX1_nextToken_X1_isLetter rfl rfl rfl ⟨rfl, hdX1_isLetter⟩ ⟨(show 0 + 1 ≤ 1 by decide), (show 8 + (1 + 11) + 0 ≤ 21 by decide)⟩) ⟨Pre0.blind, Pre0.at hPc hDc hAm hSt hS hFc⟩ rfl rfl hl.1 rfl (lv_room (Nat.le_of_ble_eq_true rfl)) dX1_nextToken_75 ⟨(show 0 + 0 ≤ 0 by decide), (show 0 + 0 ≤ 0 by decide)⟩) (fun r_4 hw_3 => ?_)
  refine lk_i (y := 0) hw_3 ?_
  refine iif_eqT (a := 0) (tgt := 144) hx hb (by decide) dX1_nextToken_78 (by decide) (by decide) ?_
  refine lv_iload_n hx hb dX1_nextToken_144 rfl (lv_at hl 0 rfl) ?_
  have hPc := hP.sub (ws' := []) [] rfl
  have hDc := hD.sub (ws' := []) [] (by decide) rfl
  have hFc := va_free (wc := []) hD hS hA [] rfl
  refine va_csi (va_runS (As := [.int (-1)]) (rest := []) ⟨hx, hb, hml, hown, hts⟩ (c_X1_isDigit l D c ts H.size) (cwS 1 hts gX1_nextToken_X1_isDigit rfl rfl rfl ⟨rfl, hdX1_isDigit⟩ ⟨(show 0 + 1 ≤ 1 by decide), (show 8 + (1 + 11) + 0 ≤ 21 by decide)⟩) ⟨Pre0.blind, Pre0.at hPc hDc hAm hSt hS hFc⟩ rfl rfl hl.1 rfl (lv_room (Nat.le_of_ble_eq_true rfl)) dX1_nextToken_145 ⟨(show 0 + 0 ≤ 0 by decide), (show 0 + 0 ≤ 0 by decide)⟩) (fun r_6 hw_5 => ?_)
  refine lk_i (y := 0) hw_5 ?_
  refine iif_eqT (a := 0) (tgt := 220) hx hb (by decide) dX1_nextToken_148 (by decide) (by decide) ?_
  refine lv_aload_n hx hb dX1_nextToken_220 rfl (lv_at hl 1 rfl) ?_
  refine lv_iload_n hx hb dX1_nextToken_221 rfl (lv_at hl 0 rfl) ?_
  refine lv_iconst (v := (-1)) hx hb dX1_nextToken_222 (by decide) ?_
  refine iicmp_eqT (a := (-1)) (b := (-1)) (tgt := 233) hx hb (by decide) (by decide) dX1_nextToken_223 (by decide) (by decide) ?_
  refine lv_iload_n hx hb dX1_nextToken_233 rfl (lv_at hl 0 rfl) ?_
  refine lv_goto (tgt := 239) hx hb dX1_nextToken_234 (by decide) ?_
  refine va_put (D := D) (ci := 1) (v := .int (-1)) (ty := .int) (C := RX1) (T := TX1) (N := 17) hx hb hts (fun _ h => List.mem_cons_of_mem _ (List.mem_append_left _ (List.mem_append_right _ h))) tyX1 tyX1_ok nmX1 hown hK hP hD hS 0 rfl rfl 3 (by decide) (hts (.fieldLink RX1 60 "CrownTable$Reader" "token" "I") (mem_i 4 rfl)) (fun _ h9 => h9) rfl (by decide +kernel) rfl rfl (Nat.le_of_ble_eq_true rfl) dX1_nextToken_239 (fun H locs hP hD hS => ?_)
  have hP : va_P D vwCl [(h0, .inr (1, [.ref h1, .int 1, .int 0, .int (-1), .int 0, .int 0, .int 0, .int 0, .int 0, .ref h2, .int 0, .ref h3, .ref h4, .ref h5, .int 0, .ref h6, .int 0])), (h1, .inr (3, [.ref h7, .int 0]))] H := hP
  have hD : va_D A [(h0, .inr (1, [.ref h1, .int 1, .int 0, .int (-1), .int 0, .int 0, .int 0, .int 0, .int 0, .ref h2, .int 0, .ref h3, .ref h4, .ref h5, .int 0, .ref h6, .int 0])), (h1, .inr (3, [.ref h7, .int 0]))] := hD
  have hP9 := hP.sub (ws' := [(h0, .inr (1, [.ref h1, .int 1, .int 0, .int (-1), .int 0, .int 0, .int 0, .int 0, .int 0, .ref h2, .int 0, .ref h3, .ref h4, .ref h5, .int 0, .ref h6, .int 0])), (h1, .inr (3, [.ref h7, .int 0]))]) [0, 1] rfl
  have hD9 := hD.sub (ws' := [(h0, .inr (1, [.ref h1, .int 1, .int 0, .int (-1), .int 0, .int 0, .int 0, .int 0, .int 0, .ref h2, .int 0, .ref h3, .ref h4, .ref h5, .int 0, .ref h6, .int 0])), (h1, .inr (3, [.ref h7, .int 0]))]) [0, 1] (by decide) rfl
  refine W.widen (k := 0) (n := 0) (by omega) (by omega) ?_
  exact W.vret hx hb hr (fun t ht hW => ⟨⟨(fun k => [].getD k 0, fun k => [].getD k (fun _ => 0), fun k => [].getD k (fun _ => 0)), rfl, trivial, ⟨by rw [ht]; exact hP9, hD9⟩⟩, hS.F ht⟩) hS.2.2 dX1_nextToken_242

set_option maxHeartbeats 4000000 in
set_option maxRecDepth 100000 in
theorem c_X1_readTape (l : Launch) (D : va_G) (c : Nat → ClassId) (ts : Nat × Nat) (sz : Nat) (h0 : Nat) (h1 : Nat) (h2 : Nat) (h3 : Nat) (h4 : Nat) (h5 : Nat) (h6 : Nat) (h7 : Nat) : Met l yX1_readTape wsX1_readTape ({ frames := 2, cells := 0, slots := 0, locals := 42 }) (va_Pc [.ref h0] (Pre0 D c ts [(h0, .inr (1, [.ref h1, .int 0, .int 0, .int 0, .int 0, .int 0, .int 0, .int 0, .int 0, .ref h2, .int 0, .ref h3, .ref h4, .ref h5, .int 0, .ref h6, .int 0])), (h1, .inr (3, [.ref h7, .int 0]))] sz)) (va_Qi (fun (r : Int32) (u : (Nat → Nat) × (Nat → Nat → Int32) × (Nat → Nat → Int64)) => r = 0) (fun u t => va_P D vwCl [(h0, .inr (1, [.ref h1, .int 1, .int 0, .int (-1), .int 0, .int 0, .int 0, .int 0, .int 0, .ref h2, .int 0, .ref h3, .ref h4, .ref h5, .int 0, .ref h6, .int 0])), (h1, .inr (3, [.ref h7, .int 0]))] t.heap ∧ va_D (va_A [(h0, .inr (1, [.ref h1, .int 0, .int 0, .int 0, .int 0, .int 0, .int 0, .int 0, .int 0, .ref h2, .int 0, .ref h3, .ref h4, .ref h5, .int 0, .ref h6, .int 0])), (h1, .inr (3, [.ref h7, .int 0]))] sz) [(h0, .inr (1, [.ref h1, .int 1, .int 0, .int (-1), .int 0, .int 0, .int 0, .int 0, .int 0, .ref h2, .int 0, .ref h3, .ref h4, .ref h5, .int 0, .ref h6, .int 0])), (h1, .inr (3, [.ref h7, .int 0]))]) (va_A [(h0, .inr (1, [.ref h1, .int 0, .int 0, .int 0, .int 0, .int 0, .int 0, .int 0, .int 0, .ref h2, .int 0, .ref h3, .ref h4, .ref h5, .int 0, .ref h6, .int 0])), (h1, .inr (3, [.ref h7, .int 0]))] sz)) 0 0 (va_A [(h0, .inr (1, [.ref h1, .int 0, .int 0, .int 0, .int 0, .int 0, .int 0, .int 0, .int 0, .ref h2, .int 0, .ref h3, .ref h4, .ref h5, .int 0, .ref h6, .int 0])), (h1, .inr (3, [.ref h7, .int 0]))] sz) := by
  refine Met.ofW (cc := cX1_readTape) (maxL := 2) (ret := (some .boolean)) (by decide) rfl ?_
  intro p e s m args below meth cd s₁ B hml hv
  obtain ⟨rfl, hsz, hP, hD0, hAm, hSt⟩ := hv
  have hx := B.exec
  have hb := B.bytes
  have hr := B.returns
  have hts := atoms_spec (ws := wsX1_readTape) B.pre
  have hown : s.vm.findClass RX1 = some m.cls := findClass_of_methodNamed B.named
  have hlocks := B.notSynchronized
  subst hsz
  have hK := hAm.1
  have hD := hD0.self (sz := s.heap.size)
  generalize hAe : va_A [(h0, .inr (1, [.ref h1, .int 0, .int 0, .int 0, .int 0, .int 0, .int 0, .int 0, .int 0, .ref h2, .int 0, .ref h3, .ref h4, .ref h5, .int 0, .ref h6, .int 0])), (h1, .inr (3, [.ref h7, .int 0]))] s.heap.size = A at hD hSt ⊢
  have hA : ∀ q : Nat, s.heap.size ≤ q → A q := fun q h => by rw [← hAe]; exact Or.inr h
  have hS : va_S A s.heap s.heap [] := va_S.rf
  clear hD0 hAe
  have hl := lv_entry ([.ref h0]) (n := 2) (Nat.le_of_ble_eq_true rfl)
  rw [lg_entry_eq]
  generalize (lg_sl ([.ref h0]) ++ List.replicate (2 - (lg_sl ([.ref h0])).length) Slot.unset).toArray = ls at hl ⊢
  have hl : lv_has ls 2 [(0, .ref h0)] := hl
  refine lv_aload_n hx hb dX1_readTape_0 rfl (lv_at hl 0 rfl) ?_
  refine lv_iconst (v := 0) hx hb dX1_readTape_1 (by decide) ?_
  refine va_put (D := D) (ci := 1) (v := .int 0) (ty := .int) (C := RX1) (T := TX1) (N := 17) hx hb hts (fun _ h => List.mem_cons_of_mem _ (List.mem_append_left _ (List.mem_append_right _ h))) tyX1 tyX1_ok nmX1 hown hK hP hD hS 0 rfl rfl 1 (by decide) (hts (.fieldLink RX1 31 "CrownTable$Reader" "place" "I") (mem_i 1 rfl)) (fun _ h9 => h9) rfl (by decide +kernel) rfl rfl (Nat.le_of_ble_eq_true rfl) dX1_readTape_2 (fun H locs hP hD hS => ?_)
  have hP : va_P D vwCl [(h0, .inr (1, [.ref h1, .int 0, .int 0, .int 0, .int 0, .int 0, .int 0, .int 0, .int 0, .ref h2, .int 0, .ref h3, .ref h4, .ref h5, .int 0, .ref h6, .int 0])), (h1, .inr (3, [.ref h7, .int 0]))] H := hP
  have hD : va_D A [(h0, .inr (1, [.ref h1, .int 0, .int 0, .int 0, .int 0, .int 0, .int 0, .int 0, .int 0, .ref h2, .int 0, .ref h3, .ref h4, .ref h5, .int 0, .ref h6, .int 0])), (h1, .inr (3, [.ref h7, .int 0]))] := hD
  refine lv_aload_n hx hb dX1_readTape_5 rfl (lv_at hl 0 rfl) ?_
  refine lv_iconst (v := 0) hx hb dX1_readTape_6 (by decide) ?_
  refine va_put (D := D) (ci := 1) (v := .int 0) (ty := .int) (C := RX1) (T := TX1) (N := 17) hx hb hts (fun _ h => List.mem_cons_of_mem _ (List.mem_append_left _ (List.mem_append_right _ h))) tyX1 tyX1_ok nmX1 hown hK hP hD hS 0 rfl rfl 5 (by decide) (hts (.fieldLink RX1 35 "CrownTable$Reader" "wanted" "I") (mem_i 2 rfl)) (fun _ h9 => h9) rfl (by decide +kernel) rfl rfl (Nat.le_of_ble_eq_true rfl) dX1_readTape_7 (fun H locs hP hD hS => ?_)
  have hP : va_P D vwCl [(h0, .inr (1, [.ref h1, .int 0, .int 0, .int 0, .int 0, .int 0, .int 0, .int 0, .int 0, .ref h2, .int 0, .ref h3, .ref h4, .ref h5, .int 0, .ref h6, .int 0])), (h1, .inr (3, [.ref h7, .int 0]))] H := hP
  have hD : va_D A [(h0, .inr (1, [.ref h1, .int 0, .int 0, .int 0, .int 0, .int 0, .int 0, .int 0, .int 0, .ref h2, .int 0, .ref h3, .ref h4, .ref h5, .int 0, .ref h6, .int 0])), (h1, .inr (3, [.ref h7, .int 0]))] := hD
  refine lv_aload_n hx hb dX1_readTape_10 rfl (lv_at hl 0 rfl) ?_
  refine lv_iconst (v := 0) hx hb dX1_readTape_11 (by decide) ?_
  refine va_put (D := D) (ci := 1) (v := .int 0) (ty := .boolean) (C := RX1) (T := TX1) (N := 17) hx hb hts (fun _ h => List.mem_cons_of_mem _ (List.mem_append_left _ (List.mem_append_right _ h))) tyX1 tyX1_ok nmX1 hown hK hP hD hS 0 rfl rfl 6 (by decide) (hts (.fieldLink RX1 38 "CrownTable$Reader" "compared" "Z") (mem_i 3 rfl)) (fun _ h9 => h9) rfl (by decide +kernel) (by decide) rfl (Nat.le_of_ble_eq_true rfl) dX1_readTape_12 (fun H locs hP hD hS => ?_)
  have hP : va_P D vwCl [(h0, .inr (1, [.ref h1, .int 0, .int 0, .int 0, .int 0, .int 0, .int 0, .int 0, .int 0, .ref h2, .int 0, .ref h3, .ref h4, .ref h5, .int 0, .ref h6, .int 0])), (h1, .inr (3, [.ref h7, .int 0]))] H := hP
  have hD : va_D A [(h0, .inr (1, [.ref h1, .int 0, .int 0, .int 0, .int 0, .int 0, .int 0, .int 0, .int 0, .ref h2, .int 0, .ref h3, .ref h4, .ref h5, .int 0, .ref h6, .int 0])), (h1, .inr (3, [.ref h7, .int 0]))] := hD
  refine lv_aload_n hx hb dX1_readTape_15 rfl (lv_at hl 0 rfl) ?_
  refine lv_iconst (v := 0) hx hb dX1_readTape_16 (by decide) ?_
  refine va_put (D := D) (ci := 1) (v := .int 0) (ty := .int) (C := RX1) (T := TX1) (N := 17) hx hb hts (fun _ h => List.mem_cons_of_mem _ (List.mem_append_left _ (List.mem_append_right _ h))) tyX1 tyX1_ok nmX1 hown hK hP hD hS 0 rfl rfl 7 (by decide) (hts (.fieldLink RX1 42 "CrownTable$Reader" "opened" "I") (mem_i 4 rfl)) (fun _ h9 => h9) rfl (by decide +kernel) rfl rfl (Nat.le_of_ble_eq_true rfl) dX1_readTape_17 (fun H locs hP hD hS => ?_)
  have hP : va_P D vwCl [(h0, .inr (1, [.ref h1, .int 0, .int 0, .int 0, .int 0, .int 0, .int 0, .int 0, .int 0, .ref h2, .int 0, .ref h3, .ref h4, .ref h5, .int 0, .ref h6, .int 0])), (h1, .inr (3, [.ref h7, .int 0]))] H := hP
  have hD : va_D A [(h0, .inr (1, [.ref h1, .int 0, .int 0, .int 0, .int 0, .int 0, .int 0, .int 0, .int 0, .ref h2, .int 0, .ref h3, .ref h4, .ref h5, .int 0, .ref h6, .int 0])), (h1, .inr (3, [.ref h7, .int 0]))] := hD
  refine lv_aload_n hx hb dX1_readTape_20 rfl (lv_at hl 0 rfl) ?_
  refine lv_iconst (v := 0) hx hb dX1_readTape_21 (by decide) ?_
  refine va_put (D := D) (ci := 1) (v := .int 0) (ty := .int) (C := RX1) (T := TX1) (N := 17) hx hb hts (fun _ h => List.mem_cons_of_mem _ (List.mem_append_left _ (List.mem_append_right _ h))) tyX1 tyX1_ok nmX1 hown hK hP hD hS 0 rfl rfl 8 (by decide) (hts (.fieldLink RX1 45 "CrownTable$Reader" "nested" "I") (mem_i 5 rfl)) (fun _ h9 => h9) rfl (by decide +kernel) rfl rfl (Nat.le_of_ble_eq_true rfl) dX1_readTape_22 (fun H locs hP hD hS => ?_)
  have hP : va_P D vwCl [(h0, .inr (1, [.ref h1, .int 0, .int 0, .int 0, .int 0, .int 0, .int 0, .int 0, .int 0, .ref h2, .int 0, .ref h3, .ref h4, .ref h5, .int 0, .ref h6, .int 0])), (h1, .inr (3, [.ref h7, .int 0]))] H := hP
  have hD : va_D A [(h0, .inr (1, [.ref h1, .int 0, .int 0, .int 0, .int 0, .int 0, .int 0, .int 0, .int 0, .ref h2, .int 0, .ref h3, .ref h4, .ref h5, .int 0, .ref h6, .int 0])), (h1, .inr (3, [.ref h7, .int 0]))] := hD
  refine lv_aload_n hx hb dX1_readTape_25 rfl (lv_at hl 0 rfl) ?_
  refine lv_iconst (v := 0) hx hb dX1_readTape_26 (by decide) ?_
  refine va_put (D := D) (ci := 1) (v := .int 0) (ty := .int) (C := RX1) (T := TX1) (N := 17) hx hb hts (fun _ h => List.mem_cons_of_mem _ (List.mem_append_left _ (List.mem_append_right _ h))) tyX1 tyX1_ok nmX1 hown hK hP hD hS 0 rfl rfl 10 (by decide) (hts (.fieldLink RX1 48 "CrownTable$Reader" "height" "I") (mem_i 6 rfl)) (fun _ h9 => h9) rfl (by decide +kernel) rfl rfl (Nat.le_of_ble_eq_true rfl) dX1_readTape_27 (fun H locs hP hD hS => ?_)
  have hP : va_P D vwCl [(h0, .inr (1, [.ref h1, .int 0, .int 0, .int 0, .int 0, .int 0, .int 0, .int 0, .int 0, .ref h2, .int 0, .ref h3, .ref h4, .ref h5, .int 0, .ref h6, .int 0])), (h1, .inr (3, [.ref h7, .int 0]))] H := hP
  have hD : va_D A [(h0, .inr (1, [.ref h1, .int 0, .int 0, .int 0, .int 0, .int 0, .int 0, .int 0, .int 0, .ref h2, .int 0, .ref h3, .ref h4, .ref h5, .int 0, .ref h6, .int 0])), (h1, .inr (3, [.ref h7, .int 0]))] := hD
  refine lv_aload_n hx hb dX1_readTape_30 rfl (lv_at hl 0 rfl) ?_
  refine lv_iconst (v := 0) hx hb dX1_readTape_31 (by decide) ?_
  refine va_put (D := D) (ci := 1) (v := .int 0) (ty := .int) (C := RX1) (T := TX1) (N := 17) hx hb hts (fun _ h => List.mem_cons_of_mem _ (List.mem_append_left _ (List.mem_append_right _ h))) tyX1 tyX1_ok nmX1 hown hK hP hD hS 0 rfl rfl 14 (by decide) (hts (.fieldLink RX1 51 "CrownTable$Reader" "made" "I") (mem_i 7 rfl)) (fun _ h9 => h9) rfl (by decide +kernel) rfl rfl (Nat.le_of_ble_eq_true rfl) dX1_readTape_32 (fun H locs hP hD hS => ?_)
  have hP : va_P D vwCl [(h0, .inr (1, [.ref h1, .int 0, .int 0, .int 0, .int 0, .int 0, .int 0, .int 0, .int 0, .ref h2, .int 0, .ref h3, .ref h4, .ref h5, .int 0, .ref h6, .int 0])), (h1, .inr (3, [.ref h7, .int 0]))] H := hP
  have hD : va_D A [(h0, .inr (1, [.ref h1, .int 0, .int 0, .int 0, .int 0, .int 0, .int 0, .int 0, .int 0, .ref h2, .int 0, .ref h3, .ref h4, .ref h5, .int 0, .ref h6, .int 0])), (h1, .inr (3, [.ref h7, .int 0]))] := hD
  refine lv_aload_n hx hb dX1_readTape_35 rfl (lv_at hl 0 rfl) ?_
  refine lv_iconst (v := 0) hx hb dX1_readTape_36 (by decide) ?_
  refine va_put (D := D) (ci := 1) (v := .int 0) (ty := .int) (C := RX1) (T := TX1) (N := 17) hx hb hts (fun _ h => List.mem_cons_of_mem _ (List.mem_append_left _ (List.mem_append_right _ h))) tyX1 tyX1_ok nmX1 hown hK hP hD hS 0 rfl rfl 16 (by decide) (hts (.fieldLink RX1 54 "CrownTable$Reader" "codeLength" "I") (mem_i 8 rfl)) (fun _ h9 => h9) rfl (by decide +kernel) rfl rfl (Nat.le_of_ble_eq_true rfl) dX1_readTape_37 (fun H locs hP hD hS => ?_)
  have hP : va_P D vwCl [(h0, .inr (1, [.ref h1, .int 0, .int 0, .int 0, .int 0, .int 0, .int 0, .int 0, .int 0, .ref h2, .int 0, .ref h3, .ref h4, .ref h5, .int 0, .ref h6, .int 0])), (h1, .inr (3, [.ref h7, .int 0]))] H := hP
  have hD : va_D A [(h0, .inr (1, [.ref h1, .int 0, .int 0, .int 0, .int 0, .int 0, .int 0, .int 0, .int 0, .ref h2, .int 0, .ref h3, .ref h4, .ref h5, .int 0, .ref h6, .int 0])), (h1, .inr (3, [.ref h7, .int 0]))] := hD
  refine lv_iconst (v := 0) hx hb dX1_readTape_40 (by decide) ?_
  refine lv_istore_n (lv' := [(1, .int 0), (0, .ref h0)]) hx hb dX1_readTape_41 rfl hl (by decide) rfl (fun ls hl => ?_)
  refine lv_iload_n hx hb dX1_readTape_42 rfl (lv_at hl 0 rfl) ?_
  refine lv_sipush (v := 800) hx hb dX1_readTape_43 (by decide) ?_
  refine iicmp_gtF (a := 0) (b := 800) (tgt := 96) hx hb (by decide) (by decide) dX1_readTape_46 (by decide) (by decide) ?_
  refine lv_aload_n hx hb dX1_readTape_49 rfl (lv_at hl 1 rfl) ?_
  have hPc := hP.sub (ws' := [(h0, .inr (1, [.ref h1, .int 0, .int 0, .int 0, .int 0, .int 0, .int 0, .int 0, .int 0, .ref h2, .int 0, .ref h3, .ref h4, .ref h5, .int 0, .ref h6, .int 0])), (h1, .inr (3, [.ref h7, .int 0]))]) [0, 1] rfl
  have hDc := hD.sub (ws' := [(h0, .inr (1, [.ref h1, .int 0, .int 0, .int 0, .int 0, .int 0, .int 0, .int 0, .int 0, .ref h2, .int 0, .ref h3, .ref h4, .ref h5, .int 0, .ref h6, .int 0])), (h1, .inr (3, [.ref h7, .int 0]))]) [0, 1] (by decide) rfl
  have hFc := va_free (wc := [(h0, .inr (1, [.ref h1, .int 0, .int 0, .int 0, .int 0, .int 0, .int 0, .int 0, .int 0, .ref h2, .int 0, .ref h3, .ref h4, .ref h5, .int 0, .ref h6, .int 0])), (h1, .inr (3, [.ref h7, .int 0]))]) hD hS hA [0, 1] rfl
  refine va_callv (va_runV (As := []) (rest := []) ⟨hx, hb, hml, hown, hts⟩ (c_X1_nextToken l D c ts H.size h0 h1 h2 h3 h4 h5 h6 h7) (cwV 0 hts gX1_readTape_X1_nextToken rfl rfl rfl ⟨rfl, hdX1_nextToken⟩ ⟨(show 1 + 1 ≤ 2 by decide), (show 8 + (2 + 11) + 21 ≤ 42 by decide)⟩) ⟨Pre0.blind, va_recv hK hPc (ci := 1) (q0 := 0) rfl rfl, Pre0.at hPc hDc hAm hSt hS hFc⟩ rfl rfl hl.1 rfl (lv_room (Nat.le_of_ble_eq_true rfl)) dX1_readTape_50 ⟨(show 0 + 0 ≤ 0 by decide), (show 0 + 0 ≤ 0 by decide)⟩) hS (fun q _ h => hFc q h) hFc (fun u_3 t1 H locs ht hvm hw_1 hB hz1 hk1 hS => ?_)
  obtain ⟨hP1, hD1⟩ := hB
  rw [ht] at hP1
  obtain ⟨hP, hD⟩ := va_join (wr := []) (w1 := [(h0, .inr (1, [.ref h1, .int 1, .int 0, .int (-1), .int 0, .int 0, .int 0, .int 0, .int 0, .ref h2, .int 0, .ref h3, .ref h4, .ref h5, .int 0, .ref h6, .int 0])), (h1, .inr (3, [.ref h7, .int 0]))]) hP hD [0, 1] [] rfl rfl (by decide) (by decide) hk1 hFc hP1 hD1
  have hP : va_P D vwCl [(h0, .inr (1, [.ref h1, .int 1, .int 0, .int (-1), .int 0, .int 0, .int 0, .int 0, .int 0, .ref h2, .int 0, .ref h3, .ref h4, .ref h5, .int 0, .ref h6, .int 0])), (h1, .inr (3, [.ref h7, .int 0]))] H := hP
  have hD : va_D A [(h0, .inr (1, [.ref h1, .int 1, .int 0, .int (-1), .int 0, .int 0, .int 0, .int 0, .int 0, .ref h2, .int 0, .ref h3, .ref h4, .ref h5, .int 0, .ref h6, .int 0])), (h1, .inr (3, [.ref h7, .int 0]))] := hD
  refine W.widen (k := 0) (n := 0) (by omega) (by omega) ?_
  refine lv_aload_n hx hb dX1_readTape_53 rfl (lv_at hl 1 rfl) ?_
  refine va_get (D := D) (ci := 1) (v := .int (-1)) (C := RX1) (T := TX1) (N := 17) hx hb hts (fun _ h => List.mem_cons_of_mem _ (List.mem_append_left _ (List.mem_append_right _ h))) hown hK hP 0 rfl rfl 3 (by decide) (hts (.fieldLink RX1 60 "CrownTable$Reader" "token" "I") (mem_i 9 rfl)) (fun _ h9 => h9) rfl dX1_readTape_54 ?_
  refine lv_iconst (v := (-1)) hx hb dX1_readTape_57 (by decide) ?_
  refine iicmp_neF (a := (-1)) (b := (-1)) (tgt := 81) hx hb (by decide) (by decide) dX1_readTape_58 (by decide) (by decide) ?_
  refine lv_aload_n hx hb dX1_readTape_61 rfl (lv_at hl 1 rfl) ?_
  refine va_get (D := D) (ci := 1) (v := .int 0) (C := RX1) (T := TX1) (N := 17) hx hb hts (fun _ h => List.mem_cons_of_mem _ (List.mem_append_left _ (List.mem_append_right _ h))) hown hK hP 0 rfl rfl 5 (by decide) (hts (.fieldLink RX1 35 "CrownTable$Reader" "wanted" "I") (mem_i 2 rfl)) (fun _ h9 => h9) rfl dX1_readTape_62 ?_
  refine iif_neF (a := 0) (tgt := 79) hx hb (by decide) dX1_readTape_65 (by decide) (by decide) ?_
  refine lv_aload_n hx hb dX1_readTape_68 rfl (lv_at hl 1 rfl) ?_
  refine va_get (D := D) (ci := 1) (v := .int 0) (C := RX1) (T := TX1) (N := 17) hx hb hts (fun _ h => List.mem_cons_of_mem _ (List.mem_append_left _ (List.mem_append_right _ h))) hown hK hP 0 rfl rfl 14 (by decide) (hts (.fieldLink RX1 51 "CrownTable$Reader" "made" "I") (mem_i 7 rfl)) (fun _ h9 => h9) rfl dX1_readTape_69 ?_
  refine iif_leT (a := 0) (tgt := 79) hx hb (by decide) dX1_readTape_72 (by decide) (by decide) ?_
  refine lv_iconst (v := 0) hx hb dX1_readTape_79 (by decide) ?_
  have hP9 := hP.sub (ws' := [(h0, .inr (1, [.ref h1, .int 1, .int 0, .int (-1), .int 0, .int 0, .int 0, .int 0, .int 0, .ref h2, .int 0, .ref h3, .ref h4, .ref h5, .int 0, .ref h6, .int 0])), (h1, .inr (3, [.ref h7, .int 0]))]) [0, 1] rfl
  have hD9 := hD.sub (ws' := [(h0, .inr (1, [.ref h1, .int 1, .int 0, .int (-1), .int 0, .int 0, .int 0, .int 0, .int 0, .ref h2, .int 0, .ref h3, .ref h4, .ref h5, .int 0, .ref h6, .int 0])), (h1, .inr (3, [.ref h7, .int 0]))]) [0, 1] (by decide) rfl
  refine W.widen (k := 0) (n := 0) (by omega) (by omega) ?_
  exact W.zret (v := 0) hx hb hr (by decide) (fun t ht hW => ⟨⟨_, (fun k => [].getD k 0, fun k => [].getD k (fun _ => 0), fun k => [].getD k (fun _ => 0)), rfl, rfl, ⟨by rw [ht]; exact hP9, hD9⟩⟩, hS.F ht⟩) hS.2.2 dX1_readTape_80

set_option maxHeartbeats 4000000 in
set_option maxRecDepth 100000 in
theorem c_X6_text (l : Launch) (D : va_G) (c : Nat → ClassId) (ts : Nat × Nat) (sz : Nat) (q : Nat → Nat) (h0 : Nat) : Met l yX6_text wsX6_text ({ frames := 3, cells := 0, slots := 0, locals := 63 }) (va_Pc [.ref h0] (Pre0 D c ts [(h0, .inr (6, o6 q 0 0 0 0)), (q 0, .inr (3, [.ref (q 1), .int 0])), (q 2, .inr (1, [.ref (q 0), .int 0, .int 0, .int 0, .int 0, .int 0, .int 0, .int 0, .int 0, .ref (q 3), .int 0, .ref (q 4), .ref (q 5), .ref (q 6), .int 0, .ref (q 7), .int 0]))] sz)) (va_Qi (fun (r : Int32) (u : Unit) => r = (-100)) (fun _ _ => True) (va_A [(h0, .inr (6, o6 q 0 0 0 0)), (q 0, .inr (3, [.ref (q 1), .int 0])), (q 2, .inr (1, [.ref (q 0), .int 0, .int 0, .int 0, .int 0, .int 0, .int 0, .int 0, .int 0, .ref (q 3), .int 0, .ref (q 4), .ref (q 5), .ref (q 6), .int 0, .ref (q 7), .int 0]))] sz)) 0 0 (va_A [(h0, .inr (6, o6 q 0 0 0 0)), (q 0, .inr (3, [.ref (q 1), .int 0])), (q 2, .inr (1, [.ref (q 0), .int 0, .int 0, .int 0, .int 0, .int 0, .int 0, .int 0, .int 0, .ref (q 3), .int 0, .ref (q 4), .ref (q 5), .ref (q 6), .int 0, .ref (q 7), .int 0]))] sz) := by
  refine Met.ofW (cc := cX6_text) (maxL := 2) (ret := (some .int)) (by decide) rfl ?_
  intro p e s m args below meth cd s₁ B hml hv
  obtain ⟨rfl, hsz, hP, hD0, hAm, hSt⟩ := hv
  have hx := B.exec
  have hb := B.bytes
  have hr := B.returns
  have hts := atoms_spec (ws := wsX6_text) B.pre
  have hown : s.vm.findClass RX6 = some m.cls := findClass_of_methodNamed B.named
  have hlocks := B.notSynchronized
  subst hsz
  have hK := hAm.1
  have hD := hD0.self (sz := s.heap.size)
  generalize hAe : va_A [(h0, .inr (6, o6 q 0 0 0 0)), (q 0, .inr (3, [.ref (q 1), .int 0])), (q 2, .inr (1, [.ref (q 0), .int 0, .int 0, .int 0, .int 0, .int 0, .int 0, .int 0, .int 0, .ref (q 3), .int 0, .ref (q 4), .ref (q 5), .ref (q 6), .int 0, .ref (q 7), .int 0]))] s.heap.size = A at hD hSt ⊢
  have hA : ∀ q : Nat, s.heap.size ≤ q → A q := fun q h => by rw [← hAe]; exact Or.inr h
  have hS : va_S A s.heap s.heap [] := va_S.rf
  clear hD0 hAe
  have hl := lv_entry ([.ref h0]) (n := 2) (Nat.le_of_ble_eq_true rfl)
  rw [lg_entry_eq]
  generalize (lg_sl ([.ref h0]) ++ List.replicate (2 - (lg_sl ([.ref h0])).length) Slot.unset).toArray = ls at hl ⊢
  have hl : lv_has ls 2 [(0, .ref h0)] := hl
  refine lv_aload_n hx hb dX6_text_0 rfl (lv_at hl 0 rfl) ?_
  refine va_get (D := D) (ci := 6) (v := .int 0) (C := RX6) (T := TX6) (N := 18) hx hb hts (fun _ h => List.mem_cons_of_mem _ (List.mem_append_left _ (List.mem_append_left _ (List.mem_append_left _ (List.mem_append_right _ h))))) hown hK hP 0 rfl rfl 4 (by decide) (hts (.fieldLink RX6 99 "CrownTable" "textsRead" "I") (mem_i 1 rfl)) (fun _ h9 => h9) rfl dX6_text_1 ?_
  refine lv_bipush (v := 10) hx hb dX6_text_4 (by decide) ?_
  refine iicmp_ltT (a := 0) (b := 10) (tgt := 12) hx hb (by decide) (by decide) dX6_text_6 (by decide) (by decide) ?_
  refine lv_aload_n hx hb dX6_text_12 rfl (lv_at hl 0 rfl) ?_
  refine va_get (D := D) (ci := 6) (v := .ref (q 2)) (C := RX6) (T := TX6) (N := 18) hx hb hts (fun _ h => List.mem_cons_of_mem _ (List.mem_append_left _ (List.mem_append_left _ (List.mem_append_left _ (List.mem_append_right _ h))))) hown hK hP 0 rfl rfl 1 (by decide) (hts (.fieldLink RX6 21 "CrownTable" "reader" "LCrownTable$Reader;") (mem_i 2 rfl)) (fun _ h9 => h9) rfl dX6_text_13 ?_
  have hPc := hP.sub (ws' := [(q 2, .inr (1, [.ref (q 0), .int 0, .int 0, .int 0, .int 0, .int 0, .int 0, .int 0, .int 0, .ref (q 3), .int 0, .ref (q 4), .ref (q 5), .ref (q 6), .int 0, .ref (q 7), .int 0])), (q 0, .inr (3, [.ref (q 1), .int 0]))]) [2, 1] rfl
  have hDc := hD.sub (ws' := [(q 2, .inr (1, [.ref (q 0), .int 0, .int 0, .int 0, .int 0, .int 0, .int 0, .int 0, .int 0, .ref (q 3), .int 0, .ref (q 4), .ref (q 5), .ref (q 6), .int 0, .ref (q 7), .int 0])), (q 0, .inr (3, [.ref (q 1), .int 0]))]) [2, 1] (by decide) rfl
  have hFc := va_free (wc := [(q 2, .inr (1, [.ref (q 0), .int 0, .int 0, .int 0, .int 0, .int 0, .int 0, .int 0, .int 0, .ref (q 3), .int 0, .ref (q 4), .ref (q 5), .ref (q 6), .int 0, .ref (q 7), .int 0])), (q 0, .inr (3, [.ref (q 1), .int 0]))]) hD hS hA [2, 1] rfl
  refine va_calli (va_runVN (As := []) (rest := []) ⟨hx, hb, hml, hown, hts⟩ (c_X1_readTape l D c ts s.heap.size (q 2) (q 0) (q 3) (q 4) (q 5) (q 6) (q 7) (q 1)) ⟨va_cnB 0 hts gX6_text_X1_readTape_n102 rfl rfl rfl (show va_Nw (.methodLinkNest RX6 102 yX1_readTape RX6) _ from hAm.2.1.1 (RX6, 102, yX1_readTape, RX6) (mem_i 7 rfl)) (hts (.initialized RX1) (mem_i 6 rfl)) hdX1_readTape ⟨(show 2 + 1 ≤ 3 by decide), (show 8 + (2 + 11) + 42 ≤ 63 by decide)⟩, (hts (.instanceMethod yX1_readTape) (mem_i 5 rfl)), (hts (.selects RX1 yX1_readTape yX1_readTape) (mem_i 7 rfl))⟩ ⟨Pre0.blind, va_recv hK hPc (ci := 1) (q0 := 0) rfl rfl, Pre0.at hPc hDc hAm hSt hS hFc⟩ rfl rfl hl.1 rfl (lv_room (Nat.le_of_ble_eq_true rfl)) dX6_text_16 ⟨(show 0 + 0 ≤ 0 by decide), (show 0 + 0 ≤ 0 by decide)⟩) hS (fun q _ h => hFc q h) hFc (fun r_2 u_3 t1 H locs ht hvm hw_1 hB hz1 hk1 hS => ?_)
  obtain ⟨hP1, hD1⟩ := hB
  rw [ht] at hP1
  obtain ⟨hP, hD⟩ := va_join (wr := [(h0, .inr (6, o6 q 0 0 0 0))]) (w1 := [(q 2, .inr (1, [.ref (q 0), .int 1, .int 0, .int (-1), .int 0, .int 0, .int 0, .int 0, .int 0, .ref (q 3), .int 0, .ref (q 4), .ref (q 5), .ref (q 6), .int 0, .ref (q 7), .int 0])), (q 0, .inr (3, [.ref (q 1), .int 0]))]) hP hD [2, 1] [0] rfl rfl (by decide) (by decide) hk1 hFc hP1 hD1
  have hP : va_P D vwCl [(h0, .inr (6, o6 q 0 0 0 0)), (q 2, .inr (1, [.ref (q 0), .int 1, .int 0, .int (-1), .int 0, .int 0, .int 0, .int 0, .int 0, .ref (q 3), .int 0, .ref (q 4), .ref (q 5), .ref (q 6), .int 0, .ref (q 7), .int 0])), (q 0, .inr (3, [.ref (q 1), .int 0]))] H := hP
  have hD : va_D A [(h0, .inr (6, o6 q 0 0 0 0)), (q 2, .inr (1, [.ref (q 0), .int 1, .int 0, .int (-1), .int 0, .int 0, .int 0, .int 0, .int 0, .ref (q 3), .int 0, .ref (q 4), .ref (q 5), .ref (q 6), .int 0, .ref (q 7), .int 0])), (q 0, .inr (3, [.ref (q 1), .int 0]))] := hD
  refine W.widen (k := 0) (n := 0) (by omega) (by omega) ?_
  refine lk_i (y := 0) hw_1 ?_
  refine lv_istore_n (lv' := [(1, .int 0), (0, .ref h0)]) hx hb dX6_text_19 rfl hl (by decide) rfl (fun ls hl => ?_)
  refine lv_aload_n hx hb dX6_text_20 rfl (lv_at hl 1 rfl) ?_
  refine va_get (D := D) (ci := 6) (v := .ref (q 0)) (C := RX6) (T := TX6) (N := 18) hx hb hts (fun _ h => List.mem_cons_of_mem _ (List.mem_append_left _ (List.mem_append_left _ (List.mem_append_left _ (List.mem_append_right _ h))))) hown hK hP 0 rfl rfl 0 (by decide) (hts (.fieldLink RX6 10 "CrownTable" "tape" "LCrownTable$Tape;") (mem_i 3 rfl)) (fun _ h9 => h9) rfl dX6_text_21 ?_
  refine lv_iconst (v := 0) hx hb dX6_text_24 (by decide) ?_
  refine va_putN (D := D) (ci := 3) (v := .int 0) (ty := .int) (own := RX6) (ref := "CrownTable$Tape") (host := RX6) (index := 95) (C := RX3) (T := TX3) (N := 2) hx hb hts (fun _ h => List.mem_cons_of_mem _ (List.mem_append_left _ (List.mem_append_left _ (List.mem_append_right _ h)))) tyX3 tyX3_ok nmX3 hown hK hP hD hS 2 rfl rfl 1 (by decide) (show (Cond.fieldLinkNest RX6 95 "CrownTable$Tape" "length" "I" RX6).before _ _ = true from va_Nw.use rfl (hAm.2.1.2 (RX6, 95, "CrownTable$Tape", "length", "I", RX6) (mem_i 0 rfl))) (fun _ h9 => h9) rfl (by decide +kernel) rfl rfl (Nat.le_of_ble_eq_true rfl) dX6_text_25 (fun H locs hP hD hS => ?_)
  have hP : va_P D vwCl [(h0, .inr (6, o6 q 0 0 0 0)), (q 2, .inr (1, [.ref (q 0), .int 1, .int 0, .int (-1), .int 0, .int 0, .int 0, .int 0, .int 0, .ref (q 3), .int 0, .ref (q 4), .ref (q 5), .ref (q 6), .int 0, .ref (q 7), .int 0])), (q 0, .inr (3, [.ref (q 1), .int 0]))] H := hP
  have hD : va_D A [(h0, .inr (6, o6 q 0 0 0 0)), (q 2, .inr (1, [.ref (q 0), .int 1, .int 0, .int (-1), .int 0, .int 0, .int 0, .int 0, .int 0, .ref (q 3), .int 0, .ref (q 4), .ref (q 5), .ref (q 6), .int 0, .ref (q 7), .int 0])), (q 0, .inr (3, [.ref (q 1), .int 0]))] := hD
  refine lv_iload_n hx hb dX6_text_28 rfl (lv_at hl 0 rfl) ?_
  refine iif_neF (a := 0) (tgt := 43) hx hb (by decide) dX6_text_29 (by decide) (by decide) ?_
  refine lv_bipush (v := (-100)) hx hb dX6_text_32 (by decide) ?_
  refine lv_aload_n hx hb dX6_text_34 rfl (lv_at hl 1 rfl) ?_
  refine va_get (D := D) (ci := 6) (v := .ref (q 2)) (C := RX6) (T := TX6) (N := 18) hx hb hts (fun _ h => List.mem_cons_of_mem _ (List.mem_append_left _ (List.mem_append_left _ (List.mem_append_left _ (List.mem_append_right _ h))))) hown hK hP 0 rfl rfl 1 (by decide) (hts (.fieldLink RX6 21 "CrownTable" "reader" "LCrownTable$Reader;") (mem_i 2 rfl)) (fun _ h9 => h9) rfl dX6_text_35 ?_
  refine va_getN (D := D) (ci := 1) (v := .int 0) (own := RX6) (ref := "CrownTable$Reader") (host := RX6) (index := 106) (C := RX1) (T := TX1) (N := 17) hx hb hts (fun _ h => List.mem_cons_of_mem _ (List.mem_append_left _ (List.mem_append_right _ h))) hown hK hP 1 rfl rfl 2 (by decide) (show (Cond.fieldLinkNest RX6 106 "CrownTable$Reader" "start" "I" RX6).before _ _ = true from va_Nw.use rfl (hAm.2.1.2 (RX6, 106, "CrownTable$Reader", "start", "I", RX6) (mem_i 2 rfl))) (fun _ h9 => h9) rfl dX6_text_38 ?_
  refine lv_isub hx hb dX6_text_41 ?_
  refine lk_i (y := (-100)) (by decide) ?_
  refine W.widen (k := 0) (n := 0) (by omega) (by omega) ?_
  exact W.iret (v := (-100)) hx hb hr (fun t ht hW => ⟨⟨_, (), rfl, rfl, trivial⟩, hS.F ht⟩) hS.2.2 dX6_text_42

set_option maxHeartbeats 4000000 in
set_option maxRecDepth 100000 in
theorem c_X7_advance (l : Launch) (D : va_G) (c : Nat → ClassId) (ts : Nat × Nat) (sz : Nat) (q : Nat → Nat) (h0 : Nat) : Met l yX7_advance wsX7_advance ({ frames := 0, cells := 0, slots := 0, locals := 0 }) (va_Pc [.ref h0] (Pre0 D c ts [(h0, .inr (7, o7 q (upd v0 17 (-1)) w0))] sz)) (va_Qv (fun (u : (Nat → Nat) × (Nat → Nat → Int32) × (Nat → Nat → Int64)) => True) (fun u t => va_P D vwCl [(h0, .inr (7, o7 q (upd v0 17 (-1)) w0))] t.heap ∧ va_D (va_A [(h0, .inr (7, o7 q (upd v0 17 (-1)) w0))] sz) [(h0, .inr (7, o7 q (upd v0 17 (-1)) w0))]) (va_A [(h0, .inr (7, o7 q (upd v0 17 (-1)) w0))] sz)) 0 0 (va_A [(h0, .inr (7, o7 q (upd v0 17 (-1)) w0))] sz) := by
  refine Met.ofW (cc := cX7_advance) (maxL := 5) (ret := none) (by decide) rfl ?_
  intro p e s m args below meth cd s₁ B hml hv
  obtain ⟨rfl, hsz, hP, hD0, hAm, hSt⟩ := hv
  have hx := B.exec
  have hb := B.bytes
  have hr := B.returns
  have hts := atoms_spec (ws := wsX7_advance) B.pre
  have hown : s.vm.findClass RX7 = some m.cls := findClass_of_methodNamed B.named
  have hlocks := B.notSynchronized
  subst hsz
  have hK := hAm.1
  have hD := hD0.self (sz := s.heap.size)
  generalize hAe : va_A [(h0, .inr (7, o7 q (upd v0 17 (-1)) w0))] s.heap.size = A at hD hSt ⊢
  have hA : ∀ q : Nat, s.heap.size ≤ q → A q := fun q h => by rw [← hAe]; exact Or.inr h
  have hS : va_S A s.heap s.heap [] := va_S.rf
  clear hD0 hAe
  have hl := lv_entry ([.ref h0]) (n := 5) (Nat.le_of_ble_eq_true rfl)
  rw [lg_entry_eq]
  generalize (lg_sl ([.ref h0]) ++ List.replicate (5 - (lg_sl ([.ref h0])).length) Slot.unset).toArray = ls at hl ⊢
  have hl : lv_has ls 5 [(0, .ref h0)] := hl
  refine lv_aload_n hx hb dX7_advance_0 rfl (lv_at hl 0 rfl) ?_
  refine va_get (D := D) (ci := 7) (v := .int 0) (C := RX7) (T := TX7) (N := 56) hx hb hts (fun _ h => List.mem_cons_of_mem _ (List.mem_append_right _ h)) hown hK hP 0 rfl rfl 3 (by decide) (hts (.fieldLink RX7 136 "CrownTableModel" "at" "I") (mem_i 1 rfl)) (fun _ h9 => h9) rfl dX7_advance_1 ?_
  refine lv_aload_n hx hb dX7_advance_4 rfl (lv_at hl 0 rfl) ?_
  refine va_get (D := D) (ci := 7) (v := .int 0) (C := RX7) (T := TX7) (N := 56) hx hb hts (fun _ h => List.mem_cons_of_mem _ (List.mem_append_right _ h)) hown hK hP 0 rfl rfl 2 (by decide) (hts (.fieldLink RX7 125 "CrownTableModel" "taped" "I") (mem_i 2 rfl)) (fun _ h9 => h9) rfl dX7_advance_5 ?_
  refine iicmp_geT (a := 0) (b := 0) (tgt := 52) hx hb (by decide) (by decide) dX7_advance_8 (by decide) (by decide) ?_
  refine lv_aload_n hx hb dX7_advance_52 rfl (lv_at hl 0 rfl) ?_
  refine lv_aload_n hx hb dX7_advance_53 rfl (lv_at hl 0 rfl) ?_
  refine va_get (D := D) (ci := 7) (v := .int 0) (C := RX7) (T := TX7) (N := 56) hx hb hts (fun _ h => List.mem_cons_of_mem _ (List.mem_append_right _ h)) hown hK hP 0 rfl rfl 3 (by decide) (hts (.fieldLink RX7 136 "CrownTableModel" "at" "I") (mem_i 1 rfl)) (fun _ h9 => h9) rfl dX7_advance_54 ?_
  refine va_put (D := D) (ci := 7) (v := .int 0) (ty := .int) (C := RX7) (T := TX7) (N := 56) hx hb hts (fun _ h => List.mem_cons_of_mem _ (List.mem_append_right _ h)) tyX7 tyX7_ok nmX7 hown hK hP hD hS 0 rfl rfl 5 (by decide) (hts (.fieldLink RX7 139 "CrownTableModel" "tkAt" "I") (mem_i 4 rfl)) (fun _ h9 => h9) rfl (by decide +kernel) rfl rfl (Nat.le_of_ble_eq_true rfl) dX7_advance_57 (fun H locs hP hD hS => ?_)
  have hP : va_P D vwCl [(h0, .inr (7, o7 q (upd v0 17 (-1)) w0))] H := hP
  have hD : va_D A [(h0, .inr (7, o7 q (upd v0 17 (-1)) w0))] := hD
  refine lv_aload_n hx hb dX7_advance_60 rfl (lv_at hl 0 rfl) ?_
  refine va_get (D := D) (ci := 7) (v := .int 0) (C := RX7) (T := TX7) (N := 56) hx hb hts (fun _ h => List.mem_cons_of_mem _ (List.mem_append_right _ h)) hown hK hP 0 rfl rfl 3 (by decide) (hts (.fieldLink RX7 136 "CrownTableModel" "at" "I") (mem_i 1 rfl)) (fun _ h9 => h9) rfl dX7_advance_61 ?_
  refine lv_aload_n hx hb dX7_advance_64 rfl (lv_at hl 0 rfl) ?_
  refine va_get (D := D) (ci := 7) (v := .int 0) (C := RX7) (T := TX7) (N := 56) hx hb hts (fun _ h => List.mem_cons_of_mem _ (List.mem_append_right _ h)) hown hK hP 0 rfl rfl 2 (by decide) (hts (.fieldLink RX7 125 "CrownTableModel" "taped" "I") (mem_i 2 rfl)) (fun _ h9 => h9) rfl dX7_advance_65 ?_
  refine iicmp_neF (a := 0) (b := 0) (tgt := 77) hx hb (by decide) (by decide) dX7_advance_68 (by decide) (by decide) ?_
  refine lv_aload_n hx hb dX7_advance_71 rfl (lv_at hl 0 rfl) ?_
  refine lv_iconst (v := 0) hx hb dX7_advance_72 (by decide) ?_
  refine va_put (D := D) (ci := 7) (v := .int 0) (ty := .int) (C := RX7) (T := TX7) (N := 56) hx hb hts (fun _ h => List.mem_cons_of_mem _ (List.mem_append_right _ h)) tyX7 tyX7_ok nmX7 hown hK hP hD hS 0 rfl rfl 4 (by decide) (hts (.fieldLink RX7 142 "CrownTableModel" "tk" "I") (mem_i 5 rfl)) (fun _ h9 => h9) rfl (by decide +kernel) rfl rfl (Nat.le_of_ble_eq_true rfl) dX7_advance_73 (fun H locs hP hD hS => ?_)
  have hP : va_P D vwCl [(h0, .inr (7, o7 q (upd v0 17 (-1)) w0))] H := hP
  have hD : va_D A [(h0, .inr (7, o7 q (upd v0 17 (-1)) w0))] := hD
  have hP9 := hP.sub (ws' := [(h0, .inr (7, o7 q (upd v0 17 (-1)) w0))]) [0] rfl
  have hD9 := hD.sub (ws' := [(h0, .inr (7, o7 q (upd v0 17 (-1)) w0))]) [0] (by decide) rfl
  refine W.widen (k := 0) (n := 0) (by omega) (by omega) ?_
  exact W.vret hx hb hr (fun t ht hW => ⟨⟨(fun k => [].getD k 0, fun k => [].getD k (fun _ => 0), fun k => [].getD k (fun _ => 0)), rfl, trivial, ⟨by rw [ht]; exact hP9, hD9⟩⟩, hS.F ht⟩) hS.2.2 dX7_advance_76

set_option maxHeartbeats 4000000 in
set_option maxRecDepth 100000 in
theorem c_X7_in_8 (l : Launch) (D : va_G) (c : Nat → ClassId) (ts : Nat × Nat) (sz : Nat)  : Met l yX7_in wsX7_in ({ frames := 0, cells := 0, slots := 0, locals := 0 }) (va_Pc [.int 0, .int 100, .int 105] (Pre0 D c ts [] sz)) (vp_Si (fun r : Int32 => r = 0)) 0 0 (fun _ => False) := by
  refine Met.ofW (cc := cX7_in) (maxL := 3) (ret := (some .boolean)) (by decide) rfl ?_
  intro p e s m args below meth cd s₁ B hml hv
  obtain ⟨rfl, hsz, hP, hD0, hAm, hSt⟩ := hv
  have hx := B.exec
  have hb := B.bytes
  have hr := B.returns
  have hts := atoms_spec (ws := wsX7_in) B.pre
  have hown : s.vm.findClass RX7 = some m.cls := findClass_of_methodNamed B.named
  have hlocks := B.notSynchronized
  subst hsz
  have hK := hAm.1
  have hD := hD0.self (sz := s.heap.size)
  generalize hAe : va_A [] s.heap.size = A at hD hSt
  have hA : ∀ q : Nat, s.heap.size ≤ q → A q := fun q h => by rw [← hAe]; exact Or.inr h
  have hS : va_S A s.heap s.heap [] := va_S.rf
  clear hD0 hAe
  have hl := lv_entry ([.int 0, .int 100, .int 105]) (n := 3) (Nat.le_of_ble_eq_true rfl)
  rw [lg_entry_eq]
  generalize (lg_sl ([.int 0, .int 100, .int 105]) ++ List.replicate (3 - (lg_sl ([.int 0, .int 100, .int 105])).length) Slot.unset).toArray = ls at hl ⊢
  have hl : lv_has ls 3 [(0, .int 0), (1, .int 100), (2, .int 105)] := hl
  refine lv_iload_n hx hb dX7_in_0 rfl (lv_at hl 0 rfl) ?_
  refine lv_iload_n hx hb dX7_in_1 rfl (lv_at hl 1 rfl) ?_
  refine iicmp_ltT (a := 0) (b := 100) (tgt := 14) hx hb (by decide) (by decide) dX7_in_2 (by decide) (by decide) ?_
  refine lv_iconst (v := 0) hx hb dX7_in_14 (by decide) ?_
  exact W.zret (v := 0) hx hb hr (by decide) (fun t ht hW => ⟨_, rfl, rfl, ht⟩) (fun _ h => by cases h) dX7_in_15

set_option maxHeartbeats 4000000 in
set_option maxRecDepth 100000 in
theorem c_X7_wrong (l : Launch) (D : va_G) (c : Nat → ClassId) (ts : Nat × Nat) (sz : Nat) (q : Nat → Nat) (h0 : Nat) : Met l yX7_wrong wsX7_wrong ({ frames := 0, cells := 0, slots := 0, locals := 0 }) (va_Pc [.ref h0] (Pre0 D c ts [(h0, .inr (7, o7 q (upd v0 17 (-1)) w0))] sz)) (va_Qv (fun (u : (Nat → Nat) × (Nat → Nat → Int32) × (Nat → Nat → Int64)) => True) (fun u t => va_P D vwCl [(h0, .inr (7, o7 q v0 w0))] t.heap ∧ va_D (va_A [(h0, .inr (7, o7 q (upd v0 17 (-1)) w0))] sz) [(h0, .inr (7, o7 q v0 w0))]) (va_A [(h0, .inr (7, o7 q (upd v0 17 (-1)) w0))] sz)) 0 0 (va_A [(h0, .inr (7, o7 q (upd v0 17 (-1)) w0))] sz) := by
  refine Met.ofW (cc := cX7_wrong) (maxL := 1) (ret := none) (by decide) rfl ?_
  intro p e s m args below meth cd s₁ B hml hv
  obtain ⟨rfl, hsz, hP, hD0, hAm, hSt⟩ := hv
  have hx := B.exec
  have hb := B.bytes
  have hr := B.returns
  have hts := atoms_spec (ws := wsX7_wrong) B.pre
  have hown : s.vm.findClass RX7 = some m.cls := findClass_of_methodNamed B.named
  have hlocks := B.notSynchronized
  subst hsz
  have hK := hAm.1
  have hD := hD0.self (sz := s.heap.size)
  generalize hAe : va_A [(h0, .inr (7, o7 q (upd v0 17 (-1)) w0))] s.heap.size = A at hD hSt ⊢
  have hA : ∀ q : Nat, s.heap.size ≤ q → A q := fun q h => by rw [← hAe]; exact Or.inr h
  have hS : va_S A s.heap s.heap [] := va_S.rf
  clear hD0 hAe
  have hl := lv_entry ([.ref h0]) (n := 1) (Nat.le_of_ble_eq_true rfl)
  rw [lg_entry_eq]
  generalize (lg_sl ([.ref h0]) ++ List.replicate (1 - (lg_sl ([.ref h0])).length) Slot.unset).toArray = ls at hl ⊢
  have hl : lv_has ls 1 [(0, .ref h0)] := hl
  refine lv_aload_n hx hb dX7_wrong_0 rfl (lv_at hl 0 rfl) ?_
  refine lv_aload_n hx hb dX7_wrong_1 rfl (lv_at hl 0 rfl) ?_
  refine va_get (D := D) (ci := 7) (v := .int (-1)) (C := RX7) (T := TX7) (N := 56) hx hb hts (fun _ h => List.mem_cons_of_mem _ (List.mem_append_right _ h)) hown hK hP 0 rfl rfl 17 (by decide) (hts (.fieldLink RX7 208 "CrownTableModel" "fault" "I") (mem_i 1 rfl)) (fun _ h9 => h9) rfl dX7_wrong_2 ?_
  refine iif_geF (a := (-1)) (tgt := 15) hx hb (by decide) dX7_wrong_5 (by decide) (by decide) ?_
  refine lv_aload_n hx hb dX7_wrong_8 rfl (lv_at hl 0 rfl) ?_
  refine va_get (D := D) (ci := 7) (v := .int 0) (C := RX7) (T := TX7) (N := 56) hx hb hts (fun _ h => List.mem_cons_of_mem _ (List.mem_append_right _ h)) hown hK hP 0 rfl rfl 5 (by decide) (hts (.fieldLink RX7 139 "CrownTableModel" "tkAt" "I") (mem_i 2 rfl)) (fun _ h9 => h9) rfl dX7_wrong_9 ?_
  refine lv_goto (tgt := 19) hx hb dX7_wrong_12 (by decide) ?_
  refine va_put (D := D) (ci := 7) (v := .int 0) (ty := .int) (C := RX7) (T := TX7) (N := 56) hx hb hts (fun _ h => List.mem_cons_of_mem _ (List.mem_append_right _ h)) tyX7 tyX7_ok nmX7 hown hK hP hD hS 0 rfl rfl 17 (by decide) (hts (.fieldLink RX7 208 "CrownTableModel" "fault" "I") (mem_i 1 rfl)) (fun _ h9 => h9) rfl (by decide +kernel) rfl rfl (Nat.le_of_ble_eq_true rfl) dX7_wrong_19 (fun H locs hP hD hS => ?_)
  have hP : va_P D vwCl [(h0, .inr (7, o7 q v0 w0))] H := hP
  have hD : va_D A [(h0, .inr (7, o7 q v0 w0))] := hD
  have hP9 := hP.sub (ws' := [(h0, .inr (7, o7 q v0 w0))]) [0] rfl
  have hD9 := hD.sub (ws' := [(h0, .inr (7, o7 q v0 w0))]) [0] (by decide) rfl
  refine W.widen (k := 0) (n := 0) (by omega) (by omega) ?_
  exact W.vret hx hb hr (fun t ht hW => ⟨⟨(fun k => [].getD k 0, fun k => [].getD k (fun _ => 0), fun k => [].getD k (fun _ => 0)), rfl, trivial, ⟨by rw [ht]; exact hP9, hD9⟩⟩, hS.F ht⟩) hS.2.2 dX7_wrong_22

set_option maxHeartbeats 4000000 in
set_option maxRecDepth 100000 in
theorem c_X7_statement (l : Launch) (D : va_G) (c : Nat → ClassId) (ts : Nat × Nat) (sz : Nat) (q : Nat → Nat) (h0 : Nat) : Met l yX7_statement wsX7_statement ({ frames := 1, cells := 0, slots := 0, locals := 22 }) (va_Pc [.ref h0, .int 0] (Pre0 D c ts [(h0, .inr (7, o7 q (upd v0 17 (-1)) w0)), (q 9, .inl (c 1, 10, .inl (fun _ => 0))), (q 12, .inl (c 1, 400, .inl (fun _ => 0))), (q 13, .inl (c 1, 400, .inl (fun _ => 0)))] sz)) (va_Qv (fun (u : (Nat → Nat) × (Nat → Nat → Int32) × (Nat → Nat → Int64)) => True) (fun u t => va_P D vwCl [(q 9, .inl (c 1, 10, .inl (fun _ => 0))), (q 12, .inl (c 1, 400, .inl (fun _ => 0))), (q 13, .inl (c 1, 400, .inl (fun _ => 0))), (h0, .inr (7, o7 q v0 w0))] t.heap ∧ va_D (va_A [(h0, .inr (7, o7 q (upd v0 17 (-1)) w0)), (q 9, .inl (c 1, 10, .inl (fun _ => 0))), (q 12, .inl (c 1, 400, .inl (fun _ => 0))), (q 13, .inl (c 1, 400, .inl (fun _ => 0)))] sz) [(q 9, .inl (c 1, 10, .inl (fun _ => 0))), (q 12, .inl (c 1, 400, .inl (fun _ => 0))), (q 13, .inl (c 1, 400, .inl (fun _ => 0))), (h0, .inr (7, o7 q v0 w0))]) (va_A [(h0, .inr (7, o7 q (upd v0 17 (-1)) w0)), (q 9, .inl (c 1, 10, .inl (fun _ => 0))), (q 12, .inl (c 1, 400, .inl (fun _ => 0))), (q 13, .inl (c 1, 400, .inl (fun _ => 0)))] sz)) 0 0 (va_A [(h0, .inr (7, o7 q (upd v0 17 (-1)) w0)), (q 9, .inl (c 1, 10, .inl (fun _ => 0))), (q 12, .inl (c 1, 400, .inl (fun _ => 0))), (q 13, .inl (c 1, 400, .inl (fun _ => 0)))] sz) := by
  refine Met.ofW (cc := cX7_statement) (maxL := 4) (ret := none) (by decide) rfl ?_
  intro p e s m args below meth cd s₁ B hml hv
  obtain ⟨rfl, hsz, hP, hD0, hAm, hSt⟩ := hv
  have hx := B.exec
  have hb := B.bytes
  have hr := B.returns
  have hts := atoms_spec (ws := wsX7_statement) B.pre
  have hown : s.vm.findClass RX7 = some m.cls := findClass_of_methodNamed B.named
  have hlocks := B.notSynchronized
  subst hsz
  have hK := hAm.1
  have hD := hD0.self (sz := s.heap.size)
  generalize hAe : va_A [(h0, .inr (7, o7 q (upd v0 17 (-1)) w0)), (q 9, .inl (c 1, 10, .inl (fun _ => 0))), (q 12, .inl (c 1, 400, .inl (fun _ => 0))), (q 13, .inl (c 1, 400, .inl (fun _ => 0)))] s.heap.size = A at hD hSt ⊢
  have hA : ∀ q : Nat, s.heap.size ≤ q → A q := fun q h => by rw [← hAe]; exact Or.inr h
  have hS : va_S A s.heap s.heap [] := va_S.rf
  clear hD0 hAe
  have hl := lv_entry ([.ref h0, .int 0]) (n := 4) (Nat.le_of_ble_eq_true rfl)
  rw [lg_entry_eq]
  generalize (lg_sl ([.ref h0, .int 0]) ++ List.replicate (4 - (lg_sl ([.ref h0, .int 0])).length) Slot.unset).toArray = ls at hl ⊢
  have hl : lv_has ls 4 [(0, .ref h0), (1, .int 0)] := hl
  refine lv_aload_n hx hb dX7_statement_0 rfl (lv_at hl 0 rfl) ?_
  refine va_get (D := D) (ci := 7) (v := .ref (q 9)) (C := RX7) (T := TX7) (N := 56) hx hb hts (fun _ h => List.mem_cons_of_mem _ (List.mem_append_right _ h)) hown hK hP 0 rfl rfl 9 (by decide) (hts (.fieldLink RX7 13 "CrownTableModel" "many" "[I") (mem_i 1 rfl)) (fun _ h9 => h9) rfl dX7_statement_1 ?_
  refine lv_iload_n hx hb dX7_statement_4 rfl (lv_at hl 1 rfl) ?_
  refine va_iald hx hb hK hP 1 1 rfl rfl (vin (a := 0) (by decide) (by decide) (by decide)) dX7_statement_5 ?_
  refine lk_i (y := 0) rfl ?_
  refine lv_bipush (v := 40) hx hb dX7_statement_6 (by decide) ?_
  refine iicmp_neT (a := 0) (b := 40) (tgt := 16) hx hb (by decide) (by decide) dX7_statement_8 (by decide) (by decide) ?_
  refine lv_bipush (v := 40) hx hb dX7_statement_16 (by decide) ?_
  refine lv_iload_n hx hb dX7_statement_18 rfl (lv_at hl 1 rfl) ?_
  refine lv_imul hx hb dX7_statement_19 ?_
  refine lk_i (y := 0) (by decide) ?_
  refine lv_aload_n hx hb dX7_statement_20 rfl (lv_at hl 0 rfl) ?_
  refine va_get (D := D) (ci := 7) (v := .ref (q 9)) (C := RX7) (T := TX7) (N := 56) hx hb hts (fun _ h => List.mem_cons_of_mem _ (List.mem_append_right _ h)) hown hK hP 0 rfl rfl 9 (by decide) (hts (.fieldLink RX7 13 "CrownTableModel" "many" "[I") (mem_i 1 rfl)) (fun _ h9 => h9) rfl dX7_statement_21 ?_
  refine lv_iload_n hx hb dX7_statement_24 rfl (lv_at hl 1 rfl) ?_
  refine va_iald hx hb hK hP 1 1 rfl rfl (vin (a := 0) (by decide) (by decide) (by decide)) dX7_statement_25 ?_
  refine lk_i (y := 0) rfl ?_
  refine lv_iadd hx hb dX7_statement_26 ?_
  refine lk_i (y := 0) (by decide) ?_
  refine lv_istore_n (lv' := [(2, .int 0), (0, .ref h0), (1, .int 0)]) hx hb dX7_statement_27 rfl hl (by decide) rfl (fun ls hl => ?_)
  refine lv_aload_n hx hb dX7_statement_28 rfl (lv_at hl 1 rfl) ?_
  refine va_get (D := D) (ci := 7) (v := .ref (q 12)) (C := RX7) (T := TX7) (N := 56) hx hb hts (fun _ h => List.mem_cons_of_mem _ (List.mem_append_right _ h)) hown hK hP 0 rfl rfl 12 (by decide) (hts (.fieldLink RX7 23 "CrownTableModel" "from" "[I") (mem_i 2 rfl)) (fun _ h9 => h9) rfl dX7_statement_29 ?_
  refine lv_iload_n hx hb dX7_statement_32 rfl (lv_at hl 0 rfl) ?_
  refine lv_aload_n hx hb dX7_statement_33 rfl (lv_at hl 1 rfl) ?_
  refine va_get (D := D) (ci := 7) (v := .int 0) (C := RX7) (T := TX7) (N := 56) hx hb hts (fun _ h => List.mem_cons_of_mem _ (List.mem_append_right _ h)) hown hK hP 0 rfl rfl 16 (by decide) (hts (.fieldLink RX7 217 "CrownTableModel" "laid" "I") (mem_i 3 rfl)) (fun _ h9 => h9) rfl dX7_statement_34 ?_
  refine va_iast hx hb hK hP hD hS 2 1 rfl rfl (vin (a := 0) (by decide) (by decide) (by decide)) dX7_statement_37 (fun H locs hP hD hS => ?_)
  rw [upd_id] at hP hD
  have hP : va_P D vwCl [(h0, .inr (7, o7 q (upd v0 17 (-1)) w0)), (q 9, .inl (c 1, 10, .inl (fun _ => 0))), (q 12, .inl (c 1, 400, .inl (fun _ => 0))), (q 13, .inl (c 1, 400, .inl (fun _ => 0)))] H := hP
  have hD : va_D A [(h0, .inr (7, o7 q (upd v0 17 (-1)) w0)), (q 9, .inl (c 1, 10, .inl (fun _ => 0))), (q 12, .inl (c 1, 400, .inl (fun _ => 0))), (q 13, .inl (c 1, 400, .inl (fun _ => 0)))] := hD
  refine lv_aload_n hx hb dX7_statement_38 rfl (lv_at hl 1 rfl) ?_
  refine va_get (D := D) (ci := 7) (v := .int 0) (C := RX7) (T := TX7) (N := 56) hx hb hts (fun _ h => List.mem_cons_of_mem _ (List.mem_append_right _ h)) hown hK hP 0 rfl rfl 4 (by decide) (hts (.fieldLink RX7 142 "CrownTableModel" "tk" "I") (mem_i 4 rfl)) (fun _ h9 => h9) rfl dX7_statement_39 ?_
  refine lv_bipush (v := 106) hx hb dX7_statement_42 (by decide) ?_
  refine iicmp_neT (a := 0) (b := 106) (tgt := 62) hx hb (by decide) (by decide) dX7_statement_44 (by decide) (by decide) ?_
  refine lv_aload_n hx hb dX7_statement_62 rfl (lv_at hl 1 rfl) ?_
  refine va_get (D := D) (ci := 7) (v := .ref (q 13)) (C := RX7) (T := TX7) (N := 56) hx hb hts (fun _ h => List.mem_cons_of_mem _ (List.mem_append_right _ h)) hown hK hP 0 rfl rfl 13 (by decide) (hts (.fieldLink RX7 26 "CrownTableModel" "to" "[I") (mem_i 5 rfl)) (fun _ h9 => h9) rfl dX7_statement_63 ?_
  refine lv_iload_n hx hb dX7_statement_66 rfl (lv_at hl 0 rfl) ?_
  refine lv_aload_n hx hb dX7_statement_67 rfl (lv_at hl 1 rfl) ?_
  refine va_get (D := D) (ci := 7) (v := .int 0) (C := RX7) (T := TX7) (N := 56) hx hb hts (fun _ h => List.mem_cons_of_mem _ (List.mem_append_right _ h)) hown hK hP 0 rfl rfl 16 (by decide) (hts (.fieldLink RX7 217 "CrownTableModel" "laid" "I") (mem_i 3 rfl)) (fun _ h9 => h9) rfl dX7_statement_68 ?_
  refine va_iast hx hb hK hP hD hS 3 1 rfl rfl (vin (a := 0) (by decide) (by decide) (by decide)) dX7_statement_71 (fun H locs hP hD hS => ?_)
  rw [upd_id] at hP hD
  have hP : va_P D vwCl [(h0, .inr (7, o7 q (upd v0 17 (-1)) w0)), (q 9, .inl (c 1, 10, .inl (fun _ => 0))), (q 12, .inl (c 1, 400, .inl (fun _ => 0))), (q 13, .inl (c 1, 400, .inl (fun _ => 0)))] H := hP
  have hD : va_D A [(h0, .inr (7, o7 q (upd v0 17 (-1)) w0)), (q 9, .inl (c 1, 10, .inl (fun _ => 0))), (q 12, .inl (c 1, 400, .inl (fun _ => 0))), (q 13, .inl (c 1, 400, .inl (fun _ => 0)))] := hD
  refine lv_aload_n hx hb dX7_statement_72 rfl (lv_at hl 1 rfl) ?_
  refine va_get (D := D) (ci := 7) (v := .int (-1)) (C := RX7) (T := TX7) (N := 56) hx hb hts (fun _ h => List.mem_cons_of_mem _ (List.mem_append_right _ h)) hown hK hP 0 rfl rfl 17 (by decide) (hts (.fieldLink RX7 208 "CrownTableModel" "fault" "I") (mem_i 6 rfl)) (fun _ h9 => h9) rfl dX7_statement_73 ?_
  refine iif_ltT (a := (-1)) (tgt := 80) hx hb (by decide) dX7_statement_76 (by decide) (by decide) ?_
  refine lv_aload_n hx hb dX7_statement_80 rfl (lv_at hl 1 rfl) ?_
  refine va_get (D := D) (ci := 7) (v := .int 0) (C := RX7) (T := TX7) (N := 56) hx hb hts (fun _ h => List.mem_cons_of_mem _ (List.mem_append_right _ h)) hown hK hP 0 rfl rfl 4 (by decide) (hts (.fieldLink RX7 142 "CrownTableModel" "tk" "I") (mem_i 4 rfl)) (fun _ h9 => h9) rfl dX7_statement_81 ?_
  refine lv_bipush (v := 100) hx hb dX7_statement_84 (by decide) ?_
  refine lv_bipush (v := 105) hx hb dX7_statement_86 (by decide) ?_
  have hPc := hP.sub (ws' := []) [] rfl
  have hDc := hD.sub (ws' := []) [] (by decide) rfl
  have hFc := va_free (wc := []) hD hS hA [] rfl
  refine va_csi (va_runS (As := [.int 0, .int 100, .int 105]) (rest := []) ⟨hx, hb, hml, hown, hts⟩ (c_X7_in_8 l D c ts H.size) (cwS 3 hts gX7_statement_X7_in rfl rfl rfl ⟨rfl, hdX7_in⟩ ⟨(show 0 + 1 ≤ 1 by decide), (show 8 + (3 + 11) + 0 ≤ 22 by decide)⟩) ⟨Pre0.blind, Pre0.at hPc hDc hAm hSt hS hFc⟩ rfl rfl hl.1 rfl (lv_room (Nat.le_of_ble_eq_true rfl)) dX7_statement_88 ⟨(show 0 + 0 ≤ 0 by decide), (show 0 + 0 ≤ 0 by decide)⟩) (fun r_2 hw_1 => ?_)
  refine lk_i (y := 0) hw_1 ?_
  refine iif_neF (a := 0) (tgt := 99) hx hb (by decide) dX7_statement_91 (by decide) (by decide) ?_
  refine lv_aload_n hx hb dX7_statement_94 rfl (lv_at hl 1 rfl) ?_
  have hPc := hP.sub (ws' := [(h0, .inr (7, o7 q (upd v0 17 (-1)) w0))]) [0] rfl
  have hDc := hD.sub (ws' := [(h0, .inr (7, o7 q (upd v0 17 (-1)) w0))]) [0] (by decide) rfl
  have hFc := va_free (wc := [(h0, .inr (7, o7 q (upd v0 17 (-1)) w0))]) hD hS hA [0] rfl
  refine va_callv (va_runV (As := []) (rest := []) ⟨hx, hb, hml, hown, hts⟩ (c_X7_wrong l D c ts H.size q h0) (cwV 0 hts gX7_statement_X7_wrong rfl rfl rfl ⟨rfl, hdX7_wrong⟩ ⟨(show 0 + 1 ≤ 1 by decide), (show 8 + (1 + 11) + 0 ≤ 22 by decide)⟩) ⟨Pre0.blind, va_recv hK hPc (ci := 7) (q0 := 0) rfl rfl, Pre0.at hPc hDc hAm hSt hS hFc⟩ rfl rfl hl.1 rfl (lv_room (Nat.le_of_ble_eq_true rfl)) dX7_statement_95 ⟨(show 0 + 0 ≤ 0 by decide), (show 0 + 0 ≤ 0 by decide)⟩) hS (fun q _ h => hFc q h) hFc (fun u_5 t1 H locs ht hvm hw_3 hB hz1 hk1 hS => ?_)
  obtain ⟨hP1, hD1⟩ := hB
  rw [ht] at hP1
  obtain ⟨hP, hD⟩ := va_join (wr := [(q 9, .inl (c 1, 10, .inl (fun _ => 0))), (q 12, .inl (c 1, 400, .inl (fun _ => 0))), (q 13, .inl (c 1, 400, .inl (fun _ => 0)))]) (w1 := [(h0, .inr (7, o7 q v0 w0))]) hP hD [0] [1, 2, 3] rfl rfl (by decide) (by decide) hk1 hFc hP1 hD1
  have hP : va_P D vwCl [(q 9, .inl (c 1, 10, .inl (fun _ => 0))), (q 12, .inl (c 1, 400, .inl (fun _ => 0))), (q 13, .inl (c 1, 400, .inl (fun _ => 0))), (h0, .inr (7, o7 q v0 w0))] H := hP
  have hD : va_D A [(q 9, .inl (c 1, 10, .inl (fun _ => 0))), (q 12, .inl (c 1, 400, .inl (fun _ => 0))), (q 13, .inl (c 1, 400, .inl (fun _ => 0))), (h0, .inr (7, o7 q v0 w0))] := hD
  refine W.widen (k := 0) (n := 0) (by omega) (by omega) ?_
  have hP9 := hP.sub (ws' := [(q 9, .inl (c 1, 10, .inl (fun _ => 0))), (q 12, .inl (c 1, 400, .inl (fun _ => 0))), (q 13, .inl (c 1, 400, .inl (fun _ => 0))), (h0, .inr (7, o7 q v0 w0))]) [0, 1, 2, 3] rfl
  have hD9 := hD.sub (ws' := [(q 9, .inl (c 1, 10, .inl (fun _ => 0))), (q 12, .inl (c 1, 400, .inl (fun _ => 0))), (q 13, .inl (c 1, 400, .inl (fun _ => 0))), (h0, .inr (7, o7 q v0 w0))]) [0, 1, 2, 3] (by decide) rfl
  refine W.widen (k := 0) (n := 0) (by omega) (by omega) ?_
  exact W.vret hx hb hr (fun t ht hW => ⟨⟨(fun k => [].getD k 0, fun k => [].getD k (fun _ => 0), fun k => [].getD k (fun _ => 0)), rfl, trivial, ⟨by rw [ht]; exact hP9, hD9⟩⟩, hS.F ht⟩) hS.2.2 dX7_statement_98

set_option maxHeartbeats 4000000 in
set_option maxRecDepth 100000 in
theorem c_X7_text (l : Launch) (D : va_G) (c : Nat → ClassId) (ts : Nat × Nat) (sz : Nat) (q : Nat → Nat) (h0 : Nat) : Met l yX7_text wsX7_text ({ frames := 2, cells := 0, slots := 0, locals := 45 }) (va_Pc [.ref h0] (Pre0 D c ts [(h0, .inr (7, o7 q v0 w0)), (q 9, .inl (c 1, 10, .inl (fun _ => 0))), (q 12, .inl (c 1, 400, .inl (fun _ => 0))), (q 13, .inl (c 1, 400, .inl (fun _ => 0)))] sz)) (va_Qi (fun (r : Int32) (u : Unit) => r = (-100)) (fun _ _ => True) (va_A [(h0, .inr (7, o7 q v0 w0)), (q 9, .inl (c 1, 10, .inl (fun _ => 0))), (q 12, .inl (c 1, 400, .inl (fun _ => 0))), (q 13, .inl (c 1, 400, .inl (fun _ => 0)))] sz)) 0 0 (va_A [(h0, .inr (7, o7 q v0 w0)), (q 9, .inl (c 1, 10, .inl (fun _ => 0))), (q 12, .inl (c 1, 400, .inl (fun _ => 0))), (q 13, .inl (c 1, 400, .inl (fun _ => 0)))] sz) := by
  refine Met.ofW (cc := cX7_text) (maxL := 2) (ret := (some .int)) (by decide) rfl ?_
  intro p e s m args below meth cd s₁ B hml hv
  obtain ⟨rfl, hsz, hP, hD0, hAm, hSt⟩ := hv
  have hx := B.exec
  have hb := B.bytes
  have hr := B.returns
  have hts := atoms_spec (ws := wsX7_text) B.pre
  have hown : s.vm.findClass RX7 = some m.cls := findClass_of_methodNamed B.named
  have hlocks := B.notSynchronized
  subst hsz
  have hK := hAm.1
  have hD := hD0.self (sz := s.heap.size)
  generalize hAe : va_A [(h0, .inr (7, o7 q v0 w0)), (q 9, .inl (c 1, 10, .inl (fun _ => 0))), (q 12, .inl (c 1, 400, .inl (fun _ => 0))), (q 13, .inl (c 1, 400, .inl (fun _ => 0)))] s.heap.size = A at hD hSt ⊢
  have hA : ∀ q : Nat, s.heap.size ≤ q → A q := fun q h => by rw [← hAe]; exact Or.inr h
  have hS : va_S A s.heap s.heap [] := va_S.rf
  clear hD0 hAe
  have hl := lv_entry ([.ref h0]) (n := 2) (Nat.le_of_ble_eq_true rfl)
  rw [lg_entry_eq]
  generalize (lg_sl ([.ref h0]) ++ List.replicate (2 - (lg_sl ([.ref h0])).length) Slot.unset).toArray = ls at hl ⊢
  have hl : lv_has ls 2 [(0, .ref h0)] := hl
  refine lv_aload_n hx hb dX7_text_0 rfl (lv_at hl 0 rfl) ?_
  refine va_get (D := D) (ci := 7) (v := .int 0) (C := RX7) (T := TX7) (N := 56) hx hb hts (fun _ h => List.mem_cons_of_mem _ (List.mem_append_right _ h)) hown hK hP 0 rfl rfl 8 (by decide) (hts (.fieldLink RX7 220 "CrownTableModel" "texts" "I") (mem_i 1 rfl)) (fun _ h9 => h9) rfl dX7_text_1 ?_
  refine lv_bipush (v := 10) hx hb dX7_text_4 (by decide) ?_
  refine iicmp_neT (a := 0) (b := 10) (tgt := 12) hx hb (by decide) (by decide) dX7_text_6 (by decide) (by decide) ?_
  refine lv_aload_n hx hb dX7_text_12 rfl (lv_at hl 0 rfl) ?_
  refine lv_iconst (v := 0) hx hb dX7_text_13 (by decide) ?_
  refine va_put (D := D) (ci := 7) (v := .int 0) (ty := .int) (C := RX7) (T := TX7) (N := 56) hx hb hts (fun _ h => List.mem_cons_of_mem _ (List.mem_append_right _ h)) tyX7 tyX7_ok nmX7 hown hK hP hD hS 0 rfl rfl 3 (by decide) (hts (.fieldLink RX7 136 "CrownTableModel" "at" "I") (mem_i 2 rfl)) (fun _ h9 => h9) rfl (by decide +kernel) rfl rfl (Nat.le_of_ble_eq_true rfl) dX7_text_14 (fun H locs hP hD hS => ?_)
  have hP : va_P D vwCl [(h0, .inr (7, o7 q v0 w0)), (q 9, .inl (c 1, 10, .inl (fun _ => 0))), (q 12, .inl (c 1, 400, .inl (fun _ => 0))), (q 13, .inl (c 1, 400, .inl (fun _ => 0)))] H := hP
  have hD : va_D A [(h0, .inr (7, o7 q v0 w0)), (q 9, .inl (c 1, 10, .inl (fun _ => 0))), (q 12, .inl (c 1, 400, .inl (fun _ => 0))), (q 13, .inl (c 1, 400, .inl (fun _ => 0)))] := hD
  refine lv_aload_n hx hb dX7_text_17 rfl (lv_at hl 0 rfl) ?_
  refine lv_iconst (v := (-1)) hx hb dX7_text_18 (by decide) ?_
  refine va_put (D := D) (ci := 7) (v := .int (-1)) (ty := .int) (C := RX7) (T := TX7) (N := 56) hx hb hts (fun _ h => List.mem_cons_of_mem _ (List.mem_append_right _ h)) tyX7 tyX7_ok nmX7 hown hK hP hD hS 0 rfl rfl 17 (by decide) (hts (.fieldLink RX7 208 "CrownTableModel" "fault" "I") (mem_i 3 rfl)) (fun _ h9 => h9) rfl (by decide +kernel) rfl rfl (Nat.le_of_ble_eq_true rfl) dX7_text_19 (fun H locs hP hD hS => ?_)
  have hP : va_P D vwCl [(h0, .inr (7, o7 q (upd v0 17 (-1)) w0)), (q 9, .inl (c 1, 10, .inl (fun _ => 0))), (q 12, .inl (c 1, 400, .inl (fun _ => 0))), (q 13, .inl (c 1, 400, .inl (fun _ => 0)))] H := hP
  have hD : va_D A [(h0, .inr (7, o7 q (upd v0 17 (-1)) w0)), (q 9, .inl (c 1, 10, .inl (fun _ => 0))), (q 12, .inl (c 1, 400, .inl (fun _ => 0))), (q 13, .inl (c 1, 400, .inl (fun _ => 0)))] := hD
  refine lv_aload_n hx hb dX7_text_22 rfl (lv_at hl 0 rfl) ?_
  refine va_get (D := D) (ci := 7) (v := .int 0) (C := RX7) (T := TX7) (N := 56) hx hb hts (fun _ h => List.mem_cons_of_mem _ (List.mem_append_right _ h)) hown hK hP 0 rfl rfl 8 (by decide) (hts (.fieldLink RX7 220 "CrownTableModel" "texts" "I") (mem_i 1 rfl)) (fun _ h9 => h9) rfl dX7_text_23 ?_
  refine lv_istore_n (lv' := [(1, .int 0), (0, .ref h0)]) hx hb dX7_text_26 rfl hl (by decide) rfl (fun ls hl => ?_)
  refine lv_aload_n hx hb dX7_text_27 rfl (lv_at hl 1 rfl) ?_
  refine lv_sipush (v := 900) hx hb dX7_text_28 (by decide) ?_
  refine lv_iload_n hx hb dX7_text_31 rfl (lv_at hl 0 rfl) ?_
  refine lv_imul hx hb dX7_text_32 ?_
  refine lk_i (y := 0) (by decide) ?_
  refine va_put (D := D) (ci := 7) (v := .int 0) (ty := .int) (C := RX7) (T := TX7) (N := 56) hx hb hts (fun _ h => List.mem_cons_of_mem _ (List.mem_append_right _ h)) tyX7 tyX7_ok nmX7 hown hK hP hD hS 0 rfl rfl 16 (by decide) (hts (.fieldLink RX7 217 "CrownTableModel" "laid" "I") (mem_i 4 rfl)) (fun _ h9 => h9) rfl (by decide +kernel) rfl rfl (Nat.le_of_ble_eq_true rfl) dX7_text_33 (fun H locs hP hD hS => ?_)
  have hP : va_P D vwCl [(h0, .inr (7, o7 q (upd v0 17 (-1)) w0)), (q 9, .inl (c 1, 10, .inl (fun _ => 0))), (q 12, .inl (c 1, 400, .inl (fun _ => 0))), (q 13, .inl (c 1, 400, .inl (fun _ => 0)))] H := hP
  have hD : va_D A [(h0, .inr (7, o7 q (upd v0 17 (-1)) w0)), (q 9, .inl (c 1, 10, .inl (fun _ => 0))), (q 12, .inl (c 1, 400, .inl (fun _ => 0))), (q 13, .inl (c 1, 400, .inl (fun _ => 0)))] := hD
  refine lv_aload_n hx hb dX7_text_36 rfl (lv_at hl 1 rfl) ?_
  refine va_get (D := D) (ci := 7) (v := .ref (q 9)) (C := RX7) (T := TX7) (N := 56) hx hb hts (fun _ h => List.mem_cons_of_mem _ (List.mem_append_right _ h)) hown hK hP 0 rfl rfl 9 (by decide) (hts (.fieldLink RX7 13 "CrownTableModel" "many" "[I") (mem_i 5 rfl)) (fun _ h9 => h9) rfl dX7_text_37 ?_
  refine lv_iload_n hx hb dX7_text_40 rfl (lv_at hl 0 rfl) ?_
  refine lv_iconst (v := 0) hx hb dX7_text_41 (by decide) ?_
  refine va_iast hx hb hK hP hD hS 1 1 rfl rfl (vin (a := 0) (by decide) (by decide) (by decide)) dX7_text_42 (fun H locs hP hD hS => ?_)
  rw [upd_id] at hP hD
  have hP : va_P D vwCl [(h0, .inr (7, o7 q (upd v0 17 (-1)) w0)), (q 9, .inl (c 1, 10, .inl (fun _ => 0))), (q 12, .inl (c 1, 400, .inl (fun _ => 0))), (q 13, .inl (c 1, 400, .inl (fun _ => 0)))] H := hP
  have hD : va_D A [(h0, .inr (7, o7 q (upd v0 17 (-1)) w0)), (q 9, .inl (c 1, 10, .inl (fun _ => 0))), (q 12, .inl (c 1, 400, .inl (fun _ => 0))), (q 13, .inl (c 1, 400, .inl (fun _ => 0)))] := hD
  refine lv_aload_n hx hb dX7_text_43 rfl (lv_at hl 1 rfl) ?_
  have hPc := hP.sub (ws' := [(h0, .inr (7, o7 q (upd v0 17 (-1)) w0))]) [0] rfl
  have hDc := hD.sub (ws' := [(h0, .inr (7, o7 q (upd v0 17 (-1)) w0))]) [0] (by decide) rfl
  have hFc := va_free (wc := [(h0, .inr (7, o7 q (upd v0 17 (-1)) w0))]) hD hS hA [0] rfl
  refine va_callv (va_runV (As := []) (rest := []) ⟨hx, hb, hml, hown, hts⟩ (c_X7_advance l D c ts H.size q h0) (cwV 0 hts gX7_text_X7_advance rfl rfl rfl ⟨rfl, hdX7_advance⟩ ⟨(show 0 + 1 ≤ 2 by decide), (show 8 + (5 + 11) + 0 ≤ 45 by decide)⟩) ⟨Pre0.blind, va_recv hK hPc (ci := 7) (q0 := 0) rfl rfl, Pre0.at hPc hDc hAm hSt hS hFc⟩ rfl rfl hl.1 rfl (lv_room (Nat.le_of_ble_eq_true rfl)) dX7_text_44 ⟨(show 0 + 0 ≤ 0 by decide), (show 0 + 0 ≤ 0 by decide)⟩) hS (fun q _ h => hFc q h) hFc (fun u_3 t1 H locs ht hvm hw_1 hB hz1 hk1 hS => ?_)
  obtain ⟨hP1, hD1⟩ := hB
  rw [ht] at hP1
  obtain ⟨hP, hD⟩ := va_join (wr := [(q 9, .inl (c 1, 10, .inl (fun _ => 0))), (q 12, .inl (c 1, 400, .inl (fun _ => 0))), (q 13, .inl (c 1, 400, .inl (fun _ => 0)))]) (w1 := [(h0, .inr (7, o7 q (upd v0 17 (-1)) w0))]) hP hD [0] [1, 2, 3] rfl rfl (by decide) (by decide) hk1 hFc hP1 hD1
  have hP : va_P D vwCl [(q 9, .inl (c 1, 10, .inl (fun _ => 0))), (q 12, .inl (c 1, 400, .inl (fun _ => 0))), (q 13, .inl (c 1, 400, .inl (fun _ => 0))), (h0, .inr (7, o7 q (upd v0 17 (-1)) w0))] H := hP
  have hD : va_D A [(q 9, .inl (c 1, 10, .inl (fun _ => 0))), (q 12, .inl (c 1, 400, .inl (fun _ => 0))), (q 13, .inl (c 1, 400, .inl (fun _ => 0))), (h0, .inr (7, o7 q (upd v0 17 (-1)) w0))] := hD
  refine W.widen (k := 0) (n := 0) (by omega) (by omega) ?_
  refine lv_aload_n hx hb dX7_text_47 rfl (lv_at hl 1 rfl) ?_
  refine lv_iload_n hx hb dX7_text_48 rfl (lv_at hl 0 rfl) ?_
  have hPc := hP.sub (ws' := [(h0, .inr (7, o7 q (upd v0 17 (-1)) w0)), (q 9, .inl (c 1, 10, .inl (fun _ => 0))), (q 12, .inl (c 1, 400, .inl (fun _ => 0))), (q 13, .inl (c 1, 400, .inl (fun _ => 0)))]) [3, 0, 1, 2] rfl
  have hDc := hD.sub (ws' := [(h0, .inr (7, o7 q (upd v0 17 (-1)) w0)), (q 9, .inl (c 1, 10, .inl (fun _ => 0))), (q 12, .inl (c 1, 400, .inl (fun _ => 0))), (q 13, .inl (c 1, 400, .inl (fun _ => 0)))]) [3, 0, 1, 2] (by decide) rfl
  have hFc := va_free (wc := [(h0, .inr (7, o7 q (upd v0 17 (-1)) w0)), (q 9, .inl (c 1, 10, .inl (fun _ => 0))), (q 12, .inl (c 1, 400, .inl (fun _ => 0))), (q 13, .inl (c 1, 400, .inl (fun _ => 0)))]) hD hS hA [3, 0, 1, 2] rfl
  refine va_callv (va_runV (As := [.int 0]) (rest := []) ⟨hx, hb, hml, hown, hts⟩ (c_X7_statement l D c ts H.size q h0) (cwV 1 hts gX7_text_X7_statement rfl rfl rfl ⟨rfl, hdX7_statement⟩ ⟨(show 1 + 1 ≤ 2 by decide), (show 8 + (4 + 11) + 22 ≤ 45 by decide)⟩) ⟨Pre0.blind, va_recv hK hPc (ci := 7) (q0 := 0) rfl rfl, Pre0.at hPc hDc hAm hSt hS hFc⟩ rfl rfl hl.1 rfl (lv_room (Nat.le_of_ble_eq_true rfl)) dX7_text_49 ⟨(show 0 + 0 ≤ 0 by decide), (show 0 + 0 ≤ 0 by decide)⟩) hS (fun q _ h => hFc q h) hFc (fun u_6 t1 H locs ht hvm hw_4 hB hz1 hk1 hS => ?_)
  obtain ⟨hP1, hD1⟩ := hB
  rw [ht] at hP1
  obtain ⟨hP, hD⟩ := va_join (wr := []) (w1 := [(q 9, .inl (c 1, 10, .inl (fun _ => 0))), (q 12, .inl (c 1, 400, .inl (fun _ => 0))), (q 13, .inl (c 1, 400, .inl (fun _ => 0))), (h0, .inr (7, o7 q v0 w0))]) hP hD [3, 0, 1, 2] [] rfl rfl (by decide) (by decide) hk1 hFc hP1 hD1
  have hP : va_P D vwCl [(q 9, .inl (c 1, 10, .inl (fun _ => 0))), (q 12, .inl (c 1, 400, .inl (fun _ => 0))), (q 13, .inl (c 1, 400, .inl (fun _ => 0))), (h0, .inr (7, o7 q v0 w0))] H := hP
  have hD : va_D A [(q 9, .inl (c 1, 10, .inl (fun _ => 0))), (q 12, .inl (c 1, 400, .inl (fun _ => 0))), (q 13, .inl (c 1, 400, .inl (fun _ => 0))), (h0, .inr (7, o7 q v0 w0))] := hD
  refine W.widen (k := 0) (n := 0) (by omega) (by omega) ?_
  refine lv_aload_n hx hb dX7_text_52 rfl (lv_at hl 1 rfl) ?_
  refine va_get (D := D) (ci := 7) (v := .int 0) (C := RX7) (T := TX7) (N := 56) hx hb hts (fun _ h => List.mem_cons_of_mem _ (List.mem_append_right _ h)) hown hK hP 3 rfl rfl 17 (by decide) (hts (.fieldLink RX7 208 "CrownTableModel" "fault" "I") (mem_i 3 rfl)) (fun _ h9 => h9) rfl dX7_text_53 ?_
  refine iif_geT (a := 0) (tgt := 66) hx hb (by decide) dX7_text_56 (by decide) (by decide) ?_
  refine lv_aload_n hx hb dX7_text_66 rfl (lv_at hl 1 rfl) ?_
  refine lv_iconst (v := 0) hx hb dX7_text_67 (by decide) ?_
  refine va_put (D := D) (ci := 7) (v := .int 0) (ty := .int) (C := RX7) (T := TX7) (N := 56) hx hb hts (fun _ h => List.mem_cons_of_mem _ (List.mem_append_right _ h)) tyX7 tyX7_ok nmX7 hown hK hP hD hS 3 rfl rfl 2 (by decide) (hts (.fieldLink RX7 125 "CrownTableModel" "taped" "I") (mem_i 7 rfl)) (fun _ h9 => h9) rfl (by decide +kernel) rfl rfl (Nat.le_of_ble_eq_true rfl) dX7_text_68 (fun H locs hP hD hS => ?_)
  have hP : va_P D vwCl [(q 9, .inl (c 1, 10, .inl (fun _ => 0))), (q 12, .inl (c 1, 400, .inl (fun _ => 0))), (q 13, .inl (c 1, 400, .inl (fun _ => 0))), (h0, .inr (7, o7 q v0 w0))] H := hP
  have hD : va_D A [(q 9, .inl (c 1, 10, .inl (fun _ => 0))), (q 12, .inl (c 1, 400, .inl (fun _ => 0))), (q 13, .inl (c 1, 400, .inl (fun _ => 0))), (h0, .inr (7, o7 q v0 w0))] := hD
  refine lv_aload_n hx hb dX7_text_71 rfl (lv_at hl 1 rfl) ?_
  refine va_get (D := D) (ci := 7) (v := .int 0) (C := RX7) (T := TX7) (N := 56) hx hb hts (fun _ h => List.mem_cons_of_mem _ (List.mem_append_right _ h)) hown hK hP 3 rfl rfl 17 (by decide) (hts (.fieldLink RX7 208 "CrownTableModel" "fault" "I") (mem_i 3 rfl)) (fun _ h9 => h9) rfl dX7_text_72 ?_
  refine iif_ltF (a := 0) (tgt := 86) hx hb (by decide) dX7_text_75 (by decide) (by decide) ?_
  refine lv_bipush (v := (-100)) hx hb dX7_text_78 (by decide) ?_
  refine lv_aload_n hx hb dX7_text_80 rfl (lv_at hl 1 rfl) ?_
  refine va_get (D := D) (ci := 7) (v := .int 0) (C := RX7) (T := TX7) (N := 56) hx hb hts (fun _ h => List.mem_cons_of_mem _ (List.mem_append_right _ h)) hown hK hP 3 rfl rfl 17 (by decide) (hts (.fieldLink RX7 208 "CrownTableModel" "fault" "I") (mem_i 3 rfl)) (fun _ h9 => h9) rfl dX7_text_81 ?_
  refine lv_isub hx hb dX7_text_84 ?_
  refine lk_i (y := (-100)) (by decide) ?_
  refine W.widen (k := 0) (n := 0) (by omega) (by omega) ?_
  exact W.iret (v := (-100)) hx hb hr (fun t ht hW => ⟨⟨_, (), rfl, rfl, trivial⟩, hS.F ht⟩) hS.2.2 dX7_text_85
