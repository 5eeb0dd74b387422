set_option maxHeartbeats 4000000 in
set_option maxRecDepth 100000 in
theorem c_X6_count (l : Launch) (D : va_G) (c : Nat → ClassId) (ts : Nat × Nat) (sz : Nat) (q : Nat → Nat) (h0 : Nat) (a1 : Int32) (i_a1 : Int) (hi_a1 : a1.toInt = i_a1) : Met l yX6_count wsX6_count ({ frames := 0, cells := 0, slots := 0, locals := 0 }) (va_Pc [.ref h0, .int a1] (Pre0 D c ts [(h0, .inr (6, o6 q 0 0 0 0)), (q 0, .inr (3, [.ref (q 1), .int 0])), (q 19, .inr (2, [.int 7, .int 400, .ref (q 20), .int 0])), (q 21, .inr (2, [.int 8, .int 4000, .ref (q 22), .int 0])), (q 23, .inr (2, [.int 1, .int 2000, .ref (q 24), .int 0]))] sz)) (vp_Si (fun r : Int32 => ((0 ≤ i_a1 ∧ i_a1 ≤ 5) ∧ r = 0) ∨ ((¬ (0 ≤ i_a1 ∧ i_a1 ≤ 5)) ∧ r = (-1)))) 0 0 (fun _ => False) := by
  refine Met.ofW (cc := cX6_count) (maxL := 2) (ret := (some .int)) (by decide) rfl ?_
  intro p e s m args below meth cd s₁ B hml hv
  obtain ⟨rfl, hsz, hP, hD0, hAm, hSt⟩ := hv
  have hx := B.exec
  have hb := B.bytes
  have hr := B.returns
  have hts := atoms_spec (ws := wsX6_count) B.pre
  have hown : s.vm.findClass RX6 = some m.cls := findClass_of_methodNamed B.named
  have hlocks := B.notSynchronized
  subst hsz
  have hK := hAm.1
  have hD := hD0.self (sz := s.heap.size)
  generalize hAe : va_A [(h0, .inr (6, o6 q 0 0 0 0)), (q 0, .inr (3, [.ref (q 1), .int 0])), (q 19, .inr (2, [.int 7, .int 400, .ref (q 20), .int 0])), (q 21, .inr (2, [.int 8, .int 4000, .ref (q 22), .int 0])), (q 23, .inr (2, [.int 1, .int 2000, .ref (q 24), .int 0]))] s.heap.size = A at hD hSt
  have hA : ∀ q : Nat, s.heap.size ≤ q → A q := fun q h => by rw [← hAe]; exact Or.inr h
  have hS : va_S A s.heap s.heap [] := va_S.rf
  clear hD0 hAe
  have hl := lv_entry ([.ref h0, .int a1]) (n := 2) (Nat.le_of_ble_eq_true rfl)
  rw [lg_entry_eq]
  generalize (lg_sl ([.ref h0, .int a1]) ++ List.replicate (2 - (lg_sl ([.ref h0, .int a1])).length) Slot.unset).toArray = ls at hl ⊢
  have hl : lv_has ls 2 [(0, .ref h0), (1, .int a1)] := hl
  refine lv_iload_n hx hb dX6_count_0 rfl (lv_at hl 1 rfl) ?_
  by_cases k_1 : i_a1 = 0
  · have ek_1 : a1.toInt = 0 := hi_a1.trans k_1
    refine lv_tableIn (tgt := 40) hx hb dX6_count_1 (by rw [ek_1]; decide) (by rw [ek_1]; decide) (by rw [ek_1]; rfl) (by decide) ?_
    refine lv_aload_n hx hb dX6_count_40 rfl (lv_at hl 0 rfl) ?_
    refine va_get (D := D) (ci := 6) (v := .ref (q 19)) (C := RX6) (T := TX6) (N := 18) hx hb hts (fun _ h => List.mem_cons_of_mem _ (List.mem_append_left _ (List.mem_append_left _ (List.mem_append_right _ h)))) hown hK hP 0 rfl rfl 11 (by decide) (hts (.fieldLink RX6 65 "CrownTable" "debts" "LCrownTable$Rows;") (mem_i 1 rfl)) (fun _ h9 => h9) rfl dX6_count_41 ?_
    refine va_getN (D := D) (ci := 2) (v := .int 0) (own := RX6) (ref := "CrownTable$Rows") (host := RX6) (index := 155) (C := RX2) (T := TX2) (N := 4) hx hb hts (fun _ h => List.mem_cons_of_mem _ (List.mem_append_left _ (List.mem_append_right _ h))) hown hK hP 2 rfl rfl 3 (by decide) (show (Cond.fieldLinkNest RX6 155 "CrownTable$Rows" "size" "I" RX6).before _ _ = true from va_Nw.use rfl (hAm.2.1.2 (RX6, 155, "CrownTable$Rows", "size", "I", RX6) (mem_i 3 rfl))) (fun _ h9 => h9) rfl dX6_count_44 ?_
    exact W.iret (v := 0) hx hb hr (fun t ht hW => ⟨_, rfl, Or.inl ⟨by omega, rfl⟩, ht⟩) (fun _ h => by cases h) dX6_count_47
  by_cases k_2 : i_a1 = 1
  · have ek_2 : a1.toInt = 1 := hi_a1.trans k_2
    refine lv_tableIn (tgt := 48) hx hb dX6_count_1 (by rw [ek_2]; decide) (by rw [ek_2]; decide) (by rw [ek_2]; rfl) (by decide) ?_
    refine lv_aload_n hx hb dX6_count_48 rfl (lv_at hl 0 rfl) ?_
    refine va_get (D := D) (ci := 6) (v := .ref (q 21)) (C := RX6) (T := TX6) (N := 18) hx hb hts (fun _ h => List.mem_cons_of_mem _ (List.mem_append_left _ (List.mem_append_left _ (List.mem_append_right _ h)))) hown hK hP 0 rfl rfl 12 (by decide) (hts (.fieldLink RX6 68 "CrownTable" "roll" "LCrownTable$Rows;") (mem_i 2 rfl)) (fun _ h9 => h9) rfl dX6_count_49 ?_
    refine va_getN (D := D) (ci := 2) (v := .int 0) (own := RX6) (ref := "CrownTable$Rows") (host := RX6) (index := 155) (C := RX2) (T := TX2) (N := 4) hx hb hts (fun _ h => List.mem_cons_of_mem _ (List.mem_append_left _ (List.mem_append_right _ h))) hown hK hP 3 rfl rfl 3 (by decide) (show (Cond.fieldLinkNest RX6 155 "CrownTable$Rows" "size" "I" RX6).before _ _ = true from va_Nw.use rfl (hAm.2.1.2 (RX6, 155, "CrownTable$Rows", "size", "I", RX6) (mem_i 3 rfl))) (fun _ h9 => h9) rfl dX6_count_52 ?_
    exact W.iret (v := 0) hx hb hr (fun t ht hW => ⟨_, rfl, Or.inl ⟨by omega, rfl⟩, ht⟩) (fun _ h => by cases h) dX6_count_55
  by_cases k_3 : i_a1 = 2
  · have ek_3 : a1.toInt = 2 := hi_a1.trans k_3
    refine lv_tableIn (tgt := 56) hx hb dX6_count_1 (by rw [ek_3]; decide) (by rw [ek_3]; decide) (by rw [ek_3]; rfl) (by decide) ?_
    refine lv_aload_n hx hb dX6_count_56 rfl (lv_at hl 0 rfl) ?_
    refine va_get (D := D) (ci := 6) (v := .ref (q 23)) (C := RX6) (T := TX6) (N := 18) hx hb hts (fun _ h => List.mem_cons_of_mem _ (List.mem_append_left _ (List.mem_append_left _ (List.mem_append_right _ h)))) hown hK hP 0 rfl rfl 13 (by decide) (hts (.fieldLink RX6 71 "CrownTable" "sticks" "LCrownTable$Rows;") (mem_i 3 rfl)) (fun _ h9 => h9) rfl dX6_count_57 ?_
    refine va_getN (D := D) (ci := 2) (v := .int 0) (own := RX6) (ref := "CrownTable$Rows") (host := RX6) (index := 155) (C := RX2) (T := TX2) (N := 4) hx hb hts (fun _ h => List.mem_cons_of_mem _ (List.mem_append_left _ (List.mem_append_right _ h))) hown hK hP 4 rfl rfl 3 (by decide) (show (Cond.fieldLinkNest RX6 155 "CrownTable$Rows" "size" "I" RX6).before _ _ = true from va_Nw.use rfl (hAm.2.1.2 (RX6, 155, "CrownTable$Rows", "size", "I", RX6) (mem_i 3 rfl))) (fun _ h9 => h9) rfl dX6_count_60 ?_
    exact W.iret (v := 0) hx hb hr (fun t ht hW => ⟨_, rfl, Or.inl ⟨by omega, rfl⟩, ht⟩) (fun _ h => by cases h) dX6_count_63
  by_cases k_4 : i_a1 = 3
  · have ek_4 : a1.toInt = 3 := hi_a1.trans k_4
    refine lv_tableIn (tgt := 64) hx hb dX6_count_1 (by rw [ek_4]; decide) (by rw [ek_4]; decide) (by rw [ek_4]; rfl) (by decide) ?_
    refine lv_aload_n hx hb dX6_count_64 rfl (lv_at hl 0 rfl) ?_
    refine va_get (D := D) (ci := 6) (v := .int 0) (C := RX6) (T := TX6) (N := 18) hx hb hts (fun _ h => List.mem_cons_of_mem _ (List.mem_append_left _ (List.mem_append_left _ (List.mem_append_right _ h)))) hown hK hP 0 rfl rfl 4 (by decide) (hts (.fieldLink RX6 99 "CrownTable" "textsRead" "I") (mem_i 4 rfl)) (fun _ h9 => h9) rfl dX6_count_65 ?_
    exact W.iret (v := 0) hx hb hr (fun t ht hW => ⟨_, rfl, Or.inl ⟨by omega, rfl⟩, ht⟩) (fun _ h => by cases h) dX6_count_68
  by_cases k_5 : i_a1 = 4
  · have ek_5 : a1.toInt = 4 := hi_a1.trans k_5
    refine lv_tableIn (tgt := 69) hx hb dX6_count_1 (by rw [ek_5]; decide) (by rw [ek_5]; decide) (by rw [ek_5]; rfl) (by decide) ?_
    refine lv_aload_n hx hb dX6_count_69 rfl (lv_at hl 0 rfl) ?_
    refine va_get (D := D) (ci := 6) (v := .int 0) (C := RX6) (T := TX6) (N := 18) hx hb hts (fun _ h => List.mem_cons_of_mem _ (List.mem_append_left _ (List.mem_append_left _ (List.mem_append_right _ h)))) hown hK hP 0 rfl rfl 15 (by decide) (hts (.fieldLink RX6 120 "CrownTable" "now" "I") (mem_i 5 rfl)) (fun _ h9 => h9) rfl dX6_count_70 ?_
    exact W.iret (v := 0) hx hb hr (fun t ht hW => ⟨_, rfl, Or.inl ⟨by omega, rfl⟩, ht⟩) (fun _ h => by cases h) dX6_count_73
  by_cases k_6 : i_a1 = 5
  · have ek_6 : a1.toInt = 5 := hi_a1.trans k_6
    refine lv_tableIn (tgt := 74) hx hb dX6_count_1 (by rw [ek_6]; decide) (by rw [ek_6]; decide) (by rw [ek_6]; rfl) (by decide) ?_
    refine lv_aload_n hx hb dX6_count_74 rfl (lv_at hl 0 rfl) ?_
    refine va_get (D := D) (ci := 6) (v := .ref (q 0)) (C := RX6) (T := TX6) (N := 18) hx hb hts (fun _ h => List.mem_cons_of_mem _ (List.mem_append_left _ (List.mem_append_left _ (List.mem_append_right _ h)))) hown hK hP 0 rfl rfl 0 (by decide) (hts (.fieldLink RX6 10 "CrownTable" "tape" "LCrownTable$Tape;") (mem_i 6 rfl)) (fun _ h9 => h9) rfl dX6_count_75 ?_
    refine va_getN (D := D) (ci := 3) (v := .int 0) (own := RX6) (ref := "CrownTable$Tape") (host := RX6) (index := 95) (C := RX3) (T := TX3) (N := 2) hx hb hts (fun _ h => List.mem_cons_of_mem _ (List.mem_append_right _ h)) hown hK hP 1 rfl rfl 1 (by decide) (show (Cond.fieldLinkNest RX6 95 "CrownTable$Tape" "length" "I" RX6).before _ _ = true from va_Nw.use rfl (hAm.2.1.2 (RX6, 95, "CrownTable$Tape", "length", "I", RX6) (mem_i 0 rfl))) (fun _ h9 => h9) rfl dX6_count_78 ?_
    exact W.iret (v := 0) hx hb hr (fun t ht hW => ⟨_, rfl, Or.inl ⟨by omega, rfl⟩, ht⟩) (fun _ h => by cases h) dX6_count_81
  refine lv_tableOut (tgt := 82) hx hb dX6_count_1 (by rw [hi_a1]; omega) (by decide) ?_
  refine lv_iconst (v := (-1)) hx hb dX6_count_82 (by decide) ?_
  exact W.iret (v := (-1)) hx hb hr (fun t ht hW => ⟨_, rfl, Or.inr (⟨by omega, rfl⟩), ht⟩) (fun _ h => by cases h) dX6_count_83

set_option maxHeartbeats 4000000 in
set_option maxRecDepth 100000 in
theorem c_X7_count (l : Launch) (D : va_G) (c : Nat → ClassId) (ts : Nat × Nat) (sz : Nat) (q : Nat → Nat) (h0 : Nat) (a1 : Int32) (i_a1 : Int) (hi_a1 : a1.toInt = i_a1) : Met l yX7_count wsX7_count ({ frames := 0, cells := 0, slots := 0, locals := 0 }) (va_Pc [.ref h0, .int a1] (Pre0 D c ts [(h0, .inr (7, o7 q v0 w0))] sz)) (vp_Si (fun r : Int32 => ((0 ≤ i_a1 ∧ i_a1 ≤ 5) ∧ r = 0) ∨ ((¬ (0 ≤ i_a1 ∧ i_a1 ≤ 5)) ∧ r = (-1)))) 0 0 (fun _ => False) := by
  refine Met.ofW (cc := cX7_count) (maxL := 2) (ret := (some .int)) (by decide) rfl ?_
  intro p e s m args below meth cd s₁ B hml hv
  obtain ⟨rfl, hsz, hP, hD0, hAm, hSt⟩ := hv
  have hx := B.exec
  have hb := B.bytes
  have hr := B.returns
  have hts := atoms_spec (ws := wsX7_count) B.pre
  have hown : s.vm.findClass RX7 = some m.cls := findClass_of_methodNamed B.named
  have hlocks := B.notSynchronized
  subst hsz
  have hK := hAm.1
  have hD := hD0.self (sz := s.heap.size)
  generalize hAe : va_A [(h0, .inr (7, o7 q v0 w0))] s.heap.size = A at hD hSt
  have hA : ∀ q : Nat, s.heap.size ≤ q → A q := fun q h => by rw [← hAe]; exact Or.inr h
  have hS : va_S A s.heap s.heap [] := va_S.rf
  clear hD0 hAe
  have hl := lv_entry ([.ref h0, .int a1]) (n := 2) (Nat.le_of_ble_eq_true rfl)
  rw [lg_entry_eq]
  generalize (lg_sl ([.ref h0, .int a1]) ++ List.replicate (2 - (lg_sl ([.ref h0, .int a1])).length) Slot.unset).toArray = ls at hl ⊢
  have hl : lv_has ls 2 [(0, .ref h0), (1, .int a1)] := hl
  refine lv_iload_n hx hb dX7_count_0 rfl (lv_at hl 1 rfl) ?_
  by_cases k_1 : i_a1 = 0
  · have ek_1 : a1.toInt = 0 := hi_a1.trans k_1
    refine lv_tableIn (tgt := 40) hx hb dX7_count_1 (by rw [ek_1]; decide) (by rw [ek_1]; decide) (by rw [ek_1]; rfl) (by decide) ?_
    refine lv_aload_n hx hb dX7_count_40 rfl (lv_at hl 0 rfl) ?_
    refine va_get (D := D) (ci := 7) (v := .int 0) (C := RX7) (T := TX7) (N := 56) hx hb hts (fun _ h => List.mem_cons_of_mem _ (List.mem_append_right _ h)) hown hK hP 0 rfl rfl 27 (by decide) (hts (.fieldLink RX7 277 "CrownTableModel" "debts" "I") (mem_i 1 rfl)) (fun _ h9 => h9) rfl dX7_count_41 ?_
    exact W.iret (v := 0) hx hb hr (fun t ht hW => ⟨_, rfl, Or.inl ⟨by omega, rfl⟩, ht⟩) (fun _ h => by cases h) dX7_count_44
  by_cases k_2 : i_a1 = 1
  · have ek_2 : a1.toInt = 1 := hi_a1.trans k_2
    refine lv_tableIn (tgt := 45) hx hb dX7_count_1 (by rw [ek_2]; decide) (by rw [ek_2]; decide) (by rw [ek_2]; rfl) (by decide) ?_
    refine lv_aload_n hx hb dX7_count_45 rfl (lv_at hl 0 rfl) ?_
    refine va_get (D := D) (ci := 7) (v := .int 0) (C := RX7) (T := TX7) (N := 56) hx hb hts (fun _ h => List.mem_cons_of_mem _ (List.mem_append_right _ h)) hown hK hP 0 rfl rfl 42 (by decide) (hts (.fieldLink RX7 319 "CrownTableModel" "lines" "I") (mem_i 2 rfl)) (fun _ h9 => h9) rfl dX7_count_46 ?_
    exact W.iret (v := 0) hx hb hr (fun t ht hW => ⟨_, rfl, Or.inl ⟨by omega, rfl⟩, ht⟩) (fun _ h => by cases h) dX7_count_49
  by_cases k_3 : i_a1 = 2
  · have ek_3 : a1.toInt = 2 := hi_a1.trans k_3
    refine lv_tableIn (tgt := 50) hx hb dX7_count_1 (by rw [ek_3]; decide) (by rw [ek_3]; decide) (by rw [ek_3]; rfl) (by decide) ?_
    refine lv_aload_n hx hb dX7_count_50 rfl (lv_at hl 0 rfl) ?_
    refine va_get (D := D) (ci := 7) (v := .int 0) (C := RX7) (T := TX7) (N := 56) hx hb hts (fun _ h => List.mem_cons_of_mem _ (List.mem_append_right _ h)) hown hK hP 0 rfl rfl 52 (by decide) (hts (.fieldLink RX7 322 "CrownTableModel" "sticks" "I") (mem_i 3 rfl)) (fun _ h9 => h9) rfl dX7_count_51 ?_
    exact W.iret (v := 0) hx hb hr (fun t ht hW => ⟨_, rfl, Or.inl ⟨by omega, rfl⟩, ht⟩) (fun _ h => by cases h) dX7_count_54
  by_cases k_4 : i_a1 = 3
  · have ek_4 : a1.toInt = 3 := hi_a1.trans k_4
    refine lv_tableIn (tgt := 55) hx hb dX7_count_1 (by rw [ek_4]; decide) (by rw [ek_4]; decide) (by rw [ek_4]; rfl) (by decide) ?_
    refine lv_aload_n hx hb dX7_count_55 rfl (lv_at hl 0 rfl) ?_
    refine va_get (D := D) (ci := 7) (v := .int 0) (C := RX7) (T := TX7) (N := 56) hx hb hts (fun _ h => List.mem_cons_of_mem _ (List.mem_append_right _ h)) hown hK hP 0 rfl rfl 8 (by decide) (hts (.fieldLink RX7 220 "CrownTableModel" "texts" "I") (mem_i 4 rfl)) (fun _ h9 => h9) rfl dX7_count_56 ?_
    exact W.iret (v := 0) hx hb hr (fun t ht hW => ⟨_, rfl, Or.inl ⟨by omega, rfl⟩, ht⟩) (fun _ h => by cases h) dX7_count_59
  by_cases k_5 : i_a1 = 4
  · have ek_5 : a1.toInt = 4 := hi_a1.trans k_5
    refine lv_tableIn (tgt := 60) hx hb dX7_count_1 (by rw [ek_5]; decide) (by rw [ek_5]; decide) (by rw [ek_5]; rfl) (by decide) ?_
    refine lv_aload_n hx hb dX7_count_60 rfl (lv_at hl 0 rfl) ?_
    refine va_get (D := D) (ci := 7) (v := .int 0) (C := RX7) (T := TX7) (N := 56) hx hb hts (fun _ h => List.mem_cons_of_mem _ (List.mem_append_right _ h)) hown hK hP 0 rfl rfl 24 (by decide) (hts (.fieldLink RX7 267 "CrownTableModel" "term" "I") (mem_i 5 rfl)) (fun _ h9 => h9) rfl dX7_count_61 ?_
    exact W.iret (v := 0) hx hb hr (fun t ht hW => ⟨_, rfl, Or.inl ⟨by omega, rfl⟩, ht⟩) (fun _ h => by cases h) dX7_count_64
  by_cases k_6 : i_a1 = 5
  · have ek_6 : a1.toInt = 5 := hi_a1.trans k_6
    refine lv_tableIn (tgt := 65) hx hb dX7_count_1 (by rw [ek_6]; decide) (by rw [ek_6]; decide) (by rw [ek_6]; rfl) (by decide) ?_
    refine lv_aload_n hx hb dX7_count_65 rfl (lv_at hl 0 rfl) ?_
    refine va_get (D := D) (ci := 7) (v := .int 0) (C := RX7) (T := TX7) (N := 56) hx hb hts (fun _ h => List.mem_cons_of_mem _ (List.mem_append_right _ h)) hown hK hP 0 rfl rfl 2 (by decide) (hts (.fieldLink RX7 125 "CrownTableModel" "taped" "I") (mem_i 6 rfl)) (fun _ h9 => h9) rfl dX7_count_66 ?_
    exact W.iret (v := 0) hx hb hr (fun t ht hW => ⟨_, rfl, Or.inl ⟨by omega, rfl⟩, ht⟩) (fun _ h => by cases h) dX7_count_69
  refine lv_tableOut (tgt := 70) hx hb dX7_count_1 (by rw [hi_a1]; omega) (by decide) ?_
  refine lv_iconst (v := (-1)) hx hb dX7_count_70 (by decide) ?_
  exact W.iret (v := (-1)) hx hb hr (fun t ht hW => ⟨_, rfl, Or.inr (⟨by omega, rfl⟩), ht⟩) (fun _ h => by cases h) dX7_count_71
